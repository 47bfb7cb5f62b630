/-! THE LAW'S BUILDER (wip/p38/gen/build38.py): points that come; at least one does; marks 0 .. 4; nothing else told -/
theorem z_at {E : Ev} {M : Mo} {X : Mx} {cc : ByteArray} {nL : Nat} {σ : St} {pc : Nat} {L : List (Nat × Value)} {st : List Value} (C : CZ E M X cc RL nL) {k : Nat} (hk : k < 2 ^ 30) (hdg : decode cc pc = .ok (.invokestatic 10, 3)) (hl : Cond.methodLink RL 10 yL_at ∈ lw_tbl) (hd : 1 ≤ M.1.frames) (hm : 21 ≤ M.1.locals) (hr : (st.map fun v => v.category).sum ≤ 8) (kk : GZ E M X nL σ (pc + 3) L (.int (scV E k) :: st)) : GZ E M X nL σ pc L (.int (nI k) :: .ref (ev_s E 3) :: st) := by
  refine z_callS C (c_L_at (d := 0) hk) hdg hl kn_RL kc_yL_at ks_yL_at hd hm ⟨by decide, by decide, rfl⟩ rfl hr (fun r σ1 q => ?_)
  obtain ⟨q1, q2⟩ := q
  subst q1
  subst q2
  exact kk
def BuOk (s : Ms) : Prop := MsOk s ∧ (∀ p, p < s.1.1.1 → inB (s.1.1.2 p 3) 0 4 = true) ∧ s.1.2 = (rw0, rw0, rw0) ∧ s.2.2.2 = fun _ => (-1, 0, fun _ => 0)
theorem bu0 : BuOk msZ := ⟨ok0, fun p hp => absurd hp (Nat.not_lt_zero p), rfl, rfl⟩
theorem bu_tp {s : Ms} {x y z v : Int32} (h : BuOk s) : BuOk (tPoint s x y z v) := by
  obtain ⟨h1, h2, h3, h4⟩ := h
  refine ⟨ok_tPoint h1, ?_, ?_, ?_⟩
  · unfold tPoint
    split
    · exact h2
    · rename_i c
      split
      · exact h2
      · split
        · exact h2
        · intro p hp
          have c := Bool.not_eq_false _ ▸ c
          rw [Bool.and_eq_true] at c
          show inB (pAdd s.1.1.2 s.1.1.1 x y z v p 3) 0 4 = true
          have hp : p < s.1.1.1 + 1 := hp
          unfold pAdd
          by_cases e : p = s.1.1.1
          · rw [if_pos e]; exact c.2
          · rw [if_neg e]; exact h2 p (by omega)
  · unfold tPoint
    repeat' split
    all_goals exact h3
  · unfold tPoint
    repeat' split
    all_goals exact h4
theorem tp_1 {s : Ms} {x y z v : Int32} (h1 : plB x y z = true) (h2 : inB v 0 4 = true) : 1 ≤ (tPoint s x y z v).1.1.1 := by
  unfold tPoint
  rw [h1, h2, if_neg (by decide)]
  split
  · rename_i c
    rcases Nat.eq_zero_or_pos s.1.1.1 with e | e
    · rw [e] at c; exact absurd (show (none : Option Nat).isSome = true from c) (by decide)
    · exact e
  · split
    · rename_i c; omega
    · exact Nat.le_add_left 1 _
theorem pl_ok {x y z : Int32} (h1 : inB x (-3) 3 = true) (h2 : inB y (-3) 3 = true) (h3 : inB z (-3) 3 = true) : plB x y z = true := by
  unfold plB
  rw [h1, h2, h3]
  rfl
theorem pm3 : ∀ m, m ≤ 3 → inB (nI m) (-3) 3 = true ∧ inB (- nI m) (-3) 3 = true := by decide +kernel
theorem i04 : ∀ m, m ≤ 1 → inB (nI m) 0 4 = true := by decide +kernel

section BU
variable {E : Ev} {M : Mo} {X : Mx}
set_option maxHeartbeats 8000000 in
set_option maxRecDepth 100000 in
theorem bu_loop (C : CZ E M X cL_build RL 11) (hf : 4 ≤ M.1.frames) (hl : 152 ≤ M.1.locals) {n0 mo : Nat} {c : Int32} (hn0 : 1 ≤ n0) (hn8 : n0 ≤ 8) (hmo : mo ≤ 3) (kE : ∀ (σ : St) (s : Ms) (p : Nat), SyIs σ s → BuOk s → 1 ≤ s.1.1.1 → GZ E M X 11 σ 230 [(0, .ref (ev_s E 3)), (1, .ref (ev_a E 0)), (2, .int (nI n0)), (3, .int (nI mo)), (4, .int c), (5, .int (nI p))] []) : ∀ (t p : Nat) (σ : St) (s : Ms), n0 < p + t → p ≤ n0 → SyIs σ s → BuOk s → (0 < p → 1 ≤ s.1.1.1) → GZ E M X 11 σ 39 [(0, .ref (ev_s E 3)), (1, .ref (ev_a E 0)), (2, .int (nI n0)), (3, .int (nI mo)), (4, .int c), (5, .int (nI p))] [] := by
  intro t
  induction t with
  | zero => intro p σ s h1 h2; omega
  | succ t ih =>
    intro p σ s h1 h2 hs hb hp1
    refine z_iload C dL_build_39 rfl ?_
    refine z_iload_n C dL_build_41 rfl ?_
    first | refine z_icgeN C 230 dL_build_42 (by decide) (by omega) (by omega) (fun h42 => ?_) (fun h42 => ?_) | refine z_icge C 230 dL_build_42 (by decide) (fun h42 => ?_) (fun h42 => ?_)
    · exact kE σ s p hs hb (hp1 (by omega))
    · have k220 : ∀ (V : Int32) (A : Nat) (hA : A ≤ 3) (B : Nat) (hB : B ≤ 3) (Z : Nat) (hZ : Z ≤ 3) (q : Int32) (x : Int32) (y : Int32) (z : Int32) (v : Int32) (hx : plB x y z = true) (hv : inB v 0 4 = true), GZ E M X 11 σ 220 [(0, .ref (ev_s E 3)), (1, .ref (ev_a E 0)), (2, .int (nI n0)), (3, .int (nI mo)), (4, .int c), (5, .int (nI p)), (6, .int V), (7, .int (nI A)), (8, .int (nI B)), (9, .int (nI Z)), (10, .int q)] [.int v, .int z, .int y, .int x, .ref (ev_a E 0)] := by
        intro V A hA B hB Z hZ q x y z v hx hv
        refine z_sy C (c_X7_point (d := 0) hs) dL_build_220 km_RL_16 kc_yX7_point ki_yX7_point kx_yX7_point rfl (by omega) (by omega) rfl rfl (Nat.le_of_ble_eq_true rfl) (fun σ hs => ?_)
        refine z_pop1 C dL_build_223 ?_
        refine z_loc ([(0, .ref (ev_s E 3)), (1, .ref (ev_a E 0)), (2, .int (nI n0)), (3, .int (nI mo)), (4, .int c), (5, .int (nI p))]) ⟨rfl, rfl, rfl, rfl, rfl, rfl, trivial⟩ ?_
        refine z_iinc1 C dL_build_224 rfl (by decide) ?_
        refine z_goto C 39 dL_build_227 (by decide) ?_
        refine z_loc ([(0, .ref (ev_s E 3)), (1, .ref (ev_a E 0)), (2, .int (nI n0)), (3, .int (nI mo)), (4, .int c), (5, .int (nI (p + 1)))]) ⟨rfl, rfl, rfl, rfl, rfl, rfl, trivial⟩ ?_
        exact ih (p + 1) _ _ (by omega) (by omega) hs (bu_tp hb) (fun _ => tp_1 hx hv)
      have k192 : ∀ (V : Int32) (A : Nat) (hA : A ≤ 3) (B : Nat) (hB : B ≤ 3) (Z : Nat) (hZ : Z ≤ 3) (q : Int32) (x : Int32) (y : Int32) (z : Int32) (hx : plB x y z = true), GZ E M X 11 σ 192 [(0, .ref (ev_s E 3)), (1, .ref (ev_a E 0)), (2, .int (nI n0)), (3, .int (nI mo)), (4, .int c), (5, .int (nI p)), (6, .int V), (7, .int (nI A)), (8, .int (nI B)), (9, .int (nI Z)), (10, .int q)] [.int z, .int y, .int x, .ref (ev_a E 0)] := by
        intro V A hA B hB Z hZ q x y z hx
        refine z_aload_n C dL_build_192 rfl ?_
        refine z_ic (n := 0) C dL_build_193 (by decide) ?_
        refine z_at C (k := 0) (by omega) dL_build_194 km_RL_10 (by omega) (by omega) (Nat.le_of_ble_eq_true rfl) ?_
        refine z_ic (n := 5) C dL_build_197 (by decide) ?_
        refine z_ishr C dL_build_198 ?_
        refine z_ic (n := 3) C dL_build_199 (by decide) ?_
        refine z_iand C dL_build_200 ?_
        refine z_ifne C 219 dL_build_201 (by decide) (fun h201 => ?_) (fun h201 => ?_)
        · refine z_ic (n := 0) C dL_build_219 (by decide) ?_
          first | exact k220 V A hA B hB Z hZ q x y z _ hx (i04 0 (by decide)) | (obtain ⟨m, hm, em⟩ := and_le (x := scV E 4 >>> ((nI 2 * nI p) &&& 31)) (k := 1) (by decide); rw [em]; exact k220 V A hA B hB Z hZ q x y z _ hx (i04 m hm))
        · refine z_aload_n C dL_build_204 rfl ?_
          refine z_ic (n := 4) C dL_build_205 (by decide) ?_
          refine z_at C (k := 4) (by omega) dL_build_206 km_RL_10 (by omega) (by omega) (Nat.le_of_ble_eq_true rfl) ?_
          refine z_ic (n := 2) C dL_build_209 (by decide) ?_
          refine z_iload C dL_build_210 rfl ?_
          refine z_imul C dL_build_212 ?_
          refine z_ishr C dL_build_213 ?_
          refine z_ic (n := 1) C dL_build_214 (by decide) ?_
          refine z_iand C dL_build_215 ?_
          refine z_goto C 220 dL_build_216 (by decide) ?_
          first | exact k220 V A hA B hB Z hZ q x y z _ hx (i04 0 (by decide)) | (obtain ⟨m, hm, em⟩ := and_le (x := scV E 4 >>> ((nI 2 * nI p) &&& 31)) (k := 1) (by decide); rw [em]; exact k220 V A hA B hB Z hZ q x y z _ hx (i04 m hm))
      have k176 : ∀ (V : Int32) (A : Nat) (hA : A ≤ 3) (B : Nat) (hB : B ≤ 3) (Z : Nat) (hZ : Z ≤ 3) (q : Int32) (x : Int32) (y : Int32) (h1 : inB x (-3) 3 = true) (h2 : inB y (-3) 3 = true), GZ E M X 11 σ 176 [(0, .ref (ev_s E 3)), (1, .ref (ev_a E 0)), (2, .int (nI n0)), (3, .int (nI mo)), (4, .int c), (5, .int (nI p)), (6, .int V), (7, .int (nI A)), (8, .int (nI B)), (9, .int (nI Z)), (10, .int q)] [.int y, .int x, .ref (ev_a E 0)] := by
        intro V A hA B hB Z hZ q x y h1 h2
        refine z_iload C dL_build_176 rfl ?_
        refine z_ic (n := 4) C dL_build_178 (by decide) ?_
        refine z_iand C dL_build_179 ?_
        refine z_ic (n := 4) C dL_build_180 (by decide) ?_
        refine z_icne C 190 dL_build_181 (by decide) (fun h181 => ?_) (fun h181 => ?_)
        · refine z_iload C dL_build_190 rfl ?_
          exact k192 V A hA B hB Z hZ q x y _ (pl_ok h1 h2 (by first | exact (pm3 Z hZ).1 | exact (pm3 Z hZ).2))
        · refine z_iload C dL_build_184 rfl ?_
          refine z_ineg C dL_build_186 ?_
          refine z_goto C 192 dL_build_187 (by decide) ?_
          exact k192 V A hA B hB Z hZ q x y _ (pl_ok h1 h2 (by first | exact (pm3 Z hZ).1 | exact (pm3 Z hZ).2))
      have k160 : ∀ (V : Int32) (A : Nat) (hA : A ≤ 3) (B : Nat) (hB : B ≤ 3) (Z : Nat) (hZ : Z ≤ 3) (q : Int32) (x : Int32) (h1 : inB x (-3) 3 = true), GZ E M X 11 σ 160 [(0, .ref (ev_s E 3)), (1, .ref (ev_a E 0)), (2, .int (nI n0)), (3, .int (nI mo)), (4, .int c), (5, .int (nI p)), (6, .int V), (7, .int (nI A)), (8, .int (nI B)), (9, .int (nI Z)), (10, .int q)] [.int x, .ref (ev_a E 0)] := by
        intro V A hA B hB Z hZ q x h1
        refine z_iload C dL_build_160 rfl ?_
        refine z_ic (n := 2) C dL_build_162 (by decide) ?_
        refine z_iand C dL_build_163 ?_
        refine z_ic (n := 2) C dL_build_164 (by decide) ?_
        refine z_icne C 174 dL_build_165 (by decide) (fun h165 => ?_) (fun h165 => ?_)
        · refine z_iload C dL_build_174 rfl ?_
          exact k176 V A hA B hB Z hZ q x _ h1 (by first | exact (pm3 B hB).1 | exact (pm3 B hB).2)
        · refine z_iload C dL_build_168 rfl ?_
          refine z_ineg C dL_build_170 ?_
          refine z_goto C 176 dL_build_171 (by decide) ?_
          exact k176 V A hA B hB Z hZ q x _ h1 (by first | exact (pm3 B hB).1 | exact (pm3 B hB).2)
      have k141 : ∀ (V : Int32) (A : Nat) (hA : A ≤ 3) (B : Nat) (hB : B ≤ 3) (Z : Nat) (hZ : Z ≤ 3) (q : Int32), GZ E M X 11 σ 141 [(0, .ref (ev_s E 3)), (1, .ref (ev_a E 0)), (2, .int (nI n0)), (3, .int (nI mo)), (4, .int c), (5, .int (nI p)), (6, .int V), (7, .int (nI A)), (8, .int (nI B)), (9, .int (nI Z))] [.int q] := by
        intro V A hA B hB Z hZ q
        refine z_istore C dL_build_141 (by decide) ?_
        refine z_loc ([(0, .ref (ev_s E 3)), (1, .ref (ev_a E 0)), (2, .int (nI n0)), (3, .int (nI mo)), (4, .int c), (5, .int (nI p)), (6, .int V), (7, .int (nI A)), (8, .int (nI B)), (9, .int (nI Z)), (10, .int q)]) ⟨rfl, rfl, rfl, rfl, rfl, rfl, rfl, rfl, rfl, rfl, rfl, trivial⟩ ?_
        refine z_aload_n C dL_build_143 rfl ?_
        refine z_iload C dL_build_144 rfl ?_
        refine z_ic (n := 1) C dL_build_146 (by decide) ?_
        refine z_iand C dL_build_147 ?_
        refine z_ic (n := 1) C dL_build_148 (by decide) ?_
        refine z_icne C 158 dL_build_149 (by decide) (fun h149 => ?_) (fun h149 => ?_)
        · refine z_iload C dL_build_158 rfl ?_
          exact k160 V A hA B hB Z hZ q _ (by first | exact (pm3 A hA).1 | exact (pm3 A hA).2)
        · refine z_iload C dL_build_152 rfl ?_
          refine z_ineg C dL_build_154 ?_
          refine z_goto C 160 dL_build_155 (by decide) ?_
          exact k160 V A hA B hB Z hZ q _ (by first | exact (pm3 A hA).1 | exact (pm3 A hA).2)
      have k125 : ∀ (V : Int32) (A : Nat) (hA : A ≤ 3) (B : Nat) (hB : B ≤ 3) (Z : Nat) (hZ : Z ≤ 3), GZ E M X 11 σ 125 [(0, .ref (ev_s E 3)), (1, .ref (ev_a E 0)), (2, .int (nI n0)), (3, .int (nI mo)), (4, .int c), (5, .int (nI p)), (6, .int V), (7, .int (nI A)), (8, .int (nI B)), (9, .int (nI Z))] [] := by
        intro V A hA B hB Z hZ
        refine z_iload_n C dL_build_125 rfl ?_
        refine z_ifne C 139 dL_build_126 (by decide) (fun h126 => ?_) (fun h126 => ?_)
        · refine z_iload C dL_build_139 rfl ?_
          exact k141 V A hA B hB Z hZ _
        · refine z_iload C dL_build_129 rfl ?_
          refine z_ic (n := 4) C dL_build_131 (by decide) ?_
          refine z_ishr C dL_build_132 ?_
          refine z_bp C (nI 7) dL_build_133 (by decide) ?_
          refine z_iand C dL_build_135 ?_
          refine z_goto C 141 dL_build_136 (by decide) ?_
          exact k141 V A hA B hB Z hZ _
      have k123 : ∀ (V : Int32) (A : Nat) (hA : A ≤ 3) (B : Nat) (hB : B ≤ 3) (Z : Nat) (hZ : Z ≤ 3), GZ E M X 11 σ 123 [(0, .ref (ev_s E 3)), (1, .ref (ev_a E 0)), (2, .int (nI n0)), (3, .int (nI mo)), (4, .int c), (5, .int (nI p)), (6, .int V), (7, .int (nI A)), (8, .int (nI B))] [.int (nI Z)] := by
        intro V A hA B hB Z hZ
        refine z_istore C dL_build_123 (by decide) ?_
        refine z_loc ([(0, .ref (ev_s E 3)), (1, .ref (ev_a E 0)), (2, .int (nI n0)), (3, .int (nI mo)), (4, .int c), (5, .int (nI p)), (6, .int V), (7, .int (nI A)), (8, .int (nI B)), (9, .int (nI Z))]) ⟨rfl, rfl, rfl, rfl, rfl, rfl, rfl, rfl, rfl, rfl, trivial⟩ ?_
        exact k125 V A hA B hB Z hZ
      have k108 : ∀ (V : Int32) (A : Nat) (hA : A ≤ 3) (B : Nat) (hB : B ≤ 3), GZ E M X 11 σ 108 [(0, .ref (ev_s E 3)), (1, .ref (ev_a E 0)), (2, .int (nI n0)), (3, .int (nI mo)), (4, .int c), (5, .int (nI p)), (6, .int V), (7, .int (nI A)), (8, .int (nI B))] [] := by
        intro V A hA B hB
        refine z_iload_n C dL_build_108 rfl ?_
        refine z_ic (n := 2) C dL_build_109 (by decide) ?_
        refine z_icne C 117 dL_build_110 (by decide) (fun h110 => ?_) (fun h110 => ?_)
        · refine z_iload C dL_build_117 rfl ?_
          refine z_ic (n := 3) C dL_build_119 (by decide) ?_
          refine z_ishr C dL_build_120 ?_
          refine z_ic (n := 1) C dL_build_121 (by decide) ?_
          refine z_iand C dL_build_122 ?_
          first | exact k123 V A hA B hB 0 (by decide) | (obtain ⟨m, hm, em⟩ := and_le (x := V >>> (nI 3 &&& 31)) (k := 1) (by decide); rw [em]; exact k123 V A hA B hB m (by omega))
        · refine z_ic (n := 0) C dL_build_113 (by decide) ?_
          refine z_goto C 123 dL_build_114 (by decide) ?_
          first | exact k123 V A hA B hB 0 (by decide) | (obtain ⟨m, hm, em⟩ := and_le (x := V >>> (nI 3 &&& 31)) (k := 1) (by decide); rw [em]; exact k123 V A hA B hB m (by omega))
      have k106 : ∀ (V : Int32) (A : Nat) (hA : A ≤ 3) (B : Nat) (hB : B ≤ 3), GZ E M X 11 σ 106 [(0, .ref (ev_s E 3)), (1, .ref (ev_a E 0)), (2, .int (nI n0)), (3, .int (nI mo)), (4, .int c), (5, .int (nI p)), (6, .int V), (7, .int (nI A))] [.int (nI B)] := by
        intro V A hA B hB
        refine z_istore C dL_build_106 (by decide) ?_
        refine z_loc ([(0, .ref (ev_s E 3)), (1, .ref (ev_a E 0)), (2, .int (nI n0)), (3, .int (nI mo)), (4, .int c), (5, .int (nI p)), (6, .int V), (7, .int (nI A)), (8, .int (nI B))]) ⟨rfl, rfl, rfl, rfl, rfl, rfl, rfl, rfl, rfl, trivial⟩ ?_
        exact k108 V A hA B hB
      have k90 : ∀ (V : Int32) (A : Nat) (hA : A ≤ 3), GZ E M X 11 σ 90 [(0, .ref (ev_s E 3)), (1, .ref (ev_a E 0)), (2, .int (nI n0)), (3, .int (nI mo)), (4, .int c), (5, .int (nI p)), (6, .int V), (7, .int (nI A))] [] := by
        intro V A hA
        refine z_iload_n C dL_build_90 rfl ?_
        refine z_ic (n := 1) C dL_build_91 (by decide) ?_
        refine z_icne C 100 dL_build_92 (by decide) (fun h92 => ?_) (fun h92 => ?_)
        · refine z_iload C dL_build_100 rfl ?_
          refine z_ic (n := 2) C dL_build_102 (by decide) ?_
          refine z_ishr C dL_build_103 ?_
          refine z_ic (n := 1) C dL_build_104 (by decide) ?_
          refine z_iand C dL_build_105 ?_
          first | exact k106 V A hA A hA | (obtain ⟨m, hm, em⟩ := and_le (x := V >>> (nI 2 &&& 31)) (k := 1) (by decide); rw [em]; exact k106 V A hA m (by omega))
        · refine z_iload C dL_build_95 rfl ?_
          refine z_goto C 106 dL_build_97 (by decide) ?_
          first | exact k106 V A hA A hA | (obtain ⟨m, hm, em⟩ := and_le (x := V >>> (nI 2 &&& 31)) (k := 1) (by decide); rw [em]; exact k106 V A hA m (by omega))
      have k72 : ∀ (V : Int32), GZ E M X 11 σ 72 [(0, .ref (ev_s E 3)), (1, .ref (ev_a E 0)), (2, .int (nI n0)), (3, .int (nI mo)), (4, .int c), (5, .int (nI p))] [.int V] := by
        intro V
        refine z_istore C dL_build_72 (by decide) ?_
        refine z_loc ([(0, .ref (ev_s E 3)), (1, .ref (ev_a E 0)), (2, .int (nI n0)), (3, .int (nI mo)), (4, .int c), (5, .int (nI p)), (6, .int V)]) ⟨rfl, rfl, rfl, rfl, rfl, rfl, rfl, trivial⟩ ?_
        refine z_iload C dL_build_74 rfl ?_
        refine z_ic (n := 3) C dL_build_76 (by decide) ?_
        refine z_iand C dL_build_77 ?_
        refine z_iload_n C dL_build_78 rfl ?_
        refine z_ifne C 86 dL_build_79 (by decide) (fun h79 => ?_) (fun h79 => ?_)
        · refine z_ic (n := 4) C dL_build_86 (by decide) ?_
          obtain ⟨m, hm, em⟩ := and_le (x := V) (k := 3) (by decide)
          rw [em]
          refine z_iremN C dL_build_87 (by omega) (by omega) (by omega) ?_
          refine z_istore C dL_build_88 (by decide) ?_
          first | (refine z_loc ([(0, .ref (ev_s E 3)), (1, .ref (ev_a E 0)), (2, .int (nI n0)), (3, .int (nI mo)), (4, .int c), (5, .int (nI p)), (6, .int V), (7, .int (nI (m % 3)))]) ⟨rfl, rfl, rfl, rfl, rfl, rfl, rfl, rfl, trivial⟩ ?_; exact k90 V (m % 3) (by omega)) | (refine z_loc ([(0, .ref (ev_s E 3)), (1, .ref (ev_a E 0)), (2, .int (nI n0)), (3, .int (nI mo)), (4, .int c), (5, .int (nI p)), (6, .int V), (7, .int (nI (m % 4)))]) ⟨rfl, rfl, rfl, rfl, rfl, rfl, rfl, rfl, trivial⟩ ?_; exact k90 V (m % 4) (by omega))
        · refine z_ic (n := 3) C dL_build_82 (by decide) ?_
          refine z_goto C 87 dL_build_83 (by decide) ?_
          obtain ⟨m, hm, em⟩ := and_le (x := V) (k := 3) (by decide)
          rw [em]
          refine z_iremN C dL_build_87 (by omega) (by omega) (by omega) ?_
          refine z_istore C dL_build_88 (by decide) ?_
          first | (refine z_loc ([(0, .ref (ev_s E 3)), (1, .ref (ev_a E 0)), (2, .int (nI n0)), (3, .int (nI mo)), (4, .int c), (5, .int (nI p)), (6, .int V), (7, .int (nI (m % 3)))]) ⟨rfl, rfl, rfl, rfl, rfl, rfl, rfl, rfl, trivial⟩ ?_; exact k90 V (m % 3) (by omega)) | (refine z_loc ([(0, .ref (ev_s E 3)), (1, .ref (ev_a E 0)), (2, .int (nI n0)), (3, .int (nI mo)), (4, .int c), (5, .int (nI p)), (6, .int V), (7, .int (nI (m % 4)))]) ⟨rfl, rfl, rfl, rfl, rfl, rfl, rfl, rfl, trivial⟩ ?_; exact k90 V (m % 4) (by omega))
      refine z_iload_n C dL_build_45 rfl ?_
      refine z_ifne C 70 dL_build_46 (by decide) (fun h46 => ?_) (fun h46 => ?_)
      · refine z_iload C dL_build_70 rfl ?_
        exact k72 _
      · refine z_aload_n C dL_build_49 rfl ?_
        refine z_ic (n := 1) C dL_build_50 (by decide) ?_
        refine z_iload C dL_build_51 rfl ?_
        refine z_ic (n := 3) C dL_build_53 (by decide) ?_
        refine z_idivN C dL_build_54 (by omega) (by omega) (by omega) ?_
        refine z_iaddN C dL_build_55 ?_
        refine z_at C (k := 1 + p / 3) (by omega) dL_build_56 km_RL_10 (by omega) (by omega) (Nat.le_of_ble_eq_true rfl) ?_
        refine z_bp C (nI 9) dL_build_59 (by decide) ?_
        refine z_iload C dL_build_61 rfl ?_
        refine z_ic (n := 3) C dL_build_63 (by decide) ?_
        refine z_iremN C dL_build_64 (by omega) (by omega) (by omega) ?_
        refine z_imul C dL_build_65 ?_
        refine z_ishr C dL_build_66 ?_
        refine z_goto C 72 dL_build_67 (by decide) ?_
        exact k72 _
end BU
