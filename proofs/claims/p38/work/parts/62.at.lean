/-! THE LAW'S READER OF THE SCRIPT (wip/p38/gen/at38.py); where two ways meet again; small numbers -/
def scV (E : Ev) (k : Nat) : Int32 := if k < ev_s E 4 then nI (ev_s E (5 + k)) else 0
set_option maxHeartbeats 4000000 in
theorem c_L_at {E : Ev} {d : Nat} {σ : St} {k : Nat} (hk : k < 2 ^ 30) : Con E d yL_at cL_at 2 (Option.some FieldType.int) [.ref (ev_s E 3), .int (nI k)] σ (Det (some (.int (scV E k))) σ) := by
  refine con_of (by decide) (Nat.le_of_ble_eq_true rfl) (fun X hX C => ?_)
  have C : Cx E X cL_at RL 2 (Option.some FieldType.int) := C
  have h260 : ev_s E 4 ≤ 260 := C.2.2.2.2.2.2.2.2.1.2.2.2.2.2.2.1.2.2
  show G E _ X _ _ _ 0 [(0, .ref (ev_s E 3)), (1, .int (nI k))] []
  refine g_iload_n C dL_at_0 rfl ?_
  refine g_aload_n C dL_at_1 rfl ?_
  refine g_xlen C dL_at_2 ?_
  refine g_icgeN C 12 dL_at_3 (by decide) (by omega) (by omega) (fun h3 => ?_) (fun h3 => ?_)
  · refine g_ic (n := 0) C dL_at_12 (by decide) ?_
    refine g_iret C dL_at_13 ?_
    exact ⟨by unfold scV; rw [if_neg (by omega)]; rfl, rfl⟩
  · refine g_aload_n C dL_at_6 rfl ?_
    refine g_iload_n C dL_at_7 rfl ?_
    refine g_xld C (by omega) dL_at_8 ?_
    refine g_goto C 13 dL_at_9 (by decide) ?_
    refine g_iret C dL_at_13 ?_
    exact ⟨by unfold scV; rw [if_pos (by omega)], rfl⟩
theorem and_le {x : Int32} {k : Nat} (hk : k < 2 ^ 31) : ∃ m : Nat, m ≤ k ∧ x &&& nI k = nI m := by
  refine ⟨(x &&& nI k).toBitVec.toNat, ?_, ?_⟩
  · have e : (x &&& nI k).toBitVec.toNat = x.toBitVec.toNat &&& (nI k).toBitVec.toNat := by
      rw [Int32.toBitVec_and, BitVec.toNat_and]
    have e2 : (nI k).toBitVec.toNat = k := by
      show (BitVec.ofNat 32 k).toNat = k
      rw [BitVec.toNat_ofNat]
      exact Nat.mod_eq_of_lt (by omega)
    rw [e, e2]
    exact Nat.and_le_right
  · exact (xs_back _).symm
section ZM
variable {E : Ev} {M : Mo} {X : Mx} {cc : ByteArray} {own : String} {nL : Nat} {σ : St} {pc : Nat} {L : List (Nat × Value)} {st : List Value}
/-- x = 1 ? 1 : 0 of a told truth -/
theorem z_m1 (C : CZ E M X cc own nL) {b : Bool} (d0 : decode cc pc = .ok (.iconst 1, 1)) (d1 : decode cc (pc + 1) = .ok (.if_icmp .ne 7, 3)) (d2 : decode cc (pc + 4) = .ok (.iconst 1, 1)) (d3 : decode cc (pc + 5) = .ok (.goto 4, 3)) (d4 : decode cc (pc + 8) = .ok (.iconst 0, 1)) (kk : GZ E M X nL σ (pc + 9) L (.int (bI b) :: st)) : GZ E M X nL σ pc L (.int (bI b) :: st) := by
  refine z_ic (n := 1) C d0 (by decide) ?_
  refine z_icne C (pc + 8) d1 (by omega) (fun h => ?_) (fun h => ?_)
  · refine z_ic (n := 0) C d4 (by decide) ?_
    have e : b = false := by cases b; rfl; exact absurd rfl h
    subst e; exact kk
  · refine z_ic (n := 1) C d2 (by decide) ?_
    refine z_goto C (pc + 9) d3 (by omega) ?_
    have e : b = true := by cases b; exact absurd h (by decide); rfl
    subst e; exact kk
/-- x = y ? 1 : 0 -/
theorem z_m2 (C : CZ E M X cc own nL) {x y : Int32} (d1 : decode cc pc = .ok (.if_icmp .ne 7, 3)) (d2 : decode cc (pc + 3) = .ok (.iconst 1, 1)) (d3 : decode cc (pc + 4) = .ok (.goto 4, 3)) (d4 : decode cc (pc + 7) = .ok (.iconst 0, 1)) (kk : GZ E M X nL σ (pc + 8) L (.int (bI (decide (x = y))) :: st)) : GZ E M X nL σ pc L (.int y :: .int x :: st) := by
  refine z_icne C (pc + 7) d1 (by omega) (fun h => ?_) (fun h => ?_)
  · refine z_ic (n := 0) C d4 (by decide) ?_
    rw [decide_eq_false h] at kk; exact kk
  · refine z_ic (n := 1) C d2 (by decide) ?_
    refine z_goto C (pc + 8) d3 (by omega) ?_
    rw [decide_eq_true h] at kk; exact kk
/-- y ≤ x ? 1 : 0 -/
theorem z_m3 (C : CZ E M X cc own nL) {x y : Int32} (d1 : decode cc pc = .ok (.if_icmp .lt 7, 3)) (d2 : decode cc (pc + 3) = .ok (.iconst 1, 1)) (d3 : decode cc (pc + 4) = .ok (.goto 4, 3)) (d4 : decode cc (pc + 7) = .ok (.iconst 0, 1)) (kk : GZ E M X nL σ (pc + 8) L (.int (bI (decide (¬ x < y))) :: st)) : GZ E M X nL σ pc L (.int y :: .int x :: st) := by
  refine z_iclt C (pc + 7) d1 (by omega) (fun h => ?_) (fun h => ?_)
  · refine z_ic (n := 0) C d4 (by decide) ?_
    rw [decide_eq_false (fun q => q h)] at kk; exact kk
  · refine z_ic (n := 1) C d2 (by decide) ?_
    refine z_goto C (pc + 8) d3 (by omega) ?_
    rw [decide_eq_true h] at kk; exact kk
/-- a truth as 1 or 0 -/
theorem z_m4 (C : CZ E M X cc own nL) {b : Bool} (d1 : decode cc pc = .ok (.ifCond .eq 7, 3)) (d2 : decode cc (pc + 3) = .ok (.iconst 1, 1)) (d3 : decode cc (pc + 4) = .ok (.goto 4, 3)) (d4 : decode cc (pc + 7) = .ok (.iconst 0, 1)) (kk : GZ E M X nL σ (pc + 8) L (.int (bI b) :: st)) : GZ E M X nL σ pc L (.int (bI b) :: st) := by
  refine z_ifeq C (pc + 7) d1 (by omega) (fun h => ?_) (fun h => ?_)
  · refine z_ic (n := 0) C d4 (by decide) ?_
    have e : b = false := by cases b; rfl; exact absurd h (by decide)
    subst e; exact kk
  · refine z_ic (n := 1) C d2 (by decide) ?_
    refine z_goto C (pc + 8) d3 (by omega) ?_
    have e : b = true := by cases b; exact absurd rfl h; rfl
    subst e; exact kk
end ZM
theorem bI_nI (b : Bool) : bI b = nI (if b = true then 1 else 0) := by cases b <;> rfl
theorem lg_same (x : Int64) : lg_cmp x x = 0 := by simp [lg_cmp]
theorem nL_mul {a b c d : Nat} (ha : a < 2 ^ 31) (hb : b < 2 ^ 31) (hc : c < 2 ^ 31) (hd : d < 2 ^ 31) (h : a * b = c * d) : (nI a).toInt64 * (nI b).toInt64 = (nI c).toInt64 * (nI d).toInt64 := by
  have e : ∀ x : Nat, x < 2 ^ 31 → (nI x).toInt64 = Int64.ofNat x := fun x hx => by
    apply Int64.toInt_inj.mp
    rw [Int32.toInt_toInt64, nI_toInt hx, Int64.toInt_ofNat_of_lt (by omega)]
  rw [e a ha, e b hb, e c hc, e d hd, ← Int64.ofNat_mul, ← Int64.ofNat_mul, h]
