/-! THE REFERENCE over the same state: odds, mean, events done, the book looked at, the image, counts -/
abbrev nL (n : Nat) : Int64 := (nI n).toInt64
theorem nL_toInt {n : Nat} (h : n < 2 ^ 31) : (nL n).toInt = (n : Int) := by rw [x64, nI_toInt h]
theorem nL_0 {n : Nat} (h : n < 2 ^ 31) : nL n = 0 ↔ n = 0 := by
  rw [← Int64.toInt_inj, nL_toInt h, Int64.toInt_zero]
  omega
theorem bm64 {z : Int} (h : 0 ≤ z) (h2 : z < 2 ^ 31) : z.bmod (2 ^ 64) = z := by
  rw [Int.bmod_def, Int.emod_eq_of_lt h (by omega)]
  split <;> omega
theorem bmN {q : Nat} (h : q < 2 ^ 31) : (q : Int).bmod (2 ^ 64) = q := bm64 (by omega) (by omega)
theorem nL_div {a b : Nat} (ha : a < 2 ^ 31) (hb : b < 2 ^ 31) : nL a / nL b = nL (a / b) := by
  have hd : a / b < 2 ^ 31 := Nat.lt_of_le_of_lt (Nat.div_le_self _ _) ha
  rw [← Int64.toInt_inj, Int64.toInt_div, nL_toInt ha, nL_toInt hb, nL_toInt hd, ← Int.ofNat_tdiv, bmN hd]
theorem nL_mul {a b : Nat} (ha : a < 2 ^ 31) (hb : b < 2 ^ 31) (hab : a * b < 2 ^ 31) : nL a * nL b = nL (a * b) := by
  rw [← Int64.toInt_inj, Int64.toInt_mul, nL_toInt ha, nL_toInt hb, nL_toInt hab, show (a : Int) * (b : Int) = ((a * b : Nat) : Int) from by push_cast; rfl, bm64 (by omega) (by omega)]
theorem nL_sub {a b : Nat} (ha : a < 2 ^ 31) (hb : b ≤ a) : nL a - nL b = nL (a - b) := by
  rw [← Int64.toInt_inj, Int64.toInt_sub, nL_toInt ha, nL_toInt (by omega), nL_toInt (by omega), show (a : Int) - (b : Int) = ((a - b : Nat) : Int) from by omega, bm64 (by omega) (by omega)]
theorem nL_rem {a b : Nat} (ha : a < 2 ^ 31) (hb : b < 2 ^ 31) : nL a - nL a / nL b * nL b = nL (a % b) := by
  have hd : a / b < 2 ^ 31 := Nat.lt_of_le_of_lt (Nat.div_le_self _ _) ha
  have hm := Nat.div_mul_le_self a b
  rw [nL_div ha hb, nL_mul hd hb (by omega), nL_sub ha hm]
  congr 2
  have := Nat.mod_add_div a b
  rw [Nat.mul_comm] at this
  omega
theorem pf_gcd {a b w : Nat} (hb : 0 < b) : ∀ k, Nat.gcd a b ≤ k → pfL a b w k = w / Nat.gcd a b := by
  have hg : 0 < Nat.gcd a b := Nat.gcd_pos_of_pos_right a hb
  intro k
  induction k with
  | zero => intro h; omega
  | succ k ih =>
    intro h
    unfold pfL
    by_cases h0 : k = 0
    · rw [if_pos h0, show Nat.gcd a b = 1 from by omega, Nat.div_one]
    · rw [if_neg h0]
      by_cases hd : a % (k + 1) = 0 ∧ b % (k + 1) = 0
      · rw [if_pos hd]
        have := Nat.dvd_gcd (Nat.dvd_of_mod_eq_zero hd.1) (Nat.dvd_of_mod_eq_zero hd.2)
        have := Nat.le_of_dvd hg this
        rw [show Nat.gcd a b = k + 1 from by omega]
      · rw [if_neg hd]
        apply ih
        by_cases e : Nat.gcd a b = k + 1
        · exact absurd ⟨Nat.mod_eq_zero_of_dvd (e ▸ Nat.gcd_dvd_left a b), Nat.mod_eq_zero_of_dvd (e ▸ Nat.gcd_dvd_right a b)⟩ hd
        · omega
theorem pf_eq {a b w : Nat} (hb : 0 < b) : pfL a b w b = w / Nat.gcd a b := pf_gcd hb b (Nat.le_of_dvd hb (Nat.gcd_dvd_right a b))
theorem gpL_len {P : Nat → Nat → Int32} {n : Nat} : ∀ (k m : Nat) (a : List Nat), (gpL P n k m a).length = ksL P n k m a.length := by
  intro k
  induction k with
  | zero => intro m a; rfl
  | succ k ih =>
    intro m a
    unfold gpL ksL
    rw [ih]
    split <;> simp
theorem gL_len {P : Nat → Nat → Int32} {n : Nat} : (gLst P n).length = ksL P n 48 0 0 := gpL_len 48 0 []
theorem RfIs.same {σ σ' : St} {s : Ms} {fs l : List Nat} (h : RfIs σ s) (hF : Fk fs l σ σ') (h65 : ∀ q, q < 78 → σ'.1 65 q = σ.1 65 q) (hW : WI (σ.1 65) s.1 → WI (σ'.1 65) s.1) (hl : l.all (fun c => decide (c ≠ 67 ∧ c ≠ 74 ∧ c ≠ 76 ∧ c ≠ 77 ∧ c ≠ 78)) = true) (hf : fs.all (fun c => decide (c ≠ 3 ∧ c ≠ 14)) = true) : RfIs σ' s := by
  have n1 : ∀ c, (c = 67 ∨ c = 74 ∨ c = 76 ∨ c = 77 ∨ c = 78) → c ∉ 64 :: l := fun c hc q => by
    rcases List.mem_cons.mp q with e | e
    · omega
    · have := List.all_eq_true.mp hl c e
      simp at this
      omega
  have n2 : ∀ c, (c = 3 ∨ c = 14) → c ∉ fs := fun c hc e => by
    have := List.all_eq_true.mp hf c e
    simp at this
    omega
  obtain ⟨h1, h2, h3, h4⟩ := h
  exact ⟨hW h1, h2.go (hF.2 3 (n2 3 (by omega))) (hF.1 67 (n1 67 (by omega))).1, h3.go (hF.2 14 (n2 14 (by omega))) (hF.1 74 (n1 74 (by omega))).1, h4.go (hF.1 76 (n1 76 (by omega))).1 (hF.1 77 (n1 77 (by omega))).1 (hF.1 78 (n1 78 (by omega))).2⟩
theorem PF.ag {f f' : Nat → Int32} {n : Nat} {P : Nat → Nat → Int32} (h : PF f n P) (e : ∀ q, q < 78 → f' q = f q) : PF f' n P := h.go (fun q hq => e q (by omega))
theorem WI.ag {f f' : Nat → Int32} {u : Su} (h : WI f u) (e : ∀ q, q < 78 → f' q = f q) : WI f' u :=
  ⟨h.1.ag e, h.2.1.go (fun q _ a => e q (by omega)), h.2.2.1.go (fun q _ a => e q (by omega)), h.2.2.2.go (fun q _ a => e q (by omega))⟩

set_option maxHeartbeats 4000000 in
set_option maxRecDepth 100000 in
theorem l_X8_lowest {E : Ev} {d : Nat} {X : Mx} (C : Cx E X cX8_lowest RX8 11 ((Option.some FieldType.long))) {σ : St} {A B t : Nat} (hA : A < 2 ^ 20) (hB : B < 2 ^ 20) (ht : t < 2) : ∀ (k : Nat) (a b : Nat), b ≤ k → a < 2 ^ 20 → b < 2 ^ 20 → 0 < a + b → G E d X 11 (Det (some (.long (nL ((if t = 0 then A else B) / Nat.gcd a b)))) σ) σ 6 ([(0, .long (nL A)), (2, .long (nL B)), (4, .int (nI t)), (5, .long (nL a)), (7, .long (nL b))]) [] := by
  intro k
  induction k with
  | zero =>
    intro a b hk ha hb hz
    refine g_lload C dX8_lowest_6 rfl ?_
    refine g_lc (v := 0) C dX8_lowest_8 (by decide) ?_
    refine g_lcmp C dX8_lowest_9 ?_
    refine g_ifeq C 31 dX8_lowest_10 (by decide) (fun h10 => ?_) (fun h10 => ?_)
    · have e10 : b = 0 := (nL_0 (by omega)).mp ((lgc _ _).mp h10)
      have ea : ¬ nL a = 0 := fun q => by have := (nL_0 (show a < 2 ^ 31 by omega)).mp q; omega
      refine g_iload C dX8_lowest_31 rfl ?_
      refine g_ifneN C 40 dX8_lowest_33 (by decide) (by omega) (fun h33 => ?_) (fun h33 => ?_)
      · refine g_lload_n C dX8_lowest_40 rfl ?_
        refine g_lload C dX8_lowest_41 rfl ?_
        refine g_ldiv C dX8_lowest_43 ea ?_
        refine g_lret C dX8_lowest_44 ?_
        first | exact ⟨congrArg (fun v => some (Value.long v)) (by rw [if_pos h33, show b = 0 from e10, Nat.gcd_zero_right, nL_div (by omega) (by omega)]), rfl⟩ | exact ⟨congrArg (fun v => some (Value.long v)) (by rw [if_neg h33, show b = 0 from e10, Nat.gcd_zero_right, nL_div (by omega) (by omega)]), rfl⟩
      · refine g_lload_n C dX8_lowest_36 rfl ?_
        refine g_goto C 41 dX8_lowest_37 (by decide) ?_
        refine g_lload C dX8_lowest_41 rfl ?_
        refine g_ldiv C dX8_lowest_43 ea ?_
        refine g_lret C dX8_lowest_44 ?_
        first | exact ⟨congrArg (fun v => some (Value.long v)) (by rw [if_pos h33, show b = 0 from e10, Nat.gcd_zero_right, nL_div (by omega) (by omega)]), rfl⟩ | exact ⟨congrArg (fun v => some (Value.long v)) (by rw [if_neg h33, show b = 0 from e10, Nat.gcd_zero_right, nL_div (by omega) (by omega)]), rfl⟩
    · exact absurd (show b = 0 from by omega) (fun q => h10 ((lgc _ _).mpr ((nL_0 (by omega)).mpr q)))
  | succ k ih =>
    intro a b hk ha hb hz
    refine g_lload C dX8_lowest_6 rfl ?_
    refine g_lc (v := 0) C dX8_lowest_8 (by decide) ?_
    refine g_lcmp C dX8_lowest_9 ?_
    refine g_ifeq C 31 dX8_lowest_10 (by decide) (fun h10 => ?_) (fun h10 => ?_)
    · have e10 : b = 0 := (nL_0 (by omega)).mp ((lgc _ _).mp h10)
      have ea : ¬ nL a = 0 := fun q => by have := (nL_0 (show a < 2 ^ 31 by omega)).mp q; omega
      refine g_iload C dX8_lowest_31 rfl ?_
      refine g_ifneN C 40 dX8_lowest_33 (by decide) (by omega) (fun h33 => ?_) (fun h33 => ?_)
      · refine g_lload_n C dX8_lowest_40 rfl ?_
        refine g_lload C dX8_lowest_41 rfl ?_
        refine g_ldiv C dX8_lowest_43 ea ?_
        refine g_lret C dX8_lowest_44 ?_
        first | exact ⟨congrArg (fun v => some (Value.long v)) (by rw [if_pos h33, show b = 0 from e10, Nat.gcd_zero_right, nL_div (by omega) (by omega)]), rfl⟩ | exact ⟨congrArg (fun v => some (Value.long v)) (by rw [if_neg h33, show b = 0 from e10, Nat.gcd_zero_right, nL_div (by omega) (by omega)]), rfl⟩
      · refine g_lload_n C dX8_lowest_36 rfl ?_
        refine g_goto C 41 dX8_lowest_37 (by decide) ?_
        refine g_lload C dX8_lowest_41 rfl ?_
        refine g_ldiv C dX8_lowest_43 ea ?_
        refine g_lret C dX8_lowest_44 ?_
        first | exact ⟨congrArg (fun v => some (Value.long v)) (by rw [if_pos h33, show b = 0 from e10, Nat.gcd_zero_right, nL_div (by omega) (by omega)]), rfl⟩ | exact ⟨congrArg (fun v => some (Value.long v)) (by rw [if_neg h33, show b = 0 from e10, Nat.gcd_zero_right, nL_div (by omega) (by omega)]), rfl⟩
    · have e10 : ¬ b = 0 := fun q => h10 ((lgc _ _).mpr ((nL_0 (by omega)).mpr q))
      refine g_lload C dX8_lowest_13 rfl ?_
      refine g_lload C dX8_lowest_15 rfl ?_
      refine g_lrem C dX8_lowest_17 (fun q => e10 ((nL_0 (by omega)).mp q)) ?_
      rw [nL_rem (by omega) (by omega)]
      refine g_lstore C dX8_lowest_18 (by decide) ?_
      refine g_lload C dX8_lowest_20 rfl ?_
      refine g_lstore C dX8_lowest_22 (by decide) ?_
      refine g_lload C dX8_lowest_24 rfl ?_
      refine g_lstore C dX8_lowest_26 (by decide) ?_
      refine g_goto C 6 dX8_lowest_28 (by decide) ?_
      have hmod := Nat.mod_lt a (show 0 < b by omega)
      refine g_loc ([(0, .long (nL A)), (2, .long (nL B)), (4, .int (nI t)), (5, .long (nL b)), (7, .long (nL (a % b)))]) (And.intro rfl (And.intro rfl (And.intro rfl (And.intro rfl (And.intro rfl trivial))))) ?_
      rw [show Nat.gcd a b = Nat.gcd b (a % b) from by rw [Nat.gcd_comm a b, Nat.gcd_rec b a, Nat.gcd_comm]]
      exact ih b (a % b) (by omega) (by omega) (by omega) (by omega)

set_option maxHeartbeats 4000000 in
set_option maxRecDepth 100000 in
theorem c_X8_lowest {E : Ev} {d : Nat} {σ : St} {a b t : Nat} (hb0 : 0 < b) (ha : a < 2 ^ 20) (hb : b < 2 ^ 20) (ht : t < 2) : Con E (d) yX8_lowest cX8_lowest 11 ((Option.some FieldType.long)) [.long (nL a), .long (nL b), .int (nI t)] σ (Det (some (.long (nL (pfL a b (if t = 0 then a else b) b)))) σ) := by
  refine con_of (by decide) (Nat.le_of_ble_eq_true rfl) (fun X hX C => ?_)
  have C : Cx E X cX8_lowest RX8 11 ((Option.some FieldType.long)) := C
  show G E _ X _ _ _ 0 [(0, .long (nL a)), (2, .long (nL b)), (4, .int (nI t))] []
  refine g_lload_n C dX8_lowest_0 rfl ?_
  refine g_lstore C dX8_lowest_1 (by decide) ?_
  refine g_lload_n C dX8_lowest_3 rfl ?_
  refine g_lstore C dX8_lowest_4 (by decide) ?_
  refine g_loc ([(0, .long (nL a)), (2, .long (nL b)), (4, .int (nI t)), (5, .long (nL a)), (7, .long (nL b))]) (And.intro rfl (And.intro rfl (And.intro rfl (And.intro rfl (And.intro rfl trivial))))) ?_
  rw [pf_eq hb0]
  exact l_X8_lowest C ha hb ht b a b (Nat.le_refl _) ha hb (by omega)

set_option maxHeartbeats 4000000 in
set_option maxRecDepth 100000 in
theorem l_X8_odds {E : Ev} {d : Nat} {X : Mx} (C : Cx E X cX8_odds RX8 8 ((Option.some FieldType.long))) {s : Ms} {σ0 : St} (hs0 : RfIs σ0 s) {j m t : Nat} (hj : j < s.1.1.1) (hm : m ≤ 48) (ht : t < 2) : ∀ (k : Nat) (v c : Nat) (v0 : Int32) (σ : St), 5 = v + k → c ≤ v → Fk [6] [65, 68, 69] σ0 σ → σ.1 65 = upd (σ0.1 65) (1 + 4 * j + 3) v0 → G E (d + 9) X 8 (fun r σ2 => r = some (.long (nL (pfL (odL s.1.1.2 s.1.1.1 j m k v c) 5 (if t = 0 then (odL s.1.1.2 s.1.1.1 j m k v c) else 5) 5))) ∧ RfIs σ2 s ∧ Rs σ0 σ2) σ 58 ([(0, .ref (ev_a E 64)), (1, .int (nI j)), (2, .int (nI m)), (3, .int (nI t)), (4, .int (nI (1 + 4 * j + 3))), (5, .int (s.1.1.2 j 3)), (6, .int (nI c)), (7, .int (nI v))]) [] := by
  intro k
  induction k with
  | zero =>
    intro v c v0 σ hv hc hF h65
    have h := hs0.P
    have h8 := h.1
    have e0 : s.1.1.2 j 3 = σ0.1 65 (1 + 4 * j + 3) := (h.2.2 j hj 3 (by decide)).symm
    refine g_iload C dX8_odds_58 rfl ?_
    refine g_ic (n := 4) C dX8_odds_60 (by decide) ?_
    refine g_icgtN C 101 dX8_odds_61 (by decide) (by omega) (by omega) (fun h61 => ?_) (fun h61 => ?_)
    · refine g_aload_n C dX8_odds_101 rfl ?_
      refine gf_X8_w C (by rfl) dX8_odds_102 kf_RX8_11 ?_
      refine g_iload C dX8_odds_105 rfl ?_
      refine g_iload C dX8_odds_107 rfl ?_
      refine g_iastN C (by rfl) (by omega) (by first | decide | omega) dX8_odds_109 ?_
      refine g_iload C dX8_odds_110 rfl ?_
      have hF2 : Fk [6] [65, 68, 69] σ0 (sI σ 65 (upd (σ.1 65) (1 + 4 * j + 3) (s.1.1.2 j 3))) := hF.sI (by simp) (by decide)
      have e65 : (sI σ 65 (upd (σ.1 65) (1 + 4 * j + 3) (s.1.1.2 j 3))).1 65 = σ0.1 65 := by rw [sI_self, h65, up_up, e0, up_self]
      refine g_i2l C _ dX8_odds_112 rfl ?_
      refine g_ldc2 C (5) dX8_odds_113 (List.mem_of_getElem? (i := 1048) (by decide +kernel)) ?_
      show G E _ X _ _ _ _ _ [.long (nL 5), .long (nL c)]
      refine g_iload_n C dX8_odds_116 rfl ?_
      refine g_callSp C (c_X8_lowest (d := d) (a := c) (b := 5) (by omega) (by omega) (by omega) ht) dX8_odds_117 km_RX8_252 kn_RX8 kc_yX8_lowest ks_yX8_lowest (by omega) (by decide) ⟨by decide, by decide, rfl⟩ rfl (Nat.le_of_ble_eq_true rfl) ?_
      refine g_lret C dX8_odds_120 ?_
      exact ⟨rfl, hs0.same hF2 (fun q _ => by rw [e65]) (fun q => by rw [e65]; exact q) (by decide) (by decide), hF2.s (by decide)⟩
    · omega
  | succ k ih =>
    intro v c v0 σ hv hc hF h65
    have h := hs0.P
    have h8 := h.1
    have e0 : s.1.1.2 j 3 = σ0.1 65 (1 + 4 * j + 3) := (h.2.2 j hj 3 (by decide)).symm
    refine g_iload C dX8_odds_58 rfl ?_
    refine g_ic (n := 4) C dX8_odds_60 (by decide) ?_
    refine g_icgtN C 101 dX8_odds_61 (by decide) (by omega) (by omega) (fun h61 => ?_) (fun h61 => ?_)
    · omega
    · refine g_aload_n C dX8_odds_64 rfl ?_
      refine gf_X8_w C (by rfl) dX8_odds_65 kf_RX8_11 ?_
      refine g_iload C dX8_odds_68 rfl ?_
      refine g_iload C dX8_odds_70 rfl ?_
      refine g_iastN C (by rfl) (by omega) (by first | decide | omega) dX8_odds_72 ?_
      have hP : PIs (sI σ 65 (upd (σ.1 65) (1 + 4 * j + 3) (nI v))) s.1.1.1 (pMark s.1.1.2 j (nI v)) := by have q := PF.mark (v := nI v) hs0.1.1 hj; unfold PIs; rw [sI_self, h65, up_up]; exact q
      refine g_aload_n C dX8_odds_73 rfl ?_
      refine g_callV C (ob_X8 (by rfl)) (c_X8_finds (d := d) hP) dX8_odds_74 km_RX8_138 kn_RX8 kc_yX8_finds ki_yX8_finds kx_yX8_finds (by omega) (by decide) ⟨by decide, by decide, rfl⟩ rfl (Nat.le_of_ble_eq_true rfl) (fun r1 σ1 q1 => ?_)
      obtain ⟨rfl, hB, hI, f1⟩ := q1
      have hF3 : Fk [6] [65, 68, 69] σ0 σ1 := (hF.sI (by simp) (by decide)).tr (f1.mono (by simp) (by simp))
      have h65b : σ1.1 65 = upd (σ0.1 65) (1 + 4 * j + 3) (nI v) := by rw [(f1.1 65 (by simp)).1, sI_self, h65, up_up]
      refine g_iload C dX8_odds_77 rfl ?_
      refine g_aload_n C dX8_odds_79 rfl ?_
      refine gf_X8_size C (by rfl) dX8_odds_80 kf_RX8_97 ?_
      refine g_iload_n C dX8_odds_83 rfl ?_
      rw [hB.2.1, gL_len]
      have hk48 := ksL_le (P := pMark s.1.1.2 j (nI v)) (n := s.1.1.1) 48 0 0
      refine g_icltN C 91 dX8_odds_84 (by decide) (by omega) (by omega) (fun h84 => ?_) (fun h84 => ?_)
      · refine g_ic (n := 0) C dX8_odds_91 (by decide) ?_
        first | refine g_iaddN C dX8_odds_92 ?_ | refine g_iadd C dX8_odds_92 ?_
        refine g_istore C dX8_odds_93 (by decide) ?_
        refine g_iinc1 C dX8_odds_95 rfl (by decide) ?_
        refine g_goto C 58 dX8_odds_98 (by decide) ?_
        first | (refine g_loc ([(0, .ref (ev_a E 64)), (1, .int (nI j)), (2, .int (nI m)), (3, .int (nI t)), (4, .int (nI (1 + 4 * j + 3))), (5, .int (s.1.1.2 j 3)), (6, .int (nI (c + 1))), (7, .int (nI (v + 1)))]) (And.intro rfl (And.intro rfl (And.intro rfl (And.intro rfl (And.intro rfl (And.intro rfl (And.intro rfl (And.intro rfl trivial)))))))) ?_; rw [show odL s.1.1.2 s.1.1.1 j m (k + 1) v c = odL s.1.1.2 s.1.1.1 j m k (v + 1) (c + 1) from by rw [odL, if_pos (by omega)]]; exact ih (v + 1) (c + 1) (nI v) σ1 (by omega) (by omega) hF3 h65b) | (refine g_loc ([(0, .ref (ev_a E 64)), (1, .int (nI j)), (2, .int (nI m)), (3, .int (nI t)), (4, .int (nI (1 + 4 * j + 3))), (5, .int (s.1.1.2 j 3)), (6, .int (nI (c + 0))), (7, .int (nI (v + 1)))]) (And.intro rfl (And.intro rfl (And.intro rfl (And.intro rfl (And.intro rfl (And.intro rfl (And.intro rfl (And.intro rfl trivial)))))))) ?_; rw [show odL s.1.1.2 s.1.1.1 j m (k + 1) v c = odL s.1.1.2 s.1.1.1 j m k (v + 1) c from by rw [odL, if_neg (by omega)]]; exact ih (v + 1) c (nI v) σ1 (by omega) (by omega) hF3 h65b)
      · refine g_ic (n := 1) C dX8_odds_87 (by decide) ?_
        refine g_goto C 92 dX8_odds_88 (by decide) ?_
        first | refine g_iaddN C dX8_odds_92 ?_ | refine g_iadd C dX8_odds_92 ?_
        refine g_istore C dX8_odds_93 (by decide) ?_
        refine g_iinc1 C dX8_odds_95 rfl (by decide) ?_
        refine g_goto C 58 dX8_odds_98 (by decide) ?_
        first | (refine g_loc ([(0, .ref (ev_a E 64)), (1, .int (nI j)), (2, .int (nI m)), (3, .int (nI t)), (4, .int (nI (1 + 4 * j + 3))), (5, .int (s.1.1.2 j 3)), (6, .int (nI (c + 1))), (7, .int (nI (v + 1)))]) (And.intro rfl (And.intro rfl (And.intro rfl (And.intro rfl (And.intro rfl (And.intro rfl (And.intro rfl (And.intro rfl trivial)))))))) ?_; rw [show odL s.1.1.2 s.1.1.1 j m (k + 1) v c = odL s.1.1.2 s.1.1.1 j m k (v + 1) (c + 1) from by rw [odL, if_pos (by omega)]]; exact ih (v + 1) (c + 1) (nI v) σ1 (by omega) (by omega) hF3 h65b) | (refine g_loc ([(0, .ref (ev_a E 64)), (1, .int (nI j)), (2, .int (nI m)), (3, .int (nI t)), (4, .int (nI (1 + 4 * j + 3))), (5, .int (s.1.1.2 j 3)), (6, .int (nI (c + 0))), (7, .int (nI (v + 1)))]) (And.intro rfl (And.intro rfl (And.intro rfl (And.intro rfl (And.intro rfl (And.intro rfl (And.intro rfl (And.intro rfl trivial)))))))) ?_; rw [show odL s.1.1.2 s.1.1.1 j m (k + 1) v c = odL s.1.1.2 s.1.1.1 j m k (v + 1) c from by rw [odL, if_neg (by omega)]]; exact ih (v + 1) c (nI v) σ1 (by omega) (by omega) hF3 h65b)

set_option maxHeartbeats 4000000 in
set_option maxRecDepth 100000 in
theorem c_X8_odds {E : Ev} {d : Nat} {σ : St} {s : Ms} (hs : RfIs σ s) {p m t : Int32} : Con E (d + 9) yX8_odds cX8_odds 8 ((Option.some FieldType.long)) [.ref (ev_a E 64), .int p, .int m, .int t] σ (fun r σ2 => r = some (.long (aOdds s p m t)) ∧ RfIs σ2 (s) ∧ Rs σ σ2) := by
  refine con_of (by decide) (Nat.le_of_ble_eq_true rfl) (fun X hX C => ?_)
  have C : Cx E X cX8_odds RX8 8 ((Option.some FieldType.long)) := C
  have h := hs.P
  have h8 := h.1
  show G E _ X _ _ _ 0 [(0, .ref (ev_a E 64)), (1, .int p), (2, .int m), (3, .int t)] []
  refine g_aload_n C dX8_odds_0 rfl ?_
  refine g_iload_n C dX8_odds_1 rfl ?_
  refine g_callVp C (ob_X8 (by rfl)) (c_X8_isPoint (d := d) h) dX8_odds_2 km_RX8_166 kn_RX8 kc_yX8_isPoint ki_yX8_isPoint kx_yX8_isPoint (by omega) (by decide) ⟨by decide, by decide, rfl⟩ rfl (Nat.le_of_ble_eq_true rfl) ?_
  refine g_ifeqB C 30 dX8_odds_5 (by decide) (fun h5 => ?_) (fun h5 => ?_)
  · refine g_ldc2 C (-9223372036854775808) dX8_odds_30 (List.mem_of_getElem? (i := 1086) (by decide +kernel)) ?_
    refine g_lret C dX8_odds_33 ?_
    exact ⟨congrArg (fun v => some (Value.long v)) (by unfold aOdds; first | (rw [if_pos (by rw [h5]; rfl)]; rfl) | (rw [if_pos (by rw [h5, h17]; rfl)]; rfl) | (rw [if_pos (by rw [h5, h17, h27]; rfl)]; rfl)), hs, Rs.rf⟩
  · obtain ⟨j, hj, rfl⟩ := hpB_t (by omega) h5
    have hj8 : j < 2 ^ 31 := by omega
    refine g_iload_n C dX8_odds_8 rfl ?_
    refine g_i2l C _ dX8_odds_9 rfl ?_
    refine g_lc (v := 0) C dX8_odds_10 (by decide) ?_
    refine g_ldc2 C (48) dX8_odds_11 (List.mem_of_getElem? (i := 923) (by decide +kernel)) ?_
    refine g_callSp C (c_X8_in (d := d) (0) (48) (by decide) (by decide)) dX8_odds_14 km_RX8_56 kn_RX8 kc_yX8_in ks_yX8_in (by omega) (by decide) ⟨by decide, by decide, rfl⟩ rfl (Nat.le_of_ble_eq_true rfl) ?_
    refine g_ifeqB C 30 dX8_odds_17 (by decide) (fun h17 => ?_) (fun h17 => ?_)
    · refine g_ldc2 C (-9223372036854775808) dX8_odds_30 (List.mem_of_getElem? (i := 1086) (by decide +kernel)) ?_
      refine g_lret C dX8_odds_33 ?_
      exact ⟨congrArg (fun v => some (Value.long v)) (by unfold aOdds; first | (rw [if_pos (by rw [h5]; rfl)]; rfl) | (rw [if_pos (by rw [h5, h17]; rfl)]; rfl) | (rw [if_pos (by rw [h5, h17, h27]; rfl)]; rfl)), hs, Rs.rf⟩
    · obtain ⟨m2, hm2, rfl⟩ := in_n (k := 48) h17
      refine g_iload_n C dX8_odds_20 rfl ?_
      refine g_i2l C _ dX8_odds_21 rfl ?_
      refine g_lc (v := 0) C dX8_odds_22 (by decide) ?_
      refine g_lc (v := 1) C dX8_odds_23 (by decide) ?_
      refine g_callSp C (c_X8_in (d := d) (0) (1) (by decide) (by decide)) dX8_odds_24 km_RX8_56 kn_RX8 kc_yX8_in ks_yX8_in (by omega) (by decide) ⟨by decide, by decide, rfl⟩ rfl (Nat.le_of_ble_eq_true rfl) ?_
      refine g_ifneB C 34 dX8_odds_27 (by decide) (fun h27 => ?_) (fun h27 => ?_)
      · obtain ⟨t2, ht2, rfl⟩ := in_n (k := 1) h27
        refine g_ic (n := 1) C dX8_odds_34 (by decide) ?_
        refine g_ic (n := 4) C dX8_odds_35 (by decide) ?_
        refine g_iload_n C dX8_odds_36 rfl ?_
        refine g_imulN C dX8_odds_37 ?_
        refine g_iaddN C dX8_odds_38 ?_
        refine g_ic (n := 3) C dX8_odds_39 (by decide) ?_
        refine g_iaddN C dX8_odds_40 ?_
        refine g_istore C dX8_odds_41 (by decide) ?_
        refine g_aload_n C dX8_odds_43 rfl ?_
        refine gf_X8_w C (by rfl) dX8_odds_44 kf_RX8_11 ?_
        refine g_iload C dX8_odds_47 rfl ?_
        refine g_ialdN C (by rfl) (by omega) (by first | decide | omega) dX8_odds_49 ?_
        rw [h.2.2 j hj 3 (by decide)]
        refine g_istore C dX8_odds_50 (by decide) ?_
        refine g_ic (n := 0) C dX8_odds_52 (by decide) ?_
        refine g_istore C dX8_odds_53 (by decide) ?_
        refine g_ic (n := 0) C dX8_odds_55 (by decide) ?_
        refine g_istore C dX8_odds_56 (by decide) ?_
        refine g_loc ([(0, .ref (ev_a E 64)), (1, .int (nI j)), (2, .int (nI m2)), (3, .int (nI t2)), (4, .int (nI (1 + 4 * j + 3))), (5, .int (s.1.1.2 j 3)), (6, .int (nI 0)), (7, .int (nI 0))]) (And.intro rfl (And.intro rfl (And.intro rfl (And.intro rfl (And.intro rfl (And.intro rfl (And.intro rfl (And.intro rfl trivial)))))))) ?_
        refine g_post (fun r σ2 q => ?_) (l_X8_odds C hs hj hm2 (by omega) 5 0 0 (s.1.1.2 j 3) σ (by omega) (by omega) Fk.rf (by rw [(h.2.2 j hj 3 (by decide)).symm, up_self]))
        obtain ⟨q1, q2, q3⟩ := q
        refine ⟨q1.trans (congrArg (fun v => some (Value.long v)) ?_), q2, q3⟩
        symm
        unfold aOdds
        rw [if_neg (by rw [h5, h17, h27]; decide), ix_nI (show j < 2 ^ 31 by omega), ix_nI (show m2 < 2 ^ 31 by omega), ix_nI (show t2 < 2 ^ 31 by omega)]
      · refine g_ldc2 C (-9223372036854775808) dX8_odds_30 (List.mem_of_getElem? (i := 1086) (by decide +kernel)) ?_
        refine g_lret C dX8_odds_33 ?_
        exact ⟨congrArg (fun v => some (Value.long v)) (by unfold aOdds; first | (rw [if_pos (by rw [h5]; rfl)]; rfl) | (rw [if_pos (by rw [h5, h17]; rfl)]; rfl) | (rw [if_pos (by rw [h5, h17, h27]; rfl)]; rfl)), hs, Rs.rf⟩

set_option maxHeartbeats 4000000 in
set_option maxRecDepth 100000 in
theorem l_X8_mean {E : Ev} {d : Nat} {X : Mx} (C : Cx E X cX8_mean RX8 4 ((Option.some FieldType.long))) {σ : St} {L : List Nat} (hB : GmB σ L) {t : Nat} (ht : t < 2) (h0 : 0 < L.length) : ∀ (k : Nat) (i a : Nat), L.length = i + k → a ≤ 6 * i → G E (d + 8) X 4 (Det (some (.long (nL (pfL (otL L k i a) L.length (if t = 0 then (otL L k i a) else L.length) L.length)))) σ) σ 22 ([(0, .ref (ev_a E 64)), (1, .int (nI t)), (2, .int (nI a)), (3, .int (nI i))]) [] := by
  intro k
  induction k with
  | zero =>
    intro i a hi ha
    obtain ⟨⟨hL1, hL2, hL3⟩, hgs, hgm⟩ := id hB
    refine g_iload_n C dX8_mean_22 rfl ?_
    refine g_aload_n C dX8_mean_23 rfl ?_
    refine gf_X8_size C (by rfl) dX8_mean_24 kf_RX8_97 ?_
    rw [hgs]
    refine g_icgeN C 48 dX8_mean_27 (by decide) (by omega) (by omega) (fun h27 => ?_) (fun h27 => ?_)
    · refine g_iload_n C dX8_mean_48 rfl ?_
      refine g_i2l C _ dX8_mean_49 rfl ?_
      refine g_aload_n C dX8_mean_50 rfl ?_
      refine gf_X8_size C (by rfl) dX8_mean_51 kf_RX8_97 ?_
      rw [hgs]
      refine g_i2l C _ dX8_mean_54 rfl ?_
      show G E _ X _ _ _ _ _ [.long (nL L.length), .long (nL a)]
      refine g_iload_n C dX8_mean_55 rfl ?_
      refine g_callSp C (c_X8_lowest (d := d) (a := a) (b := L.length) (by omega) (by omega) (by omega) ht) dX8_mean_56 km_RX8_252 kn_RX8 kc_yX8_lowest ks_yX8_lowest (by omega) (by decide) ⟨by decide, by decide, rfl⟩ rfl (Nat.le_of_ble_eq_true rfl) ?_
      refine g_lret C dX8_mean_59 ?_
      exact ⟨rfl, rfl⟩
    · omega
  | succ k ih =>
    intro i a hi ha
    obtain ⟨⟨hL1, hL2, hL3⟩, hgs, hgm⟩ := id hB
    refine g_iload_n C dX8_mean_22 rfl ?_
    refine g_aload_n C dX8_mean_23 rfl ?_
    refine gf_X8_size C (by rfl) dX8_mean_24 kf_RX8_97 ?_
    rw [hgs]
    refine g_icgeN C 48 dX8_mean_27 (by decide) (by omega) (by omega) (fun h27 => ?_) (fun h27 => ?_)
    · omega
    · refine g_iload_n C dX8_mean_30 rfl ?_
      refine g_aload_n C dX8_mean_31 rfl ?_
      refine gf_X8_group C (by rfl) dX8_mean_32 kf_RX8_21 ?_
      refine g_iload_n C dX8_mean_35 rfl ?_
      refine g_ialdN C (by rfl) (by omega) (by first | decide | omega) dX8_mean_36 ?_
      rw [hgm i (by omega)]
      have hg := hL2 i (by omega)
      have ho := (ordN_le _ hg).1
      refine g_callSp C (c_X8_orderOf (d := d) hg) dX8_mean_37 km_RX8_216 kn_RX8 kc_yX8_orderOf ks_yX8_orderOf (by omega) (by decide) ⟨by decide, by decide, rfl⟩ rfl (Nat.le_of_ble_eq_true rfl) ?_
      first | refine g_iaddN C dX8_mean_40 ?_ | refine g_iadd C dX8_mean_40 ?_
      refine g_istore_n C dX8_mean_41 (by decide) ?_
      refine g_iinc1 C dX8_mean_42 rfl (by decide) ?_
      refine g_goto C 22 dX8_mean_45 (by decide) ?_
      refine g_loc ([(0, .ref (ev_a E 64)), (1, .int (nI t)), (2, .int (nI (a + ordN (lg L i)))), (3, .int (nI (i + 1)))]) (And.intro rfl (And.intro rfl (And.intro rfl (And.intro rfl trivial)))) ?_
      rw [show otL L (k + 1) i a = otL L k (i + 1) (a + ordN (lg L i)) from rfl]
      exact ih (i + 1) _ (by omega) (by omega)

set_option maxHeartbeats 4000000 in
set_option maxRecDepth 100000 in
theorem c_X8_mean {E : Ev} {d : Nat} {σ : St} {s : Ms} (hs : RfIs σ s) (hL0 : 0 < (gL s).length) {t : Int32} : Con E (d + 9) yX8_mean cX8_mean 4 ((Option.some FieldType.long)) [.ref (ev_a E 64), .int t] σ (fun r σ2 => r = some (.long (aMean s t)) ∧ RfIs σ2 (s) ∧ Rs σ σ2) := by
  refine con_of (by decide) (Nat.le_of_ble_eq_true rfl) (fun X hX C => ?_)
  have C : Cx E X cX8_mean RX8 4 ((Option.some FieldType.long)) := C
  have h := hs.P
  have h8 := h.1
  show G E _ X _ _ _ 0 [(0, .ref (ev_a E 64)), (1, .int t)] []
  refine g_iload_n C dX8_mean_0 rfl ?_
  refine g_i2l C _ dX8_mean_1 rfl ?_
  refine g_lc (v := 0) C dX8_mean_2 (by decide) ?_
  refine g_lc (v := 1) C dX8_mean_3 (by decide) ?_
  refine g_callSp C (c_X8_in (d := d) (0) (1) (by decide) (by decide)) dX8_mean_4 km_RX8_56 kn_RX8 kc_yX8_in ks_yX8_in (by omega) (by decide) ⟨by decide, by decide, rfl⟩ rfl (Nat.le_of_ble_eq_true rfl) ?_
  refine g_ifneB C 14 dX8_mean_7 (by decide) (fun h7 => ?_) (fun h7 => ?_)
  · obtain ⟨t2, ht2, rfl⟩ := in_n (k := 1) h7
    refine g_aload_n C dX8_mean_14 rfl ?_
    refine g_callV C (ob_X8 (by rfl)) (c_X8_finds (d := d) h) dX8_mean_15 km_RX8_138 kn_RX8 kc_yX8_finds ki_yX8_finds kx_yX8_finds (by omega) (by decide) ⟨by decide, by decide, rfl⟩ rfl (Nat.le_of_ble_eq_true rfl) (fun r1 σ1 q1 => ?_)
    obtain ⟨rfl, hB, hI, f1⟩ := q1
    have hs1 : RfIs σ1 s := hs.go f1 (by decide) (by decide)
    obtain ⟨⟨hL1, hL2, hL3⟩, hgs, hgm⟩ := id hB
    have vLe : (gL s).length ≤ 48 := hL1
    refine g_ic (n := 0) C dX8_mean_18 (by decide) ?_
    refine g_istore_n C dX8_mean_19 (by decide) ?_
    refine g_ic (n := 0) C dX8_mean_20 (by decide) ?_
    refine g_istore_n C dX8_mean_21 (by decide) ?_
    refine g_loc ([(0, .ref (ev_a E 64)), (1, .int (nI t2)), (2, .int (nI 0)), (3, .int (nI 0))]) (And.intro rfl (And.intro rfl (And.intro rfl (And.intro rfl trivial)))) ?_
    refine g_post (fun r σ2 q => ?_) (l_X8_mean C hB (by omega) hL0 (gL s).length 0 0 (Nat.zero_add _).symm (by omega))
    obtain ⟨rfl, rfl⟩ := q
    refine ⟨congrArg (fun v => some (Value.long v)) ?_, hs1, f1.s (by decide)⟩
    symm
    unfold aMean
    rw [if_neg (by rw [h7]; decide), ix_nI (show t2 < 2 ^ 31 by omega)]
  · refine g_ldc2 C (-9223372036854775808) dX8_mean_10 (List.mem_of_getElem? (i := 1086) (by decide +kernel)) ?_
    refine g_lret C dX8_mean_13 ?_
    exact ⟨congrArg (fun v => some (Value.long v)) (by unfold aMean; rw [if_pos h7]; rfl), hs, Rs.rf⟩

set_option maxHeartbeats 4000000 in
set_option maxRecDepth 100000 in
theorem l_X8_looked {E : Ev} {d : Nat} {X : Mx} (C : Cx E X cX8_looked RX8 3 ((Option.some FieldType.int))) {σ : St} {n : Nat} {P : Nat → Nat → Int32} (h : PIs σ n P) {w : Rw} (hr : RB (σ.1 65) 61 8 w) (hok : ∀ j, j < w.1 → w.2.1 j < 48 ∧ w.2.2 j ≤ 6) : ∀ (k : Nat) (r : Nat), w.1 = r + k → G E (d + 8) X 3 (Det (some (.int (oI (loL P n w.2.1 w.2.2 k r)))) σ) σ 2 ([(0, .ref (ev_a E 64)), (1, .int (nI r))]) [] := by
  intro k
  induction k with
  | zero =>
    intro r hi
    have hc := hr.1
    have h8 := h.1
    refine g_iload_n C dX8_looked_2 rfl ?_
    refine g_aload_n C dX8_looked_3 rfl ?_
    refine gf_X8_w C (by rfl) dX8_looked_4 kf_RX8_11 ?_
    refine g_bp C (nI 61) dX8_looked_7 (by decide) ?_
    refine g_ialdN C (by rfl) (by omega) (by first | decide | omega) dX8_looked_9 ?_
    rw [hr.2.1]
    refine g_icgeN C 61 dX8_looked_10 (by decide) (by omega) (by omega) (fun h10 => ?_) (fun h10 => ?_)
    · refine g_bp C (-5) dX8_looked_61 (by decide) ?_
      refine g_iret C dX8_looked_63 ?_
      exact ⟨congrArg (fun v => some (Value.int v)) (rfl), rfl⟩
    · omega
  | succ k ih =>
    intro r hi
    have hc := hr.1
    have h8 := h.1
    refine g_iload_n C dX8_looked_2 rfl ?_
    refine g_aload_n C dX8_looked_3 rfl ?_
    refine gf_X8_w C (by rfl) dX8_looked_4 kf_RX8_11 ?_
    refine g_bp C (nI 61) dX8_looked_7 (by decide) ?_
    refine g_ialdN C (by rfl) (by omega) (by first | decide | omega) dX8_looked_9 ?_
    rw [hr.2.1]
    refine g_icgeN C 61 dX8_looked_10 (by decide) (by omega) (by omega) (fun h10 => ?_) (fun h10 => ?_)
    · omega
    · refine g_aload_n C dX8_looked_13 rfl ?_
      refine gf_X8_w C (by rfl) dX8_looked_14 kf_RX8_11 ?_
      refine g_bp C (nI 62) dX8_looked_17 (by decide) ?_
      refine g_ic (n := 2) C dX8_looked_19 (by decide) ?_
      refine g_iload_n C dX8_looked_20 rfl ?_
      refine g_imulN C dX8_looked_21 ?_
      refine g_iaddN C dX8_looked_22 ?_
      refine g_ialdN C (by rfl) (by omega) (by first | decide | omega) dX8_looked_23 ?_
      rw [show σ.1 65 (62 + 2 * r) = nI (w.2.1 r) from (hr.2.2 r (by omega)).1]
      refine g_istore_n C dX8_looked_24 (by decide) ?_
      refine g_aload_n C dX8_looked_25 rfl ?_
      refine g_iload_n C dX8_looked_26 rfl ?_
      refine g_callVp C (ob_X8 (by rfl)) (c_X8_movedMany (d := d) h (hok r (by omega)).1) dX8_looked_27 km_RX8_101 kn_RX8 kc_yX8_movedMany ki_yX8_movedMany kx_yX8_movedMany (by omega) (by decide) ⟨by decide, by decide, rfl⟩ rfl (Nat.le_of_ble_eq_true rfl) ?_
      have b1 := mvN_le (P := P) (n := n) (m := w.2.1 r)
      refine g_ifgt C 53 dX8_looked_30 (by decide) (fun h30 => ?_) (fun h30 => ?_)
      · have k30 : ¬ kpt P n (w.2.1 r) = true := fun q => by have z := h30; rw [mv_kp.mpr q] at z; exact absurd z (by decide)
        refine g_iload_n C dX8_looked_53 rfl ?_
        refine g_iret C dX8_looked_54 ?_
        exact ⟨congrArg (fun v => some (Value.int v)) (by rw [show (loL P n w.2.1 w.2.2 (k + 1) r) = some r from by first | (rw [loL, if_neg (fun q => k30 q.1)]; done) | (rw [loL, if_neg (fun q => h50 q.2)]; done)]; rfl), rfl⟩
      · have k30 : kpt P n (w.2.1 r) = true := mv_kp.mp (by have q := h30; rw [ltI, Int32.toInt_zero, nI_toInt (by omega)] at q; omega)
        refine g_iload_n C dX8_looked_33 rfl ?_
        refine g_callSp C (c_X8_orderOf (d := d) (hok r (by omega)).1) dX8_looked_34 km_RX8_216 kn_RX8 kc_yX8_orderOf ks_yX8_orderOf (by omega) (by decide) ⟨by decide, by decide, rfl⟩ rfl (Nat.le_of_ble_eq_true rfl) ?_
        refine g_aload_n C dX8_looked_37 rfl ?_
        refine gf_X8_w C (by rfl) dX8_looked_38 kf_RX8_11 ?_
        refine g_bp C (nI 62) dX8_looked_41 (by decide) ?_
        refine g_ic (n := 2) C dX8_looked_43 (by decide) ?_
        refine g_iload_n C dX8_looked_44 rfl ?_
        refine g_imulN C dX8_looked_45 ?_
        refine g_iaddN C dX8_looked_46 ?_
        refine g_ic (n := 1) C dX8_looked_47 (by decide) ?_
        refine g_iaddN C dX8_looked_48 ?_
        refine g_ialdN C (by rfl) (by omega) (by first | decide | omega) dX8_looked_49 ?_
        rw [show σ.1 65 (62 + 2 * r + 1) = nI (w.2.2 r) from by have q := (hr.2.2 r (by omega)).2; rw [show 62 + 2 * r + 1 = 61 + 2 + 2 * r from by omega]; exact q]
        have b2 := (ordN_le _ (hok r (by omega)).1).1
        have b3 := (hok r (by omega)).2
        refine g_iceqN C 55 dX8_looked_50 (by decide) (by omega) (by omega) (fun h50 => ?_) (fun h50 => ?_)
        · refine g_iinc1 C dX8_looked_55 rfl (by decide) ?_
          refine g_goto C 2 dX8_looked_58 (by decide) ?_
          refine g_loc ([(0, .ref (ev_a E 64)), (1, .int (nI (r + 1)))]) (And.intro rfl (And.intro rfl trivial)) ?_
          rw [show (loL P n w.2.1 w.2.2 (k + 1) r) = (loL P n w.2.1 w.2.2 k (r + 1)) from by rw [loL, if_pos ⟨k30, h50⟩]]
          exact ih (r + 1) (by omega)
        · refine g_iload_n C dX8_looked_53 rfl ?_
          refine g_iret C dX8_looked_54 ?_
          exact ⟨congrArg (fun v => some (Value.int v)) (by rw [show (loL P n w.2.1 w.2.2 (k + 1) r) = some r from by first | (rw [loL, if_neg (fun q => k30 q.1)]; done) | (rw [loL, if_neg (fun q => h50 q.2)]; done)]; rfl), rfl⟩

set_option maxHeartbeats 4000000 in
set_option maxRecDepth 100000 in
theorem c_X8_looked {E : Ev} {d : Nat} {σ : St} {s : Ms} (hs : RfIs σ s) (hok : SuOk s.1) : Con E (d + 8) yX8_looked cX8_looked 3 ((Option.some FieldType.int)) [.ref (ev_a E 64)] σ (RfTo (.int (aLooked s)) σ (s)) := by
  refine con_of (by decide) (Nat.le_of_ble_eq_true rfl) (fun X hX C => ?_)
  have C : Cx E X cX8_looked RX8 3 ((Option.some FieldType.int)) := C
  show G E _ X _ _ _ 0 [(0, .ref (ev_a E 64))] []
  refine g_ic (n := 0) C dX8_looked_0 (by decide) ?_
  refine g_istore_n C dX8_looked_1 (by decide) ?_
  refine g_loc ([(0, .ref (ev_a E 64)), (1, .int (nI 0))]) (And.intro rfl (And.intro rfl trivial)) ?_
  refine g_post (fun r σ2 q => ?_) (l_X8_looked C hs.P hs.1.2.2.2 (fun q hq => hok.2.2.2 q hq) s.1.2.2.2.1 0 (by omega))
  obtain ⟨rfl, rfl⟩ := q
  exact ⟨rfl, hs, Rs.rf⟩

def cp78 (f g : Nat → Int32) (i : Nat) : Nat → Int32 := fun q => if q < i then f q else g q
theorem cp_0 {f g : Nat → Int32} : cp78 f g 0 = g := by funext q; unfold cp78; rw [if_neg (by omega)]
theorem cp_s {f g : Nat → Int32} {i : Nat} : upd (cp78 f g i) i (f i) = cp78 f g (i + 1) := by
  funext q
  unfold cp78
  by_cases e : q = i
  · subst e; rw [up_i, if_pos (by omega)]
  · rw [up_n e]
    by_cases c : q < i
    · rw [if_pos c, if_pos (by omega)]
    · rw [if_neg c, if_neg (by omega)]

set_option maxHeartbeats 4000000 in
set_option maxRecDepth 100000 in
theorem l_X8_copies {E : Ev} {d : Nat} {X : Mx} (C : Cx E X cX8_copies RX8 3 ((Option.none : Option FieldType))) {σ : St} {a b : Nat} (ha : kd a = (12, 78)) (hb : kd b = (12, 78)) (hab : a ≠ b) : ∀ (k : Nat) (i : Nat), 78 = i + k → G E d X 3 (Det none (sI σ b (cp78 (σ.1 a) (σ.1 b) 78))) (sI σ b (cp78 (σ.1 a) (σ.1 b) i)) 2 ([(0, .ref (ev_a E a)), (1, .ref (ev_a E b)), (2, .int (nI i))]) [] := by
  intro k
  induction k with
  | zero =>
    intro i hi
    refine g_iload_n C dX8_copies_2 rfl ?_
    refine g_bp C (nI 78) dX8_copies_3 (by decide) ?_
    refine g_icgeN C 20 dX8_copies_5 (by decide) (by omega) (by omega) (fun h5 => ?_) (fun h5 => ?_)
    · refine g_vret C dX8_copies_20 ?_
      rw [show i = 78 from by omega]; exact ⟨rfl, rfl⟩
    · omega
  | succ k ih =>
    intro i hi
    refine g_iload_n C dX8_copies_2 rfl ?_
    refine g_bp C (nI 78) dX8_copies_3 (by decide) ?_
    refine g_icgeN C 20 dX8_copies_5 (by decide) (by omega) (by omega) (fun h5 => ?_) (fun h5 => ?_)
    · omega
    · refine g_aload_n C dX8_copies_8 rfl ?_
      refine g_iload_n C dX8_copies_9 rfl ?_
      refine g_aload_n C dX8_copies_10 rfl ?_
      refine g_iload_n C dX8_copies_11 rfl ?_
      refine g_ialdN C ha (by omega) (by first | decide | omega) dX8_copies_12 ?_
      rw [sI_ne (fun e => hab e)]
      refine g_iastN C hb (by omega) (by first | decide | omega) dX8_copies_13 ?_
      refine g_iinc1 C dX8_copies_14 rfl (by decide) ?_
      refine g_goto C 2 dX8_copies_17 (by decide) ?_
      refine g_loc ([(0, .ref (ev_a E a)), (1, .ref (ev_a E b)), (2, .int (nI (i + 1)))]) (And.intro rfl (And.intro rfl (And.intro rfl trivial))) ?_
      refine g_eqS (show _ = (sI σ b (cp78 (σ.1 a) (σ.1 b) (i + 1))) from by rw [sI_self, cp_s, sI_sI]) ?_
      exact ih (i + 1) (by omega)

set_option maxHeartbeats 4000000 in
set_option maxRecDepth 100000 in
theorem c_X8_copies {E : Ev} {d : Nat} {σ : St} {a b : Nat} (ha : kd a = (12, 78)) (hb : kd b = (12, 78)) (hab : a ≠ b) : Con E (d) yX8_copies cX8_copies 3 ((Option.none : Option FieldType)) [.ref (ev_a E a), .ref (ev_a E b)] σ (Det none (sI σ b (cp78 (σ.1 a) (σ.1 b) 78))) := by
  refine con_of (by decide) (Nat.le_of_ble_eq_true rfl) (fun X hX C => ?_)
  have C : Cx E X cX8_copies RX8 3 ((Option.none : Option FieldType)) := C
  show G E _ X _ _ _ 0 [(0, .ref (ev_a E a)), (1, .ref (ev_a E b))] []
  refine g_ic (n := 0) C dX8_copies_0 (by decide) ?_
  refine g_istore_n C dX8_copies_1 (by decide) ?_
  refine g_loc ([(0, .ref (ev_a E a)), (1, .ref (ev_a E b)), (2, .int (nI 0))]) (And.intro rfl (And.intro rfl (And.intro rfl trivial))) ?_
  refine g_eqS (show σ = (sI σ b (cp78 (σ.1 a) (σ.1 b) 0)) from by rw [cp_0, sI_id]) ?_
  exact l_X8_copies C ha hb hab 78 0 (by omega)

theorem cp_in {f g : Nat → Int32} {q : Nat} (h : q < 78) : cp78 f g 78 q = f q := by unfold cp78; rw [if_pos h]

set_option maxHeartbeats 4000000 in
set_option maxRecDepth 100000 in
theorem c_X8_image {E : Ev} {d : Nat} {σ : St} {s : Ms} (hs : RfIs σ s) : Con E (d + 1) yX8_image cX8_image 1 ((Option.some FieldType.int)) [.ref (ev_a E 64)] σ (RfTo (.int (nI s.1.1.1)) σ (tImage s)) := by
  refine con_of (by decide) (Nat.le_of_ble_eq_true rfl) (fun X hX C => ?_)
  have C : Cx E X cX8_image RX8 1 ((Option.some FieldType.int)) := C
  have h := hs.P
  have h8 := h.1
  show G E _ X _ _ _ 0 [(0, .ref (ev_a E 64))] []
  refine g_aload_n C dX8_image_0 rfl ?_
  refine g_ic (n := 1) C dX8_image_1 (by decide) ?_
  refine gp_X8_hasImage C (by rfl) (by first | exact bI_01 _ | exact Or.inl rfl | exact Or.inr rfl) dX8_image_2 kf_RX8_275 ?_
  refine g_aload_n C dX8_image_5 rfl ?_
  refine gf_X8_w C (by rfl) dX8_image_6 kf_RX8_11 ?_
  refine g_aload_n C dX8_image_9 rfl ?_
  refine gf_X8_kept C (by rfl) dX8_image_10 kf_RX8_18 ?_
  refine g_callSu C (c_X8_copies (d := d) rfl rfl (by decide)) dX8_image_13 km_RX8_263 kn_RX8 kc_yX8_copies ks_yX8_copies (by omega) (by decide) ⟨by decide, by decide, rfl⟩ rfl (Nat.le_of_ble_eq_true rfl) ?_
  refine g_aload_n C dX8_image_16 rfl ?_
  refine gf_X8_w C (by rfl) dX8_image_17 kf_RX8_11 ?_
  refine g_ic (n := 0) C dX8_image_20 (by decide) ?_
  refine g_ialdN C (by rfl) (by omega) (by first | decide | omega) dX8_image_21 ?_
  refine g_eq (st' := [.int (nI s.1.1.1)]) (by rw [sI_ne (by decide), sI_ne (by decide)]; rw [h.2.1]) ?_
  refine g_iret C dX8_image_22 ?_
  have hF : Fk [3] [67] σ (sI (setF σ 64 3 (nI 1)) 67 (cp78 ((setF σ 64 3 (nI 1)).1 65) ((setF σ 64 3 (nI 1)).1 67) 78)) := (Fk.rf.sF (by simp)).sI (by simp) (by decide)
  have e65 : (sI (setF σ 64 3 (nI 1)) 67 (cp78 ((setF σ 64 3 (nI 1)).1 65) ((setF σ 64 3 (nI 1)).1 67) 78)).1 65 = σ.1 65 := (hF.1 65 (by simp)).1
  have e67 : (sI (setF σ 64 3 (nI 1)) 67 (cp78 ((setF σ 64 3 (nI 1)).1 65) ((setF σ 64 3 (nI 1)).1 67) 78)).1 67 = cp78 (σ.1 65) (σ.1 67) 78 := by rw [sI_self]; unfold setF; rw [sI_ne (by decide), sI_ne (by decide)]
  have e3 : (sI (setF σ 64 3 (nI 1)) 67 (cp78 ((setF σ 64 3 (nI 1)).1 65) ((setF σ 64 3 (nI 1)).1 67) 78)).1 64 3 = bI true := by rw [sI_ne (by decide)]; unfold setF; rw [sI_self, up_i]; rfl
  unfold setF at e65 e67 e3 hF
  obtain ⟨h1, h2, h3, h4⟩ := hs
  exact ⟨rfl, ⟨by rw [e65]; exact h1, ⟨e3, by rw [e67]; exact h1.ag (fun q hq => cp_in hq)⟩, h3.go (hF.2 14 (by simp)) (hF.1 74 (by simp)).1, h4.go (hF.1 76 (by simp)).1 (hF.1 77 (by simp)).1 (hF.1 78 (by simp)).2⟩, hF.s (by decide)⟩

set_option maxHeartbeats 4000000 in
set_option maxRecDepth 100000 in
theorem c_X8_undo {E : Ev} {d : Nat} {σ : St} {s : Ms} (hs : RfIs σ s) : Con E (d + 1) yX8_undo cX8_undo 1 ((Option.some FieldType.int)) [.ref (ev_a E 64)] σ (RfTo (.int (aUndo s)) σ (tUndo s)) := by
  refine con_of (by decide) (Nat.le_of_ble_eq_true rfl) (fun X hX C => ?_)
  have C : Cx E X cX8_undo RX8 1 ((Option.some FieldType.int)) := C
  show G E _ X _ _ _ 0 [(0, .ref (ev_a E 64))] []
  rcases hu : s.2.1 with _ | u
  · refine g_aload_n C dX8_undo_0 rfl ?_
    refine gf_X8_hasImage C (by rfl) dX8_undo_1 kf_RX8_275 ?_
    rw [show σ.1 64 3 = bI false from by have q := hs.2.1; rw [hu] at q; exact q]
    refine g_ifneB C 10 dX8_undo_4 (by decide) (fun h4 => ?_) (fun h4 => ?_)
    · exact absurd h4 (by decide)
    · refine g_bp C (-3) dX8_undo_7 (by decide) ?_
      refine g_iret C dX8_undo_9 ?_
      exact ⟨congrArg (fun v => some (Value.int v)) (by unfold aUndo; rw [hu]), by rw [show tUndo s = s from by unfold tUndo; rw [hu]]; exact hs, Rs.rf⟩
  · refine g_aload_n C dX8_undo_0 rfl ?_
    refine gf_X8_hasImage C (by rfl) dX8_undo_1 kf_RX8_275 ?_
    have hiu : σ.1 64 3 = bI true ∧ WI (σ.1 67) u := by have q := hs.2.1; rw [hu] at q; exact q
    rw [hiu.1]
    refine g_ifneB C 10 dX8_undo_4 (by decide) (fun h4 => ?_) (fun h4 => ?_)
    · refine g_aload_n C dX8_undo_10 rfl ?_
      refine gf_X8_kept C (by rfl) dX8_undo_11 kf_RX8_18 ?_
      refine g_aload_n C dX8_undo_14 rfl ?_
      refine gf_X8_w C (by rfl) dX8_undo_15 kf_RX8_11 ?_
      refine g_callSu C (c_X8_copies (d := d) rfl rfl (by decide)) dX8_undo_18 km_RX8_263 kn_RX8 kc_yX8_copies ks_yX8_copies (by omega) (by decide) ⟨by decide, by decide, rfl⟩ rfl (Nat.le_of_ble_eq_true rfl) ?_
      refine g_aload_n C dX8_undo_21 rfl ?_
      refine gf_X8_w C (by rfl) dX8_undo_22 kf_RX8_11 ?_
      refine g_ic (n := 0) C dX8_undo_25 (by decide) ?_
      refine g_ialdN C (by rfl) (by omega) (by first | decide | omega) dX8_undo_26 ?_
      refine g_eq (st' := [.int (nI u.1.1)]) (by rw [sI_self, cp_in (by decide), hiu.2.1.2.1]) ?_
      refine g_iret C dX8_undo_27 ?_
      have hF : Fk [] [65] σ (sI σ 65 (cp78 (σ.1 67) (σ.1 65) 78)) := Fk.rf.sI (by simp) (by decide)
      exact ⟨congrArg (fun v => some (Value.int v)) (by unfold aUndo; rw [hu]), by rw [show tUndo s = (u, s.2) from by unfold tUndo; rw [hu]]; exact hs.w hF (by rw [sI_self]; exact hiu.2.ag (fun q hq => cp_in hq)), hF.s (by decide)⟩
    · exact absurd h4 (by decide)

theorem in3_out {w : Int32} (h : inB w 0 3 = false) : w.toInt < 0 ∨ 3 < w.toInt := by simp only [inB, decide_eq_false_iff_not] at h; omega

set_option maxHeartbeats 4000000 in
set_option maxRecDepth 100000 in
theorem c_X8_count {E : Ev} {d : Nat} {σ : St} {s : Ms} (hs : RfIs σ s) {w : Int32} : Con E (d) yX8_count cX8_count 2 ((Option.some FieldType.int)) [.ref (ev_a E 64), .int w] σ (RfTo (.int (aCount s w)) σ (s)) := by
  refine con_of (by decide) (Nat.le_of_ble_eq_true rfl) (fun X hX C => ?_)
  have C : Cx E X cX8_count RX8 2 ((Option.some FieldType.int)) := C
  show G E _ X _ _ _ 0 [(0, .ref (ev_a E 64)), (1, .int w)] []
  cases hw : inB w 0 3
  · refine g_iload_n C dX8_count_0 rfl ?_
    refine g_tsOut C 61 dX8_count_1 (in3_out hw) (by decide) ?_
    refine g_bp C (-2) dX8_count_61 (by decide) ?_
    refine g_iret C dX8_count_63 ?_
    exact ⟨congrArg (fun v => some (Value.int v)) (by unfold aCount; rw [if_pos hw]), hs, Rs.rf⟩
  · obtain ⟨w2, hw2, rfl⟩ := in_n (k := 3) hw
    rcases (show w2 = 0 ∨ w2 = 1 ∨ w2 = 2 ∨ w2 = 3 from by omega) with rfl | rfl | rfl | rfl
    · refine g_iload_n C dX8_count_0 rfl ?_
      refine g_tsIn C 32 dX8_count_1 (by decide) (by decide) rfl (by decide) ?_
      refine g_aload_n C dX8_count_32 rfl ?_
      refine gf_X8_w C (by rfl) dX8_count_33 kf_RX8_11 ?_
      refine g_bp C (nI 33) dX8_count_36 (by decide) ?_
      refine g_ialdN C (by rfl) (by omega) (by first | decide | omega) dX8_count_38 ?_
      rw [show σ.1 65 33 = _ from hs.1.2.1.2.1]
      refine g_iret C dX8_count_39 ?_
      exact ⟨congrArg (fun v => some (Value.int v)) (by unfold aCount; rw [if_neg (by rw [hw]; decide), if_pos rfl]), hs, Rs.rf⟩
    · refine g_iload_n C dX8_count_0 rfl ?_
      refine g_tsIn C 40 dX8_count_1 (by decide) (by decide) rfl (by decide) ?_
      refine g_aload_n C dX8_count_40 rfl ?_
      refine gf_X8_w C (by rfl) dX8_count_41 kf_RX8_11 ?_
      refine g_bp C (nI 44) dX8_count_44 (by decide) ?_
      refine g_ialdN C (by rfl) (by omega) (by first | decide | omega) dX8_count_46 ?_
      rw [show σ.1 65 44 = _ from hs.1.2.2.1.2.1]
      refine g_iret C dX8_count_47 ?_
      exact ⟨congrArg (fun v => some (Value.int v)) (by unfold aCount; rw [if_neg (by rw [hw]; decide), if_neg (by decide), if_pos rfl]), hs, Rs.rf⟩
    · refine g_iload_n C dX8_count_0 rfl ?_
      refine g_tsIn C 48 dX8_count_1 (by decide) (by decide) rfl (by decide) ?_
      refine g_aload_n C dX8_count_48 rfl ?_
      refine gf_X8_w C (by rfl) dX8_count_49 kf_RX8_11 ?_
      refine g_bp C (nI 61) dX8_count_52 (by decide) ?_
      refine g_ialdN C (by rfl) (by omega) (by first | decide | omega) dX8_count_54 ?_
      rw [show σ.1 65 61 = _ from hs.1.2.2.2.2.1]
      refine g_iret C dX8_count_55 ?_
      exact ⟨congrArg (fun v => some (Value.int v)) (by unfold aCount; rw [if_neg (by rw [hw]; decide), if_neg (by decide), if_neg (by decide), if_pos rfl]), hs, Rs.rf⟩
    · refine g_iload_n C dX8_count_0 rfl ?_
      refine g_tsIn C 56 dX8_count_1 (by decide) (by decide) rfl (by decide) ?_
      refine g_aload_n C dX8_count_56 rfl ?_
      refine gf_X8_length C (by rfl) dX8_count_57 kf_RX8_171 ?_
      rw [show σ.1 64 14 = _ from hs.2.2.1.1]
      refine g_iret C dX8_count_60 ?_
      exact ⟨congrArg (fun v => some (Value.int v)) (by unfold aCount; rw [if_neg (by rw [hw]; decide), if_neg (by decide), if_neg (by decide), if_neg (by decide)]), hs, Rs.rf⟩

