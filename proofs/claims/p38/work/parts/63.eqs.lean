/-! WHAT THE LAW'S CALLS ANSWER, in plain terms -/
theorem hpB_y {n p : Nat} (hp : p < n) (hn : n < 2 ^ 30) : hpB n (nI p) = true := by
  unfold hpB
  rw [decide_eq_false (nI_pos (by omega)), decide_eq_false (fun q => by have := (nI_leI (by omega) (by omega)).mp q; omega)]
  rfl
theorem isMv_y {m : Nat} (hm : m < 48) : isMv (nI m) = true := hpB_y hm (by omega)
theorem inB_y {x a b : Nat} (h1 : a ≤ x) (h2 : x ≤ b) (hx : x < 2 ^ 31) : inB (nI x) (a : Int) (b : Int) = true := by
  unfold inB
  rw [nI_toInt hx]
  exact decide_eq_true ⟨by omega, by omega⟩
section EQ
variable {s : Ms}
theorem e_told0 : aTold s (nI 0) = nI s.1.1.1 := by unfold aTold; rw [if_neg (by decide), if_pos rfl]
theorem e_told1 : aTold s (nI 1) = nI (gL s).length := by unfold aTold; rw [if_neg (by decide), if_neg (by decide), if_pos rfl]
theorem e_told2 : aTold s (nI 2) = nI (clC (gL s)).2.2 := by unfold aTold; rw [if_neg (by decide), if_neg (by decide), if_neg (by decide), if_pos rfl]
theorem e_told3 : aTold s (nI 3) = nI (ocL s.1.1.2 s.1.1.1 (gL s) s.1.1.1 0 0) := by unfold aTold; rw [if_neg (by decide), if_neg (by decide), if_neg (by decide), if_neg (by decide), if_pos rfl]
theorem e_group {k : Nat} (hk : k < (gL s).length) (hL : (gL s).length ≤ 48) : aGroup s (nI k) = nI (lg (gL s) k) := by
  unfold aGroup
  rw [if_neg (nI_pos (by omega)), if_pos (by
    unfold inB
    rw [nI_toInt (by omega)]
    exact decide_eq_true ⟨by omega, by omega⟩), ix_nI (by omega)]
theorem e_takes {m p : Nat} (hm : m < 48) (hp : p < s.1.1.1) (h8 : s.1.1.1 ≤ 8) : aTakes s (nI m) (nI p) = oI (goT s.1.1.2 s.1.1.1 m p) := by
  unfold aTakes
  rw [isMv_y hm, hpB_y hp (by omega), if_pos (by decide), ix_nI (by omega), ix_nI (by omega)]
theorem e_of4 {p : Nat} (hp : p < s.1.1.1) (h8 : s.1.1.1 ≤ 8) : aOf s (nI p) (nI 4) = oV s.1.1.2 s.1.1.1 (gL s) p := by
  unfold aOf
  rw [hpB_y hp (by omega), if_neg (by decide), if_pos rfl, ix_nI (by omega)]
theorem e_of3 {p : Nat} (hp : p < s.1.1.1) (h8 : s.1.1.1 ≤ 8) : aOf s (nI p) (nI 3) = s.1.1.2 p 3 := by
  unfold aOf
  rw [hpB_y hp (by omega), if_neg (by decide), if_neg (by decide), ix_nI (by omega)]
  rfl
theorem e_mean0 : aMean s (nI 0) = (nI (pfL (otL (gL s) (gL s).length 0 0) (gL s).length (otL (gL s) (gL s).length 0 0) (gL s).length)).toInt64 := by
  unfold aMean; rw [if_neg (by decide), if_pos (by decide)]
theorem e_mean1 : aMean s (nI 1) = (nI (pfL (otL (gL s) (gL s).length 0 0) (gL s).length (gL s).length (gL s).length)).toInt64 := by
  unfold aMean; rw [if_neg (by decide), if_neg (by decide)]
theorem e_move1 {m : Nat} (hm : m < 48) : aMove s (nI m) (nI 1) = nI (ordN m) := by
  unfold aMove
  rw [isMv_y hm, if_neg (by decide), if_neg (by decide), if_pos rfl, ix_nI (by omega)]
theorem e_move2 {m : Nat} (hm : m < 48) : aMove s (nI m) (nI 2) = bI (kpt s.1.1.2 s.1.1.1 m) := by
  unfold aMove
  rw [isMv_y hm, if_neg (by decide), if_neg (by decide), if_neg (by decide), if_pos rfl, ix_nI (by omega)]
theorem e_tape {n : Nat} (hn : n ≤ 60) : tTape s (nI 0) (nI 0) (nI n) = sTp s 0 (nI 0, n, fun _ => 0) := by
  unfold tTape
  rw [if_neg (by decide), if_neg (by decide), if_neg (by decide), if_neg (fun h => h ((nI_leI (by omega) (by decide)).mpr hn)), if_neg (nI_pos (by omega)), ix_nI (by omega), ix_nI (by omega)]
theorem sTp_sTp {k : Nat} {x y : Tp} : sTp (sTp s k x) k y = sTp s k y := by
  unfold sTp
  refine Prod.ext rfl (Prod.ext rfl (Prod.ext rfl (funext fun q => ?_)))
  show (if q = k then y else if q = k then x else s.2.2.2 q) = if q = k then y else s.2.2.2 q
  by_cases h : q = k
  · rw [if_pos h, if_pos h]
  · rw [if_neg h, if_neg h, if_neg h]
theorem e_item {n k : Nat} {V : Nat → Int64} {v : Int64} (hk : k < n) (hn : n ≤ 60) : tItem (sTp s 0 (nI 0, n, V)) (nI 0) (nI k) v = sTp s 0 (nI 0, n, fun q => if q = k then asI (nI 0) v else V q) := by
  unfold tItem
  rw [if_neg (by decide)]
  show (if (nI 0 : Int32) = -1 then _ else if hpB n (nI k) = false then _ else _) = _
  rw [if_neg (by decide), hpB_y hk (by omega), if_neg (by decide), ix_nI (by omega)]
  show sTp (sTp s 0 (nI 0, n, V)) 0 _ = _
  rw [sTp_sTp, ix_nI (by omega)]
  rfl
theorem e_judge0 {n : Nat} {V : Nat → Int64} {x : Int32} : aJudge (sTp s 0 (nI 0, n, V)) (nI 0) x = jgL n V (gL s) x (gL s).length 0 := by
  unfold aJudge
  rw [if_neg (by decide), if_neg (fun h => h.2 rfl)]
  rfl
theorem e_judge1 {n : Nat} {V : Nat → Int64} {x : Int32} (h : s.2.2.2 1 = (-1, 0, fun _ => 0)) : aJudge (sTp s 0 (nI 0, n, V)) (nI 1) x = jgL 0 (fun _ => 0) (gL s) x (gL s).length 0 := by
  unfold aJudge
  have e : (sTp s 0 (nI 0, n, V)).2.2.2 (ix (nI 1)) = (-1, 0, fun _ => 0) := by
    rw [ix_nI (by omega)]
    exact h
  rw [e, if_neg (by decide), if_neg (fun h => h.1 rfl)]
  rfl
theorem e_see0 {z : Int32} : tSee s (-1) z = sSeen s (0, s.1.2.1.2) := by unfold tSee; rw [if_pos rfl]
theorem e_see {m : Nat} {z : Int32} {w : Rw} (hm : m < 48) (hw : w.1 < 5) : tSee (sSeen s w) (nI m) z = sSeen s (rwAdd w m (if z = 0 then 0 else 1)) := by
  unfold tSee
  rw [if_neg (m1_n (by omega)), isMv_y hm, if_neg (by decide), if_neg (show ¬ (sSeen s w).1.2.1.1 = 5 from fun q => by have : w.1 = 5 := q; omega), ix_nI (by omega)]
  rfl
theorem e_fits0 {p : Nat} (hp : p < s.1.1.1) (h8 : s.1.1.1 ≤ 8) : aFits s (nI p) (nI 0) = nI (ftL s.1.1.2 s.1.1.1 p s.1.2.1 5 0 none).1 := by
  unfold aFits
  rw [hpB_y hp (by omega), if_neg (by decide), if_pos (by decide), ix_nI (by omega)]
theorem e_fits1 {p : Nat} (hp : p < s.1.1.1) (h8 : s.1.1.1 ≤ 8) : aFits s (nI p) (nI 1) = oI (ftL s.1.1.2 s.1.1.1 p s.1.2.1 5 0 none).2 := by
  unfold aFits
  rw [hpB_y hp (by omega), if_neg (by decide), if_neg (by decide), ix_nI (by omega)]
theorem e_mark {p : Nat} {v : Int32} (hp : p < s.1.1.1) (h8 : s.1.1.1 ≤ 8) (hv : inB v 0 4 = true) : tMark s (nI p) v = sPts s (s.1.1.1, pMark s.1.1.2 p v) := by
  unfold tMark
  rw [hpB_y hp (by omega), if_neg (by decide), hv, if_neg (by decide), ix_nI (by omega)]
theorem pMark_2 {P : Nat → Nat → Int32} {p : Nat} {v w : Int32} : pMark (pMark P p v) p w = pMark P p w := by
  funext q i
  unfold pMark
  by_cases h : q = p ∧ i = 3
  · rw [if_pos h, if_pos h]
  · rw [if_neg h, if_neg h, if_neg h]
theorem pMark_0 {P : Nat → Nat → Int32} {p : Nat} : pMark P p (P p 3) = P := by
  funext q i
  unfold pMark
  by_cases h : q = p ∧ i = 3
  · rw [if_pos h, h.1, h.2]
  · rw [if_neg h]
theorem e_odds0 {p m : Nat} (hp : p < s.1.1.1) (h8 : s.1.1.1 ≤ 8) (hm : m ≤ 48) : aOdds s (nI p) (nI m) (nI 0) = (nI (pfL (odL s.1.1.2 s.1.1.1 p m 5 0 0) 5 (odL s.1.1.2 s.1.1.1 p m 5 0 0) 5)).toInt64 := by
  unfold aOdds
  rw [hpB_y hp (by omega), show inB (nI m) 0 48 = true from inB_y (a := 0) (b := 48) (Nat.zero_le _) hm (by omega), if_neg (by decide), if_pos (by decide), ix_nI (by omega), ix_nI (by omega)]
theorem e_odds1 {p m : Nat} (hp : p < s.1.1.1) (h8 : s.1.1.1 ≤ 8) (hm : m ≤ 48) : aOdds s (nI p) (nI m) (nI 1) = (nI (pfL (odL s.1.1.2 s.1.1.1 p m 5 0 0) 5 5 5)).toInt64 := by
  unfold aOdds
  rw [hpB_y hp (by omega), show inB (nI m) 0 48 = true from inB_y (a := 0) (b := 48) (Nat.zero_le _) hm (by omega), if_neg (by decide), if_neg (by decide), ix_nI (by omega), ix_nI (by omega)]
theorem e_event {w : Nat} {t : Int32} {r : Rw} (hw : w ≤ 3) (ht : feB w t = true) (hr : r.1 < 8) : tEvent (sEv s r) (nI w) t = sEv s (rwAdd r w (ix t)) := by
  unfold tEvent
  rw [if_neg (m1_n (by omega)), show inB (nI w) 0 3 = true from inB_y (a := 0) (b := 3) (Nat.zero_le _) hw (by omega), if_neg (by decide), ix_nI (by omega), ht, if_neg (by decide), if_neg (show ¬ (sEv s r).1.2.2.1.1 = 8 from fun q => by have : r.1 = 8 := q; omega)]
  rfl
theorem e_after0 : aAfter s (nI 0) = nI (gLst (evP s).2 (evP s).1).length := by unfold aAfter; rw [if_neg (by decide), if_pos rfl]
theorem e_after1 : aAfter s (nI 1) = nI (clC (gLst (evP s).2 (evP s).1)).2.2 := by unfold aAfter; rw [if_neg (by decide), if_neg (by decide), if_pos rfl]
theorem e_after2 : aAfter s (nI 2) = nI (ocL (evP s).2 (evP s).1 (gLst (evP s).2 (evP s).1) (evP s).1 0 0) := by unfold aAfter; rw [if_neg (by decide), if_neg (by decide), if_neg (by decide)]
theorem e_drop {p : Nat} (hp : p < s.1.1.1) (h8 : s.1.1.1 ≤ 8) : tDrop s (nI p) = sPts s (s.1.1.1 - 1, pDrop s.1.1.2 p) := by
  unfold tDrop
  rw [hpB_y hp (by omega), if_neg (by decide), ix_nI (by omega)]
theorem e_book {m t : Nat} {r : Rw} (hm : m < 48) (h1 : 1 ≤ t) (h6 : t ≤ 6) (hr : r.1 < 8) : tBook (sBk s r) (nI m) (nI t) = sBk s (rwAdd r m t) ∧ aBook (sBk s r) (nI m) (nI t) = nI (r.1 + 1) := by
  have e : inB (nI t) 1 6 = true := inB_y (a := 1) (b := 6) h1 h6 (by omega)
  constructor
  · unfold tBook
    rw [if_neg (m1_n (by omega)), isMv_y hm, if_neg (by decide), e, if_neg (by decide), if_neg (show ¬ (sBk s r).1.2.2.2.1 = 8 from fun q => by have : r.1 = 8 := q; omega), ix_nI (by omega), ix_nI (by omega)]
    rfl
  · unfold aBook
    rw [if_neg (m1_n (by omega)), isMv_y hm, if_neg (by decide), e, if_neg (by decide), if_neg (show ¬ (sBk s r).1.2.2.2.1 = 8 from fun q => by have : r.1 = 8 := q; omega)]
    rfl
theorem e_count0 : aCount s (nI 0) = nI s.1.2.1.1 := by unfold aCount; rw [if_neg (by decide), if_pos rfl]
theorem e_count1 : aCount s (nI 1) = nI s.1.2.2.1.1 := by unfold aCount; rw [if_neg (by decide), if_neg (by decide), if_pos rfl]
theorem e_count2 : aCount s (nI 2) = nI s.1.2.2.2.1 := by unfold aCount; rw [if_neg (by decide), if_neg (by decide), if_neg (by decide), if_pos rfl]
end EQ
/-! fractions, judging, keepers, marks that fit, odds -/
theorem pf_d {a b : Nat} : ∀ k, ∃ d, 0 < d ∧ a % d = 0 ∧ b % d = 0 ∧ ∀ w, pfL a b w k = w / d := by
  intro k
  induction k with
  | zero => exact ⟨1, by decide, Nat.mod_one _, Nat.mod_one _, fun w => (Nat.div_one w).symm⟩
  | succ k ih =>
    by_cases h : k = 0
    · exact ⟨1, by decide, Nat.mod_one _, Nat.mod_one _, fun w => by unfold pfL; rw [if_pos h, Nat.div_one]⟩
    · by_cases c : a % (k + 1) = 0 ∧ b % (k + 1) = 0
      · exact ⟨k + 1, by omega, c.1, c.2, fun w => by unfold pfL; rw [if_neg h, if_pos c]⟩
      · obtain ⟨d, h1, h2, h3, h4⟩ := ih
        exact ⟨d, h1, h2, h3, fun w => by unfold pfL; rw [if_neg h, if_neg c]; exact h4 w⟩
theorem pf_eq {a b k : Nat} : pfL a b a k * b = pfL a b b k * a := by
  obtain ⟨d, h1, h2, h3, h4⟩ := pf_d (a := a) (b := b) k
  rw [h4 a, h4 b]
  have ea := Nat.div_add_mod a d
  have eb := Nat.div_add_mod b d
  rw [h2, Nat.add_zero] at ea
  rw [h3, Nat.add_zero] at eb
  generalize a / d = x at ea ⊢
  generalize b / d = y at eb ⊢
  rw [← ea, ← eb]
  rw [Nat.mul_left_comm, Nat.mul_left_comm y d x, Nat.mul_comm x y]
theorem pf_le {a b w k : Nat} : pfL a b w k ≤ w := by
  obtain ⟨d, -, -, -, h4⟩ := pf_d (a := a) (b := b) k
  rw [h4 w]
  exact Nat.div_le_self _ _
theorem jg_all {n : Nat} {V : Nat → Int64} {L : List Nat} (hn : n ≤ 60) : ∀ k r, r + k ≤ n → (∀ j, r ≤ j → j < r + k → V j = (nI (lg L j)).toInt64) → jgL n V L (nI 0) k r = -5 := by
  intro k
  induction k with
  | zero => intro r _ _; rfl
  | succ k ih =>
    intro r h1 h2
    have e : nI 0 + nI r = nI r := by rw [nI_add, Nat.zero_add]
    unfold jgL
    rw [e, hpB_y (show 0 < n by omega) (by omega), hpB_y (show r < n by omega) (by omega), if_neg (by decide), ix_nI (by omega), if_pos (h2 r (Nat.le_refl _) (by omega))]
    exact ih (r + 1) (by omega) (fun j a b => h2 j (by omega) (by omega))
theorem jg_to {n : Nat} {V : Nat → Int64} {L : List Nat} (hn : n ≤ 60) : ∀ k r, r + k + 1 ≤ n → (∀ j, r ≤ j → j < r + k → V j = (nI (lg L j)).toInt64) → ¬ V (r + k) = (nI (lg L (r + k))).toInt64 → jgL n V L (nI 0) (k + 1) r = nI (r + k) := by
  intro k
  induction k with
  | zero =>
    intro r h1 _ h3
    have e : nI 0 + nI r = nI r := by rw [nI_add, Nat.zero_add]
    unfold jgL
    rw [e, hpB_y (show 0 < n by omega) (by omega), hpB_y (show r < n by omega) (by omega), if_neg (by decide), ix_nI (by omega), if_neg (show ¬ V r = (nI (lg L r)).toInt64 from h3)]
    rfl
  | succ k ih =>
    intro r h1 h2 h3
    have e : nI 0 + nI r = nI r := by rw [nI_add, Nat.zero_add]
    unfold jgL
    rw [e, hpB_y (show 0 < n by omega) (by omega), hpB_y (show r < n by omega) (by omega), if_neg (by decide), ix_nI (by omega), if_pos (h2 r (Nat.le_refl _) (by omega))]
    have := ih (r + 1) (by omega) (fun j a b => h2 j (by omega) (by omega)) (by rw [show r + 1 + k = r + (k + 1) from by omega]; exact h3)
    rw [this, show r + 1 + k = r + (k + 1) from by omega]
theorem jg_out {n : Nat} {V : Nat → Int64} {L : List Nat} {x : Int32} {k : Nat} (hk : 0 < k) (h : hpB n x = false) : jgL n V L x k 0 = nI 100 := by
  match k, hk with
  | k + 1, _ =>
    unfold jgL
    rw [h, Bool.false_and, if_pos rfl]
theorem jg_1 {n : Nat} {V : Nat → Int64} {L : List Nat} {k : Nat} (hk : 0 < k) (hn : 1 < n) (hn6 : n ≤ 60) (h : ¬ V 1 = (nI (lg L 0)).toInt64) : jgL n V L (nI 1) k 0 = nI 0 := by
  match k, hk with
  | k + 1, _ =>
    unfold jgL
    have e : nI 1 + nI 0 = nI 1 := by rw [nI_add]
    rw [e, hpB_y hn (by omega), if_neg (by decide), ix_nI (by omega), if_neg h]
theorem as_48 : ∀ m, m < 48 → asI (nI 0) (nI m).toInt64 = (nI m).toInt64 ∧ ¬ asI (nI 0) 99 = (nI m).toInt64 := by decide +kernel
theorem in_48 : ∀ m, m < 48 → ∀ t, t < 48 → (nI m).toInt64 = (nI t).toInt64 → m = t := by decide +kernel
theorem ks_c {P : Nat → Nat → Int32} {n : Nat} : ∀ (k i c : Nat), ksL P n k i c = c + ((List.range' i k).filter (kpt P n)).length := by
  intro k
  induction k with
  | zero => intro i c; rfl
  | succ k ih =>
    intro i c
    show ksL P n k (i + 1) (if kpt P n i = true then c + 1 else c) = _
    rw [ih, List.range'_succ, List.filter_cons]
    by_cases h : kpt P n i = true
    · rw [if_pos h, if_pos h, List.length_cons]; omega
    · rw [if_neg h, if_neg h]
theorem ks_len {P : Nat → Nat → Int32} {n : Nat} : ksL P n 48 0 0 = (gLst P n).length := by rw [ks_c, Nat.zero_add, gl_eq]
theorem od_c {P : Nat → Nat → Int32} {n j m : Nat} : ∀ (k v c : Nat), odL P n j m k v c = c + odL P n j m k v 0 := by
  intro k
  induction k with
  | zero => intro v c; rfl
  | succ k ih =>
    intro v c
    show odL P n j m k (v + 1) (if m ≤ ksL (pMark P j (nI v)) n 48 0 0 then c + 1 else c) = c + odL P n j m k (v + 1) (if m ≤ ksL (pMark P j (nI v)) n 48 0 0 then 0 + 1 else 0)
    rw [ih, ih (v + 1) (if m ≤ ksL (pMark P j (nI v)) n 48 0 0 then 0 + 1 else 0)]
    split <;> omega
theorem od_s {P : Nat → Nat → Int32} {n j m k v : Nat} : odL P n j m (k + 1) v 0 = (if m ≤ (gLst (pMark P j (nI v)) n).length then 1 else 0) + odL P n j m k (v + 1) 0 := by
  show odL P n j m k (v + 1) (if m ≤ ksL (pMark P j (nI v)) n 48 0 0 then 0 + 1 else 0) = _
  rw [od_c, ks_len]
theorem od_le {P : Nat → Nat → Int32} {n j m : Nat} : ∀ k v, odL P n j m k v 0 ≤ k := by
  intro k
  induction k with
  | zero => intro v; exact Nat.le_refl _
  | succ k ih =>
    intro v
    rw [od_s]
    have := ih (v + 1)
    split <;> omega
/-- as seen: two moves told -/
theorem as_2 {P : Nat → Nat → Int32} {n a : Nat} {x y : Bool} {w : Nat → Nat × Nat} {r : Rw} (h1 : r.1 = 2) (a0 : r.2.1 0 = a) (a1 : r.2.1 1 = 7) (b0 : r.2.2 0 = if x = true then 1 else 0) (b1 : r.2.2 1 = if y = true then 1 else 0) : asW P n r = (decide (kpt P n a = x) && decide (kpt P n 7 = y)) := by
  have e : ∀ z : Bool, decide ((if z = true then 1 else 0) = 1) = z := fun z => by cases z <;> rfl
  unfold asW
  rw [h1]
  show (if kpt P n (r.2.1 0) = decide (r.2.2 0 = 1) then (if kpt P n (r.2.1 1) = decide (r.2.2 1 = 1) then true else false) else false) = _
  rw [a0, a1, b0, b1, e, e]
  by_cases c1 : kpt P n a = x
  · rw [if_pos c1, decide_eq_true c1]
    by_cases c2 : kpt P n 7 = y
    · rw [if_pos c2, decide_eq_true c2]; rfl
    · rw [if_neg c2, decide_eq_false c2]; rfl
  · rw [if_neg c1, decide_eq_false c1]; rfl
theorem ft_pos {P : Nat → Nat → Int32} {n j : Nat} {w : Rw} : ∀ (k c : Nat) (b : Option Nat), c ≤ (ftL P n j w k c b).1 := by
  intro k
  induction k with
  | zero => intro c b; exact Nat.le_refl _
  | succ k ih =>
    intro c b
    unfold ftL
    split
    · have := ih (c + 1) (some k); omega
    · exact ih c b
theorem ft_one {P : Nat → Nat → Int32} {n j v : Nat} {w : Rw} (h : asW (pMark P j (nI v)) n w = true) : ∀ (k c : Nat) (b : Option Nat), v < k → c + 1 ≤ (ftL P n j w k c b).1 := by
  intro k
  induction k with
  | zero => intro c b h; omega
  | succ k ih =>
    intro c b hv
    by_cases e : v = k
    · subst e
      unfold ftL
      rw [if_pos h]
      exact ft_pos _ _ _
    · unfold ftL
      split
      · have := ih (c + 1) (some k) (by omega); omega
      · exact ih c b (by omega)
theorem ft_le {P : Nat → Nat → Int32} {n j : Nat} {w : Rw} : ∀ (k c : Nat) (b : Option Nat), (ftL P n j w k c b).1 ≤ c + k := by
  intro k
  induction k with
  | zero => intro c b; exact Nat.le_refl _
  | succ k ih =>
    intro c b
    unfold ftL
    split
    · have := ih (c + 1) (some k); omega
    · have := ih c b; omega
