/-! SIGNS, the system's way, told as numbers that the kernel counts: each move's part in eight bits (0: none), the moves reached likewise -/
def gV (V m : Nat) : Nat := (V >>> (8 * m)) % 256
theorem gV_lt (V m : Nat) : gV V m < 256 := Nat.mod_lt _ (by decide)
theorem gV_x {V y m j : Nat} (hy : y < 256) : gV (V ^^^ (y <<< (8 * m))) j = if j = m then gV V m ^^^ y else gV V j := by
  apply Nat.eq_of_testBit_eq
  intro i
  have hL : (gV (V ^^^ (y <<< (8 * m))) j).testBit i = (decide (i < 8) && ((V.testBit (8 * j + i)) ^^ (decide (8 * m ≤ 8 * j + i) && y.testBit (8 * j + i - 8 * m)))) := by
    unfold gV
    rw [show (256 : Nat) = 2 ^ 8 from rfl, Nat.testBit_mod_two_pow, Nat.testBit_shiftRight, Nat.testBit_xor, Nat.testBit_shiftLeft]
  have hR : ∀ m, (gV V m).testBit i = (decide (i < 8) && V.testBit (8 * m + i)) := fun m => by
    unfold gV
    rw [show (256 : Nat) = 2 ^ 8 from rfl, Nat.testBit_mod_two_pow, Nat.testBit_shiftRight]
  have hy8 : ∀ w, 8 ≤ w → y.testBit w = false := fun w hw => Nat.testBit_lt_two_pow (Nat.lt_of_lt_of_le hy (show 2 ^ 8 ≤ 2 ^ w from Nat.pow_le_pow_right (by decide) hw))
  rw [hL]
  by_cases e : j = m
  · subst e
    rw [if_pos rfl, Nat.testBit_xor, hR, show 8 * j + i - 8 * j = i from by omega, decide_eq_true (show 8 * j ≤ 8 * j + i from by omega), Bool.true_and]
    by_cases hi : i < 8
    · rw [decide_eq_true hi, Bool.true_and, Bool.true_and]
    · rw [decide_eq_false hi, Bool.false_and, Bool.false_and, hy8 i (by omega)]; rfl
  · rw [if_neg e, hR]
    by_cases hi : i < 8
    · by_cases c : 8 * m ≤ 8 * j + i
      · rw [hy8 (8 * j + i - 8 * m) (by omega), Bool.and_false, Bool.xor_false]
      · rw [decide_eq_false c, Bool.false_and, Bool.xor_false]
    · rw [decide_eq_false hi, Bool.false_and, Bool.false_and]
theorem gV_s {V a b m j : Nat} (ha : gV V m = a) (ha2 : a < 256) (hb : b < 256) : gV (V ^^^ ((a ^^^ b) <<< (8 * m))) j = if j = m then b else gV V j := by
  rw [gV_x (Nat.xor_lt_two_pow (n := 8) ha2 hb), ha]
  rw [show a ^^^ (a ^^^ b) = b from by rw [← Nat.xor_assoc, Nat.xor_self, Nat.zero_xor]]
abbrev N3 : Type := Nat × Nat × Nat
def rcN (t : N3) (m x : Nat) : N3 := if (Nat.beq (gV t.1 m) 0 && Nat.blt t.2.2 48) = true then (t.1 ^^^ ((0 ^^^ (x + 1)) <<< (8 * m)), t.2.1 ^^^ ((0 ^^^ m) <<< (8 * t.2.2)), t.2.2 + 1) else t
def afN (fr : Nat) : Nat → Nat → N3 → Option N3
  | 0, _, t => some t
  | k + 1, i, t => if (Nat.beq (gV t.1 (gV t.2.1 i)) 0 || Nat.blt 100 (gV t.1 (gV t.2.1 i))) = true then none
    else afN fr k (i + 1) (rcN (t.1 ^^^ ((gV t.1 (gV t.2.1 i) ^^^ (2 * gV t.1 (gV t.2.1 i) - 1)) <<< (8 * gV t.2.1 i)), t.2.1, t.2.2) (mulN fr (gV t.2.1 i)) (2 * gV t.1 (gV t.2.1 i) - 1))
def msiN (L : List Nat) (i : Nat) : Nat → Nat → N3 → N3
  | 0, _, t => t
  | k + 1, j, t => msiN L i k (j + 1) (rcN t (mulN (gV t.2.1 i) (mulN (lg L j) (lg L j))) 0)
def msoN (L : List Nat) : Nat → Nat → N3 → N3
  | 0, _, t => t
  | k + 1, i, t => if Nat.blt i t.2.2 = true then msoN L k (i + 1) (msiN L i L.length 0 t) else t
def fsN (L : List Nat) : Nat → Nat → N3 → Nat → Option (N3 × Nat)
  | 0, _, t, s => some (t, s)
  | k + 1, j, t, s => if Nat.beq (gV t.1 (lg L j)) 0 = true then (match afN (lg L j) t.2.2 0 t with
      | none => none
      | some t2 => fsN L k (j + 1) t2 (s * 2)) else fsN L k (j + 1) t s
/-- the numbers u tell the parts and the moves reached of t -/
def RelN (t : P3) (u : N3) : Prop := t.2.2 = u.2.2 ∧ t.2.2 ≤ 48 ∧ (∀ i, i < t.2.2 → t.2.1 i = gV u.2.1 i ∧ gV u.2.1 i < 48) ∧ (∀ i, t.2.2 ≤ i → gV u.2.1 i = 0) ∧ ∀ m, m < 48 → (gV u.1 m = 0 ∧ t.1 m = -1) ∨ ∃ p, p < 255 ∧ gV u.1 m = p + 1 ∧ t.1 m = nI p
theorem rc_sim {t : P3} {u : N3} (h : RelN t u) {m x : Nat} (hm : m < 48) (hx : x < 255) : RelN (rcF t m (nI x)) (rcN u m x) := by
  obtain ⟨h1, h2, h3, h4, h5⟩ := h
  have hmm := h5 m hm
  unfold rcF rcN
  by_cases c : t.1 m = -1 ∧ t.2.2 < 48
  · have e0 : gV u.1 m = 0 := by
      rcases hmm with q | ⟨p, hp, q1, q2⟩
      · exact q.1
      · exact absurd (c.1.symm.trans q2).symm (fun z => by
          have := congrArg Int32.toInt z
          rw [nI_toInt (by omega), show (-1 : Int32).toInt = -1 from by decide] at this
          omega)
    rw [if_pos c, if_pos (by rw [e0, ← h1]; simp only [Bool.and_eq_true]; exact ⟨rfl, Nat.ble_eq_true_of_le c.2⟩)]
    refine ⟨by show t.2.2 + 1 = u.2.2 + 1; rw [h1], by show t.2.2 + 1 ≤ 48; omega, fun i hi => ?_, fun i hi => ?_, fun q hq => ?_⟩
    · have hi2 : i < t.2.2 + 1 := hi
      show (if i = t.2.2 then m else t.2.1 i) = gV (u.2.1 ^^^ ((0 ^^^ m) <<< (8 * u.2.2))) i ∧ gV (u.2.1 ^^^ ((0 ^^^ m) <<< (8 * u.2.2))) i < 48
      rw [gV_s (h4 u.2.2 (by omega)) (by decide) (by omega), ← h1]
      by_cases e : i = t.2.2
      · rw [if_pos e, if_pos e]; exact ⟨rfl, hm⟩
      · rw [if_neg e, if_neg e]; exact h3 i (by omega)
    · have hi2 : t.2.2 + 1 ≤ i := hi
      show gV (u.2.1 ^^^ ((0 ^^^ m) <<< (8 * u.2.2))) i = 0
      rw [gV_s (h4 u.2.2 (by omega)) (by decide) (by omega), ← h1, if_neg (by omega)]
      exact h4 i (by omega)
    · show (gV (u.1 ^^^ ((0 ^^^ (x + 1)) <<< (8 * m))) q = 0 ∧ upd t.1 m (nI x) q = -1) ∨ ∃ p, p < 255 ∧ gV (u.1 ^^^ ((0 ^^^ (x + 1)) <<< (8 * m))) q = p + 1 ∧ upd t.1 m (nI x) q = nI p
      rw [gV_s e0 (by decide) (by omega)]
      by_cases e : q = m
      · subst e; rw [if_pos rfl, up_i]; exact Or.inr ⟨x, hx, rfl, rfl⟩
      · rw [if_neg e, up_n e]; exact h5 q hq
  · rw [if_neg c, if_neg (fun q => c (by
      simp only [Bool.and_eq_true] at q
      have a := Nat.eq_of_beq_eq_true q.1
      have b := Nat.le_of_ble_eq_true q.2
      refine ⟨?_, by omega⟩
      rcases hmm with z | ⟨p, hp, z1, z2⟩
      · exact z.2
      · omega))]
    exact ⟨h1, h2, h3, h4, h5⟩
theorem af_sim {fr : Nat} (hf : fr < 48) : ∀ (k i : Nat) (t : P3) (u v : N3), RelN t u → i + k ≤ t.2.2 → afN fr k i u = some v → RelN (afL fr k i t) v := by
  intro k
  induction k with
  | zero => intro i t u v h _ e; cases e; exact h
  | succ k ih =>
    intro i t u v h hk e
    obtain ⟨h1, h2, h3, h4, h5⟩ := id h
    have hi := h3 i (by omega)
    unfold afN at e
    split at e
    · cases e
    · rename_i c
      simp only [Bool.or_eq_true, not_or] at c
      obtain ⟨c1, c2⟩ := c
      have ho := h5 (gV u.2.1 i) hi.2
      rcases ho with q | ⟨p, hp, q1, q2⟩
      · exact absurd (by rw [q.1]; rfl) c1
      · have p100 : p + 1 ≤ 100 := by
          rcases Nat.lt_or_ge 100 (p + 1) with z | z
          · exact absurd (by rw [q1]; exact Nat.ble_eq_true_of_le z) c2
          · exact z
        unfold afL
        rw [hi.1]
        rw [q1] at e
        have hrel : RelN (upd t.1 (gV u.2.1 i) (t.1 (gV u.2.1 i) * nI 2), t.2.1, t.2.2) (u.1 ^^^ (((p + 1) ^^^ (2 * (p + 1) - 1)) <<< (8 * gV u.2.1 i)), u.2.1, u.2.2) := by
          refine ⟨h1, h2, h3, h4, fun q hq => ?_⟩
          show (gV (u.1 ^^^ (((p + 1) ^^^ (2 * (p + 1) - 1)) <<< (8 * gV u.2.1 i))) q = 0 ∧ upd t.1 (gV u.2.1 i) (t.1 (gV u.2.1 i) * nI 2) q = -1) ∨ ∃ r, r < 255 ∧ gV (u.1 ^^^ (((p + 1) ^^^ (2 * (p + 1) - 1)) <<< (8 * gV u.2.1 i))) q = r + 1 ∧ upd t.1 (gV u.2.1 i) (t.1 (gV u.2.1 i) * nI 2) q = nI r
          rw [gV_s q1 (by omega) (by omega)]
          by_cases ee : q = gV u.2.1 i
          · rw [if_pos ee, ee, up_i]
            exact Or.inr ⟨p * 2, by omega, by omega, by rw [q2, pk_mul]⟩
          · rw [if_neg ee, up_n ee]
            exact h5 q hq
        rw [show t.1 (gV u.2.1 i) * nI 2 + nI 1 = nI (2 * (p + 1) - 1) from by rw [q2, pk_mul, nI_add]; congr 1; omega]
        have hstep := rc_sim hrel (m := mulN fr (gV u.2.1 i)) (x := 2 * (p + 1) - 1) (mulN_lt _ hf _ hi.2) (by omega)
        refine ih (i + 1) _ _ v hstep ?_ e
        show i + 1 + k ≤ (rcF _ _ _).2.2
        unfold rcF
        split
        · show i + 1 + k ≤ t.2.2 + 1; omega
        · show i + 1 + k ≤ t.2.2; omega
theorem rc_ge (t : P3) (m : Nat) (x : Int32) : t.2.2 ≤ (rcF t m x).2.2 := by
  unfold rcF
  split
  · exact Nat.le_succ _
  · exact Nat.le_refl _
theorem msi_sim {L : List Nat} (hL : ∀ j, j < L.length → lg L j < 48) {i : Nat} : ∀ (k j : Nat) (t : P3) (u : N3), L.length = j + k → i < t.2.2 → RelN t u → RelN (msI L i k j t) (msiN L i k j u) := by
  intro k
  induction k with
  | zero => intro j t u _ _ h; exact h
  | succ k ih =>
    intro j t u hj hi h
    have h3 := h.2.2.1 i hi
    have hg := hL j (by omega)
    unfold msI msiN
    rw [h3.1]
    exact ih (j + 1) _ _ (by omega) (Nat.lt_of_lt_of_le hi (rc_ge _ _ _)) (rc_sim h (mulN_lt _ h3.2 _ (mulN_lt _ hg _ hg)) (by decide))
theorem mso_sim {L : List Nat} (hL : ∀ j, j < L.length → lg L j < 48) : ∀ (k i : Nat) (t : P3) (u : N3), RelN t u → RelN (msO L k i t) (msoN L k i u) := by
  intro k
  induction k with
  | zero => intro i t u h; exact h
  | succ k ih =>
    intro i t u h
    unfold msO msoN
    by_cases c : i < t.2.2
    · rw [if_pos c, if_pos (by rw [← h.1]; exact Nat.ble_eq_true_of_le c)]
      exact ih _ _ _ (msi_sim hL _ _ _ _ (Nat.zero_add _).symm c h)
    · rw [if_neg c, if_neg (fun q => c (by have := Nat.le_of_ble_eq_true q; rw [h.1]; omega))]
      exact h
theorem fs_sim {L : List Nat} (hL : ∀ j, j < L.length → lg L j < 48) : ∀ (k j : Nat) (t : P3) (u v : N3) (s r : Nat), L.length = j + k → RelN t u → fsN L k j u s = some (v, r) → RelN (fsL L k j t s).1 v ∧ (fsL L k j t s).2 = r := by
  intro k
  induction k with
  | zero => intro j t u v s r _ h e; cases e; exact ⟨h, rfl⟩
  | succ k ih =>
    intro j t u v s r hj h e
    have hg := hL j (by omega)
    have hm := h.2.2.2.2 _ hg
    unfold fsN at e
    unfold fsL
    by_cases c : t.1 (lg L j) = -1
    · have e0 : gV u.1 (lg L j) = 0 := by
        rcases hm with q | ⟨p, hp, q1, q2⟩
        · exact q.1
        · exact absurd (c.symm.trans q2).symm (fun z => by
            have := congrArg Int32.toInt z
            rw [nI_toInt (by omega), show (-1 : Int32).toInt = -1 from by decide] at this
            omega)
      rw [if_pos (by rw [e0]; rfl)] at e
      rw [if_pos c]
      split at e
      · cases e
      · rename_i t2 ea
        exact ih (j + 1) _ _ _ _ _ (by omega) (af_sim hg t.2.2 0 t u t2 h (by omega) (by rw [h.1]; exact ea)) e
    · have e0 : ¬ Nat.beq (gV u.1 (lg L j)) 0 = true := fun q => c (by
        have := Nat.eq_of_beq_eq_true q
        rcases hm with z | ⟨p, hp, z1, z2⟩
        · exact z.2
        · omega)
      rw [if_neg e0] at e
      rw [if_neg c]
      exact ih (j + 1) _ _ _ _ _ (by omega) h e
theorem rel_0 : RelN ms0 (0, 0, 0) := ⟨rfl, Nat.zero_le _, fun i hi => absurd hi (Nat.not_lt_zero _), fun i _ => by unfold gV; rw [Nat.zero_shiftRight], fun m _ => Or.inl ⟨by unfold gV; rw [Nat.zero_shiftRight], rfl⟩⟩
def fsNF (L : List Nat) : Option (N3 × Nat) := fsN L L.length 0 (msoN L 48 0 (rcN (0, 0, 0) 0 0)) 1
theorem fsNF_sim {L : List Nat} (hL : ∀ j, j < L.length → lg L j < 48) {v : N3} {r : Nat} (h : fsNF L = some (v, r)) : RelN (fsF L).1 v ∧ (fsF L).2 = r :=
  fs_sim hL _ _ _ _ _ _ _ (Nat.zero_add _).symm (mso_sim hL _ _ _ _ (rc_sim rel_0 (by decide) (by decide))) h
/-- what the kernel is to count of a group -/
def chkb (V k : Nat) (t : T3) (m : Nat) : Bool := if Nat.beq (bcN (k &&& (gV V m - 1)) % 2) 0 = true then t.1.testBit m else !t.1.testBit m && t.2.1.testBit m
def chk1 (V k : Nat) (t : T3) : List Nat → Bool
  | [] => true
  | m :: L => if chkb V k t m = true then chk1 V k t L else false
def chk2 (V : Nat) (L : List Nat) : List T3 → Nat → Bool
  | [], _ => true
  | t :: A, k => if chk1 V k t L = true then chk2 V L A (k + 1) else false
def chk3 (V : Nat) : List Nat → Bool
  | [] => true
  | m :: L => if (Nat.ble 1 (gV V m) && Nat.ble (gV V m) 64) = true then chk3 V L else false
def chk4 (M : Nat) : List Nat → Bool
  | [] => true
  | m :: L => if M.testBit (invN m) = true then chk4 M L else false
def chkS (M : Nat) : Bool := match fsNF (lsM M 48 0) with
  | none => false
  | some (u, s) => Nat.ble s 32 && chk3 u.1 (lsM M 48 0) && chk4 M (lsM M 48 0) && (match mkL 60 (lsM M 48 0) (lsM M 48 0).length 0 [] 1 with
    | none => false
    | some (K, _) => Nat.ble K.length 6 && (match fsR K (lsM M 48 0) (2 ^ K.length) 0 [] with
      | none => false
      | some A => Nat.beq A.length s && chk2 u.1 (lsM M 48 0) A 0))
theorem chk3_all {V : Nat} : ∀ (L : List Nat), chk3 V L = true → ∀ m, m ∈ L → 1 ≤ gV V m ∧ gV V m ≤ 64 := by
  intro L
  induction L with
  | nil => intro _ m h; exact absurd h List.not_mem_nil
  | cons q L ih =>
    intro h m hm
    unfold chk3 at h
    split at h
    · rename_i c
      simp only [Bool.and_eq_true] at c
      rcases List.mem_cons.mp hm with e | e
      · subst e; exact ⟨Nat.le_of_ble_eq_true c.1, Nat.le_of_ble_eq_true c.2⟩
      · exact ih h m e
    · cases h
theorem chk4_all {M : Nat} : ∀ (L : List Nat), chk4 M L = true → ∀ m, m ∈ L → M.testBit (invN m) = true := by
  intro L
  induction L with
  | nil => intro _ m h; exact absurd h List.not_mem_nil
  | cons q L ih =>
    intro h m hm
    unfold chk4 at h
    split at h
    · rename_i c
      rcases List.mem_cons.mp hm with e | e
      · subst e; exact c
      · exact ih h m e
    · cases h
theorem chk1_all {V k : Nat} {t : T3} : ∀ (L : List Nat), chk1 V k t L = true → ∀ m, m ∈ L → sgI t m = sgV k (gV V m - 1) := by
  intro L
  induction L with
  | nil => intro _ m h; exact absurd h List.not_mem_nil
  | cons q L ih =>
    intro h m hm
    unfold chk1 at h
    split at h
    · rename_i c
      rcases List.mem_cons.mp hm with e | e
      · subst e
        unfold chkb at c
        unfold sgV sgI
        by_cases b : bcN (k &&& (gV V m - 1)) % 2 = 0
        · rw [if_pos (by rw [b]; rfl)] at c
          rw [if_pos b, if_pos c]; rfl
        · rw [if_neg (fun z => b (Nat.eq_of_beq_eq_true z))] at c
          simp only [Bool.and_eq_true, Bool.not_eq_true'] at c
          rw [if_neg b, if_neg (by rw [c.1]; decide), if_pos c.2]
      · exact ih h m e
    · cases h
theorem chk2_all {V : Nat} {L : List Nat} : ∀ (A : List T3) (k : Nat), chk2 V L A k = true → ∀ j, j < A.length → ∀ m, m ∈ L → sgI (gA A j) m = sgV (k + j) (gV V m - 1) := by
  intro A
  induction A with
  | nil => intro k _ j h; exact absurd h (Nat.not_lt_zero _)
  | cons t A ih =>
    intro k h j hj m hm
    unfold chk2 at h
    split at h
    · rename_i c
      cases j with
      | zero => exact chk1_all L c m hm
      | succ j =>
        have := ih (k + 1) h j (by simpa using hj) m hm
        rw [show k + (j + 1) = k + 1 + j from by omega]
        exact this
    · cases h
theorem chkS_ok {M : Nat} (h0 : M.testBit 0 = true) (h : chkS M = true) : BrS (lsM M 48 0) ∧ ∀ m, m ∈ lsM M 48 0 → M.testBit (invN m) = true := by
  have hlok := lsM_lok (M := M) 48 0
  have hL : ∀ j, j < (lsM M 48 0).length → lg (lsM M 48 0) j < 48 := fun j hj => by have := (hlok.2.2 j hj).2; omega
  unfold chkS at h
  split at h
  · cases h
  · rename_i u s eu
    simp only [Bool.and_eq_true] at h
    obtain ⟨⟨⟨h1, h2⟩, h4⟩, h3⟩ := h
    split at h3
    · cases h3
    · rename_i K Mk ek
      simp only [Bool.and_eq_true] at h3
      obtain ⟨h5, h6⟩ := h3
      split at h6
      · cases h6
      · rename_i A ea
        simp only [Bool.and_eq_true] at h6
        obtain ⟨h7, h8⟩ := h6
        obtain ⟨hr, hs⟩ := fsNF_sim hL eu
        have c3 := chk3_all _ h2
        have hpt : ∀ m, m ∈ lsM M 48 0 → (fsF (lsM M 48 0)).1.1 m = nI (gV u.1 m - 1) ∧ ptV (lsM M 48 0) m = gV u.1 m - 1 := fun m hm => by
          have a := c3 m hm
          rcases hr.2.2.2.2 m (lsM48.mp hm).1 with q | ⟨p, hp, q1, q2⟩
          · omega
          · have e : (fsF (lsM M 48 0)).1.1 m = nI (gV u.1 m - 1) := by rw [q2, q1]; rfl
            exact ⟨e, by unfold ptV; rw [e, ix_nI (by omega)]⟩
        refine ⟨⟨⟨fun j hj => ?_, by rw [hs]; exact Nat.le_of_ble_eq_true h1⟩, ?_, A, ⟨K, Mk, ek, Nat.le_of_ble_eq_true h5, ea⟩, by rw [hs]; exact Nat.eq_of_beq_eq_true h7, fun k hk m hm => ?_⟩, chk4_all _ h4⟩
        · have hm := lg_in hj
          have a := c3 _ hm
          have b := hpt _ hm
          rw [b.2]
          exact ⟨b.1, by omega⟩
        · obtain ⟨j, hj, _⟩ := lg_mem (lsM48.mpr ⟨by decide, h0⟩)
          omega
        · rw [(hpt m hm).2]
          have := chk2_all A 0 h8 k hk m hm
          rw [Nat.zero_add] at this
          exact this
