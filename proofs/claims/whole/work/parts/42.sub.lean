/-! THE GROUPS OF MOVES: 98 of them (each with some that make it, as bits); signs both ways, told as numbers that the kernel counts -/
/-- rows of bits as lists -/
def lsM (M : Nat) : Nat → Nat → List Nat
  | 0, _ => []
  | k + 1, m => if M.testBit m = true then m :: lsM M k (m + 1) else lsM M k (m + 1)
def SL : List (Nat × List Nat) := [(1, []), (3, [1]), (5, [2]), (9, [3]), (17, [4]), (33, [5]), (65, [6]), (129, [7]), (257, [8]), (513, [9]), (16385, [14]), (32769, [15]), (65537, [16]), (524289, [19]), (1048577, [20]), (8388609, [23]), (1099511627777, [40]), (4398046511105, [42]), (35184372088833, [45]), (140737488355329, [47]), (4311744513, [24]), (34896609281, [29]), (138512695297, [30]), (275012124673, [27]), (15, [3, 1]), (51, [5, 1]), (85, [6, 2]), (105, [6, 3]), (153, [7, 3]), (165, [7, 2]), (195, [7, 1]), (771, [9, 1]), (5185, [10]), (10305, [11]), (16705, [14, 6]), (17025, [14, 7]), (33153, [15, 7]), (33345, [15, 6]), (49155, [15, 1]), (393225, [17]), (589833, [19, 3]), (1114129, [20, 4]), (1572993, [20, 7]), (6291465, [21]), (8454273, [23, 7]), (8912913, [23, 4]), (9437193, [23, 3]), (5497558138885, [42, 2]), (19791209300001, [41]), (36283883716641, [45, 5]), (39582418600065, [45, 7]), (79164837199905, [43]), (141836999983233, [47, 7]), (145135534866465, [47, 5]), (175921860444165, [47, 2]), (103683195009, [26]), (155726119041, [25]), (283870494849, [28]), (556215042177, [31]), (1103823438081, [40, 8]), (1374524293121, [40, 14]), (4432944201729, [42, 15]), (4536567595521, [42, 9]), (35219269222657, [45, 8]), (35322884866049, [45, 14]), (140741808521217, [47, 15]), (141012501529089, [47, 9]), (255, [7, 3, 1]), (15555, [11, 1]), (21845, [14, 2]), (26985, [14, 3]), (38505, [15, 3]), (43605, [15, 2]), (50115, [15, 7, 1]), (983055, [19, 1]), (6684825, [21, 4]), (6881385, [21, 5]), (9830505, [23, 5]), (10027161, [23, 7, 3]), (15728655, [23, 1]), (56075093016627, [45, 1]), (98956046500005, [43, 2]), (115448720916585, [45, 3]), (164926744166505, [47, 3]), (181419418583205, [47, 7, 2]), (224300372066355, [47, 1]), (452733173865, [30, 3]), (39686103400833, [45, 15]), (39738153190017, [45, 9]), (142120872067713, [47, 14]), (142393223512449, [47, 8]), (65535, [15, 7, 2]), (16711935, [23, 7, 1]), (280375465083135, [47, 7, 1]), (1099494850815, [31, 1]), (115901460998505, [45, 11]), (165379487209065, [47, 10]), (281474976710655, [47, 11])]
def inS : List (Nat × List Nat) → Nat → Bool
  | [], _ => false
  | q :: t, M => if Nat.beq q.1 M = true then true else inS t M
def addC (x : Nat) : List Nat → Nat → Nat
  | [], M => M
  | h :: t, M => addC x t (M ||| 2 ^ mulN x h)
def cloG (Hl : List Nat) (r : Nat) : List Nat → List Nat → Nat → List Nat × Nat
  | [], Q, M => (Q, M)
  | s :: S, Q, M => if M.testBit (mulN s r) = true then cloG Hl r S Q M else cloG Hl r S (mulN s r :: Q) (addC (mulN s r) Hl M)
def cloQ (Hl gs : List Nat) : Nat → List Nat → Nat → Nat
  | 0, _, M => M
  | _ + 1, [], M => M
  | f + 1, r :: Q, M => cloQ Hl gs f (cloG Hl r gs Q M).1 (cloG Hl r gs Q M).2
def cloM (Hl gs : List Nat) (H g : Nat) : Nat := cloQ Hl (g :: gs) 48 [g] (addC g Hl (H ||| 2 ^ g))
def lessB (g H : Nat) : List Nat → Bool
  | [] => false
  | h :: t => if (Nat.blt (mulN g h) g && !H.testBit (mulN g h)) = true then true else lessB g H t
def allB (H : Nat) : List Nat → Bool
  | [] => true
  | h :: t => if H.testBit h = true then allB H t else false
def chkG (Hl gs : List Nat) (H : Nat) : Nat → Nat → Bool
  | 0, _ => true
  | k + 1, g => if (H.testBit g || lessB g H Hl || inS SL (cloM Hl gs H g)) = true then chkG Hl gs H k (g + 1) else false
def chkH (q : Nat × List Nat) : Bool := allB q.1 q.2 && chkG (lsM q.1 48 0) q.2 q.1 48 0
theorem lsM_in {M x : Nat} : ∀ (k m : Nat), x ∈ lsM M k m ↔ m ≤ x ∧ x < m + k ∧ M.testBit x = true := by
  intro k
  induction k with
  | zero => intro m; simp only [lsM, List.not_mem_nil, false_iff]; omega
  | succ k ih =>
    intro m
    unfold lsM
    by_cases c : M.testBit m = true
    · rw [if_pos c, List.mem_cons, ih]
      constructor
      · rintro (h | h)
        · subst h; exact ⟨Nat.le_refl _, by omega, c⟩
        · exact ⟨by omega, by omega, h.2.2⟩
      · intro h
        by_cases e : x = m
        · exact Or.inl e
        · exact Or.inr ⟨by omega, by omega, h.2.2⟩
    · rw [if_neg c, ih]
      constructor
      · intro h; exact ⟨by omega, by omega, h.2.2⟩
      · intro h
        have : x ≠ m := fun e => c (e ▸ h.2.2)
        exact ⟨by omega, by omega, h.2.2⟩
theorem lsM48 {M x : Nat} : x ∈ lsM M 48 0 ↔ x < 48 ∧ M.testBit x = true := by rw [lsM_in]; simp
theorem lsM_lok {M : Nat} : ∀ (k m : Nat), (lsM M k m).length ≤ k ∧ (∀ i j, i < j → j < (lsM M k m).length → lg (lsM M k m) i < lg (lsM M k m) j) ∧ ∀ j, j < (lsM M k m).length → m ≤ lg (lsM M k m) j ∧ lg (lsM M k m) j < m + k := by
  intro k
  induction k with
  | zero => intro m; exact ⟨Nat.le_refl _, fun i j _ h => absurd h (Nat.not_lt_zero _), fun j h => absurd h (Nat.not_lt_zero _)⟩
  | succ k ih =>
    intro m
    unfold lsM
    obtain ⟨h1, h2, h3⟩ := ih (m + 1)
    by_cases c : M.testBit m = true
    · rw [if_pos c]
      refine ⟨by simp; omega, fun i j hij hj => ?_, fun j hj => ?_⟩
      · cases j with
        | zero => omega
        | succ j =>
          have hj2 : j < (lsM M k (m + 1)).length := by simpa using hj
          cases i with
          | zero => have := h3 j hj2; show m < lg (lsM M k (m + 1)) j; omega
          | succ i => exact h2 i j (by omega) hj2
      · cases j with
        | zero => exact ⟨Nat.le_refl _, by show m < _; omega⟩
        | succ j =>
          have hj2 : j < (lsM M k (m + 1)).length := by simpa using hj
          have := h3 j hj2
          exact ⟨by show m ≤ lg (lsM M k (m + 1)) j; omega, by show lg (lsM M k (m + 1)) j < _; omega⟩
    · rw [if_neg c]
      exact ⟨by omega, h2, fun j hj => by have := h3 j hj; omega⟩
def WM (P : Nat → Prop) (M : Nat) : Prop := ∀ x, M.testBit x = true → x < 48 ∧ P x
theorem WM.st {P : Nat → Prop} {M x : Nat} (h : WM P M) (hx : x < 48) (hp : P x) : WM P (M ||| 2 ^ x) := fun y hy => by
  rw [tb_or, Bool.or_eq_true, decide_eq_true_eq] at hy
  rcases hy with hy | hy
  · exact h y hy
  · subst hy; exact ⟨hx, hp⟩
theorem addC_w {P : Nat → Prop} (hm : ∀ a b, a < 48 → b < 48 → P a → P b → P (mulN a b)) {x : Nat} (hx : x < 48 ∧ P x) : ∀ (Hl : List Nat) (M : Nat), (∀ h, h ∈ Hl → h < 48 ∧ P h) → WM P M → WM P (addC x Hl M) := by
  intro Hl
  induction Hl with
  | nil => intro M _ h; exact h
  | cons h t ih =>
    intro M hl hM
    have a := hl h List.mem_cons_self
    exact ih _ (fun y hy => hl y (List.mem_cons_of_mem _ hy)) (hM.st (mulN_lt _ hx.1 _ a.1) (hm _ _ hx.1 a.1 hx.2 a.2))
theorem cloG_w {P : Nat → Prop} (hm : ∀ a b, a < 48 → b < 48 → P a → P b → P (mulN a b)) {Hl : List Nat} (hl : ∀ h, h ∈ Hl → h < 48 ∧ P h) {r : Nat} (hr : r < 48 ∧ P r) : ∀ (S Q : List Nat) (M : Nat), (∀ h, h ∈ S → h < 48 ∧ P h) → (∀ h, h ∈ Q → h < 48 ∧ P h) → WM P M → (∀ h, h ∈ (cloG Hl r S Q M).1 → h < 48 ∧ P h) ∧ WM P (cloG Hl r S Q M).2 := by
  intro S
  induction S with
  | nil => intro Q M _ h1 h2; exact ⟨h1, h2⟩
  | cons s S ih =>
    intro Q M hs hq hM
    have a := hs s List.mem_cons_self
    have b : mulN s r < 48 ∧ P (mulN s r) := ⟨mulN_lt _ a.1 _ hr.1, hm _ _ a.1 hr.1 a.2 hr.2⟩
    have hs2 : ∀ h, h ∈ S → h < 48 ∧ P h := fun y hy => hs y (List.mem_cons_of_mem _ hy)
    unfold cloG
    split
    · exact ih Q M hs2 hq hM
    · refine ih _ _ hs2 (fun y hy => ?_) (addC_w hm b Hl M hl hM)
      rcases List.mem_cons.mp hy with e | e
      · subst e; exact b
      · exact hq y e
theorem cloQ_w {P : Nat → Prop} (hm : ∀ a b, a < 48 → b < 48 → P a → P b → P (mulN a b)) {Hl gs : List Nat} (hl : ∀ h, h ∈ Hl → h < 48 ∧ P h) (hg : ∀ h, h ∈ gs → h < 48 ∧ P h) : ∀ (f : Nat) (Q : List Nat) (M : Nat), (∀ h, h ∈ Q → h < 48 ∧ P h) → WM P M → WM P (cloQ Hl gs f Q M) := by
  intro f
  induction f with
  | zero => intro Q M _ h; exact h
  | succ f ih =>
    intro Q M hq hM
    cases Q with
    | nil => exact hM
    | cons r Q =>
      have a := cloG_w hm hl (hq r List.mem_cons_self) gs Q M hg (fun y hy => hq y (List.mem_cons_of_mem _ hy)) hM
      exact ih _ _ a.1 a.2
theorem addC_le {x : Nat} : ∀ (Hl : List Nat) (M : Nat), M ≤ addC x Hl M ∧ ∀ y, M.testBit y = true → (addC x Hl M).testBit y = true := by
  intro Hl
  induction Hl with
  | nil => intro M; exact ⟨Nat.le_refl _, fun _ h => h⟩
  | cons h t ih =>
    intro M
    have := ih (M ||| 2 ^ mulN x h)
    exact ⟨Nat.le_trans Nat.left_le_or this.1, fun y hy => this.2 y (by rw [tb_or, hy]; rfl)⟩
theorem cloG_le {Hl : List Nat} {r : Nat} : ∀ (S Q : List Nat) (M : Nat), M ≤ (cloG Hl r S Q M).2 ∧ ∀ y, M.testBit y = true → (cloG Hl r S Q M).2.testBit y = true := by
  intro S
  induction S with
  | nil => intro Q M; exact ⟨Nat.le_refl _, fun _ h => h⟩
  | cons s S ih =>
    intro Q M
    unfold cloG
    split
    · exact ih Q M
    · have a := addC_le (x := mulN s r) Hl M
      have b := ih (mulN s r :: Q) (addC (mulN s r) Hl M)
      exact ⟨Nat.le_trans a.1 b.1, fun y hy => b.2 y (a.2 y hy)⟩
theorem cloQ_le {Hl gs : List Nat} : ∀ (f : Nat) (Q : List Nat) (M : Nat), M ≤ cloQ Hl gs f Q M ∧ ∀ y, M.testBit y = true → (cloQ Hl gs f Q M).testBit y = true := by
  intro f
  induction f with
  | zero => intro Q M; exact ⟨Nat.le_refl _, fun _ h => h⟩
  | succ f ih =>
    intro Q M
    cases Q with
    | nil => exact ⟨Nat.le_refl _, fun _ h => h⟩
    | cons r Q =>
      have a := cloG_le (Hl := Hl) (r := r) gs Q M
      have b := ih (cloG Hl r gs Q M).1 (cloG Hl r gs Q M).2
      exact ⟨Nat.le_trans a.1 b.1, fun y hy => b.2 y (a.2 y hy)⟩
theorem cloM_le {Hl gs : List Nat} {H g : Nat} : H ≤ cloM Hl gs H g ∧ (∀ y, H.testBit y = true → (cloM Hl gs H g).testBit y = true) ∧ (cloM Hl gs H g).testBit g = true := by
  unfold cloM
  have a := addC_le (x := g) Hl (H ||| 2 ^ g)
  have b := cloQ_le (Hl := Hl) (gs := g :: gs) 48 [g] (addC g Hl (H ||| 2 ^ g))
  exact ⟨Nat.le_trans Nat.left_le_or (Nat.le_trans a.1 b.1), fun y hy => b.2 y (a.2 y (by rw [tb_or, hy]; rfl)), b.2 g (a.2 g (by rw [tb_or]; simp))⟩
theorem inS_mem {M : Nat} : ∀ (l : List (Nat × List Nat)), inS l M = true → ∃ q, q ∈ l ∧ q.1 = M := by
  intro l
  induction l with
  | nil => intro h; exact absurd (show false = true from h) (by decide)
  | cons q t ih =>
    intro h
    unfold inS at h
    split at h
    · rename_i c
      exact ⟨q, List.mem_cons_self, Nat.eq_of_beq_eq_true c⟩
    · obtain ⟨r, hr, e⟩ := ih h
      exact ⟨r, List.mem_cons_of_mem _ hr, e⟩
theorem lessB_ex {g H : Nat} : ∀ (l : List Nat), lessB g H l = true → ∃ h, h ∈ l ∧ mulN g h < g ∧ H.testBit (mulN g h) = false := by
  intro l
  induction l with
  | nil => intro h; exact absurd (show false = true from h) (by decide)
  | cons q t ih =>
    intro h
    unfold lessB at h
    split at h
    · rename_i c
      simp only [Bool.and_eq_true, Bool.not_eq_true'] at c
      exact ⟨q, List.mem_cons_self, Nat.le_of_ble_eq_true c.1, c.2⟩
    · obtain ⟨r, hr, e⟩ := ih h
      exact ⟨r, List.mem_cons_of_mem _ hr, e⟩
theorem allB_all {H : Nat} : ∀ (l : List Nat), allB H l = true → ∀ h, h ∈ l → H.testBit h = true := by
  intro l
  induction l with
  | nil => intro _ h hh; exact absurd hh List.not_mem_nil
  | cons q t ih =>
    intro h x hx
    unfold allB at h
    split at h
    · rename_i c
      rcases List.mem_cons.mp hx with e | e
      · subst e; exact c
      · exact ih h x e
    · exact absurd h (by decide)
theorem chkG_all {Hl gs : List Nat} {H : Nat} : ∀ (k g : Nat), chkG Hl gs H k g = true → ∀ x, g ≤ x → x < g + k → (H.testBit x || lessB x H Hl || inS SL (cloM Hl gs H x)) = true := by
  intro k
  induction k with
  | zero => intro g _ x h1 h2; omega
  | succ k ih =>
    intro g h x h1 h2
    unfold chkG at h
    split at h
    · rename_i c
      by_cases e : x = g
      · subst e; exact c
      · exact ih _ h x (by omega) (by omega)
    · exact absurd h (by decide)
theorem least_of {Q : Nat → Prop} : ∀ n, Q n → ∃ g, Q g ∧ ∀ x, x < g → ¬ Q x := by
  intro n
  induction n using Nat.strongRecOn with
  | ind n ih =>
    intro h
    by_cases c : ∃ x, x < n ∧ Q x
    · obtain ⟨x, hx, q⟩ := c
      exact ih x hx q
    · exact ⟨n, h, fun x hx q => c ⟨x, hx, q⟩⟩
/-- each set of moves that holds move 0 and all products of its own is one of the 98 -/
theorem sub_all (hS : ∀ q, q ∈ SL → chkH q = true) (hlt : ∀ q, q ∈ SL → q.1 < 2 ^ 48) {P : Nat → Prop} (h0 : P 0) (hm : ∀ a b, a < 48 → b < 48 → P a → P b → P (mulN a b)) : ∀ (d : Nat) (q : Nat × List Nat), q ∈ SL → 2 ^ 48 - q.1 ≤ d → WM P q.1 → ∃ r, r ∈ SL ∧ ∀ x, x < 48 → (r.1.testBit x = true ↔ P x) := by
  intro d
  induction d with
  | zero => intro q hq hd; have := hlt q hq; omega
  | succ d ih =>
    intro q hq hd hw
    by_cases c : ∃ x, x < 48 ∧ P x ∧ q.1.testBit x = false
    · obtain ⟨x0, hx0⟩ := c
      obtain ⟨g, ⟨g48, gp, gb⟩, gl⟩ := least_of (Q := fun x => x < 48 ∧ P x ∧ q.1.testBit x = false) x0 hx0
      have hc := hS q hq
      unfold chkH at hc
      rw [Bool.and_eq_true] at hc
      have hl : ∀ h, h ∈ lsM q.1 48 0 → h < 48 ∧ P h := fun h hh => hw h (lsM48.mp hh).2
      have hgs : ∀ h, h ∈ g :: q.2 → h < 48 ∧ P h := fun h hh => by
        rcases List.mem_cons.mp hh with e | e
        · subst e; exact ⟨g48, gp⟩
        · exact hw h (allB_all _ hc.1 h e)
      have h1 := chkG_all _ _ hc.2 g (Nat.zero_le _) (by omega)
      simp only [Bool.or_eq_true] at h1
      rcases h1 with (h1 | h1) | h1
      · rw [gb] at h1; exact absurd h1 (by decide)
      · obtain ⟨h, hh, e1, e2⟩ := lessB_ex _ h1
        have a := hl h hh
        exact absurd ⟨mulN_lt _ g48 _ a.1, hm _ _ g48 a.1 gp a.2, e2⟩ (gl _ e1)
      · obtain ⟨r, hr, e⟩ := inS_mem _ h1
        have b := cloM_le (Hl := lsM q.1 48 0) (gs := q.2) (H := q.1) (g := g)
        have hwr : WM P r.1 := by
          rw [e]
          exact cloQ_w hm hl hgs 48 [g] _ (fun y hy => by rw [List.mem_singleton] at hy; subst hy; exact ⟨g48, gp⟩) (addC_w hm ⟨g48, gp⟩ _ _ hl (hw.st g48 gp))
        have hne : q.1 ≠ r.1 := fun z => by
          rw [z, e, b.2.2] at gb
          exact absurd gb (by decide)
        have hle : q.1 ≤ r.1 := by rw [e]; exact b.1
        exact ih r hr (by omega) hwr
    · refine ⟨q, hq, fun x hx => ⟨fun z => (hw x z).2, fun z => ?_⟩⟩
      cases hb : q.1.testBit x with
      | true => rfl
      | false => exact absurd ⟨x, hx, z, hb⟩ c
theorem gp_ls {P : Nat → Nat → Int32} {n K : Nat} : ∀ (k m : Nat) (a : List Nat), (∀ x, m ≤ x → x < m + k → (K.testBit x = true ↔ kpt P n x = true)) → gpL P n k m a = a ++ lsM K k m := by
  intro k
  induction k with
  | zero => intro m a h; simp [gpL, lsM]
  | succ k ih =>
    intro m a h
    unfold gpL lsM
    have h1 := h m (Nat.le_refl _) (by omega)
    rw [ih _ _ (fun x a b => h x (by omega) (by omega))]
    by_cases c : kpt P n m = true
    · rw [if_pos c, if_pos (h1.mpr c)]; simp
    · rw [if_neg c, if_neg (fun q => c (h1.mp q))]
