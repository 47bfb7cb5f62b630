/-! COUNTING; THE GROUP OF A SHAPE; how it moves the points; orbits times keepers -/
def cntN (f : Nat → Bool) : Nat → Nat
  | 0 => 0
  | k + 1 => cntN f k + (if f k = true then 1 else 0)
theorem cntN_le (f : Nat → Bool) : ∀ n, cntN f n ≤ n := by
  intro n
  induction n with
  | zero => exact Nat.le_refl _
  | succ n ih => unfold cntN; split <;> omega
theorem cntN_rng (f : Nat → Bool) : ∀ n, cntN f n = (List.range n).countP f := by
  intro n
  induction n with
  | zero => rfl
  | succ n ih =>
    rw [List.range_succ, List.countP_append, ← ih]
    show cntN f n + (if f n = true then 1 else 0) = cntN f n + List.countP f [n]
    rw [List.countP_cons, List.countP_nil, Nat.zero_add]
theorem lg_get {L : List Nat} {j : Nat} (h : j < L.length) : lg L j = L[j] := by
  unfold lg
  rw [List.getD_eq_getElem?_getD, List.getElem?_eq_getElem h]
  rfl
theorem lst_map (L : List Nat) : (List.range L.length).map (lg L) = L := by
  apply List.ext_getElem
  · simp
  · intro i h1 h2
    rw [List.getElem_map, List.getElem_range, lg_get h2]
theorem cnt_lst (L : List Nat) (f : Nat → Bool) : cntN (fun j => f (lg L j)) L.length = L.countP f := by
  have h : L.countP f = ((List.range L.length).map (lg L)).countP f := by rw [lst_map L]
  rw [cntN_rng, h, List.countP_map]
  rfl
def smN (f : Nat → Nat) : Nat → Nat
  | 0 => 0
  | k + 1 => smN f k + f k
theorem smN_add (f g : Nat → Nat) : ∀ n, smN (fun q => f q + g q) n = smN f n + smN g n := by
  intro n
  induction n with
  | zero => rfl
  | succ n ih => unfold smN; rw [ih]; omega
theorem smN_congr {f g : Nat → Nat} : ∀ n, (∀ q, q < n → f q = g q) → smN f n = smN g n := by
  intro n
  induction n with
  | zero => intro _; rfl
  | succ n ih => intro h; unfold smN; rw [ih (fun q hq => h q (by omega)), h n (by omega)]
theorem smN_0 : ∀ n, smN (fun _ => 0) n = 0 := by
  intro n
  induction n with
  | zero => rfl
  | succ n ih => unfold smN; rw [ih]
theorem smN_one {c : Nat} : ∀ n, smN (fun q => if c = q then 1 else 0) n = if c < n then 1 else 0 := by
  intro n
  induction n with
  | zero => rfl
  | succ n ih =>
    unfold smN
    rw [ih]
    by_cases h : c = n
    · rw [if_pos h, if_neg (by omega), if_pos (by omega)]
    · rw [if_neg h]
      by_cases h2 : c < n
      · rw [if_pos h2, if_pos (by omega)]
      · rw [if_neg h2, if_neg (by omega)]
theorem smN_if {b : Nat → Bool} {s : Nat} : ∀ n, smN (fun q => if b q = true then s else 0) n = s * cntN b n := by
  intro n
  induction n with
  | zero => rfl
  | succ n ih =>
    unfold smN cntN
    rw [ih]
    by_cases h : b n = true
    · rw [if_pos h, if_pos h, Nat.mul_add, Nat.mul_one]
    · rw [if_neg h, if_neg h, Nat.add_zero, Nat.add_zero]
theorem cnt_part {f : Nat → Nat} {n : Nat} : ∀ L : List Nat, (∀ x, x ∈ L → f x < n) → L.length = smN (fun q => L.countP (fun x => f x == q)) n := by
  intro L
  induction L with
  | nil => intro _; exact (smN_0 n).symm
  | cons x L ih =>
    intro h
    have e : (fun q => (x :: L).countP (fun y => f y == q)) = fun q => L.countP (fun y => f y == q) + (if f x = q then 1 else 0) := funext fun q => by
      rw [List.countP_cons]
      simp
    rw [e, smN_add, ← ih (fun y hy => h y (List.mem_cons_of_mem _ hy)), smN_one, if_pos (h x List.mem_cons_self)]
    rfl
theorem os_abs {L : List Nat} {n i : Nat} {ac : Nat → Nat → Nat} {same : Nat → Bool} (h1 : ∀ m, m ∈ L → ac m i < n) (h2 : ∀ q, q < n → same q = true → L.countP (fun m => ac m i == q) = L.countP (fun m => ac m i == i)) (h3 : ∀ q, q < n → ¬ same q = true → L.countP (fun m => ac m i == q) = 0) : L.countP (fun m => ac m i == i) * cntN same n = L.length := by
  rw [cnt_part (f := fun m => ac m i) L h1, ← smN_if]
  refine smN_congr n (fun q hq => ?_)
  by_cases h : same q = true
  · rw [if_pos h, h2 q hq h]
  · rw [if_neg h, h3 q hq h]
theorem map_perm {L L' : List Nat} {f : Nat → Nat} (hL : L.Nodup) (hL' : L'.Nodup) (inj : ∀ x, x ∈ L → ∀ y, y ∈ L → f x = f y → x = y) (into : ∀ x, x ∈ L → f x ∈ L') (onto : ∀ y, y ∈ L' → ∃ x, x ∈ L ∧ f x = y) : (L.map f).Perm L' := by
  have hn : (L.map f).Nodup := by
    rw [List.nodup_iff_pairwise_ne, List.pairwise_map]
    exact List.Pairwise.imp_of_mem (fun {a b} ha hb hab e => hab (inj a ha b hb e)) hL
  refine (List.perm_ext_iff_of_nodup hn hL').mpr (fun a => ⟨fun h => ?_, fun h => ?_⟩)
  · obtain ⟨x, hx, rfl⟩ := List.mem_map.mp h
    exact into x hx
  · obtain ⟨x, hx, rfl⟩ := onto a h
    exact List.mem_map.mpr ⟨x, hx, rfl⟩
theorem inj_len {L L' : List Nat} {f : Nat → Nat} (hL : L.Nodup) (inj : ∀ x, x ∈ L → ∀ y, y ∈ L → f x = f y → x = y) (into : ∀ x, x ∈ L → f x ∈ L') : L.length ≤ L'.length := by
  have hn : (L.map f).Nodup := by
    rw [List.nodup_iff_pairwise_ne, List.pairwise_map]
    exact List.Pairwise.imp_of_mem (fun {a b} ha hb hab e => hab (inj a ha b hb e)) hL
  have := List.Nodup.length_le_of_subset (l₂ := L') hn (fun a h => by
    obtain ⟨x, hx, rfl⟩ := List.mem_map.mp h
    exact into x hx)
  rwa [List.length_map] at this
/-! the group of a shape as a list -/
theorem gpL_fil {P : Nat → Nat → Int32} {n : Nat} : ∀ (k m : Nat) (a : List Nat), gpL P n k m a = a ++ (List.range' m k).filter (kpt P n) := by
  intro k
  induction k with
  | zero => intro m a; unfold gpL; simp
  | succ k ih =>
    intro m a
    unfold gpL
    rw [ih, List.range'_succ, List.filter_cons]
    by_cases h : kpt P n m = true
    · rw [if_pos h, if_pos h]; simp
    · rw [if_neg h, if_neg h]
theorem gl_eq {P : Nat → Nat → Int32} {n : Nat} : gLst P n = (List.range' 0 48).filter (kpt P n) := by
  unfold gLst
  rw [gpL_fil]
  rfl
theorem gl_mem {P : Nat → Nat → Int32} {n m : Nat} : m ∈ gLst P n ↔ m < 48 ∧ kpt P n m = true := by
  rw [gl_eq, List.mem_filter, List.mem_range'_1]
  simp
theorem gl_lt {P : Nat → Nat → Int32} {n : Nat} : (gLst P n).Pairwise (· < ·) := by
  rw [gl_eq]
  exact (List.pairwise_lt_range').filter _
theorem lt_nd {L : List Nat} (h : L.Pairwise (· < ·)) : L.Nodup := by
  rw [List.nodup_iff_pairwise_ne]
  exact h.imp (fun h e => absurd h (by omega))
theorem gl_nd {P : Nat → Nat → Int32} {n : Nat} : (gLst P n).Nodup := lt_nd gl_lt
theorem lt_lg {L : List Nat} (h : L.Pairwise (· < ·)) {i j : Nat} (hij : i < j) (hj : j < L.length) : lg L i < lg L j := by
  rw [lg_get hj, lg_get (Nat.lt_trans hij hj)]
  exact List.pairwise_iff_getElem.mp h i j _ _ hij
theorem inv_pw : ∀ a, a < 48 → invN a = a ∨ invN a = mulN a a ∨ invN a = mulN a (mulN a a) ∨ invN a = mulN a (mulN a (mulN a (mulN a a))) := by decide +kernel
theorem kpt_iv {p : Pts} (hp : PtOk p) {a : Nat} (ha : a < 48) (h : kpt p.2 p.1 a = true) : kpt p.2 p.1 (invN a) = true := by
  have m2 := mulN_lt a ha a ha
  have h2 := kpt_ml hp ha ha h h
  have m3 := mulN_lt a ha _ m2
  have h3 := kpt_ml hp ha m2 h h2
  have m4 := mulN_lt a ha _ m3
  have h4 := kpt_ml hp ha m3 h h3
  have h5 := kpt_ml hp ha m4 h h4
  rcases inv_pw a ha with e | e | e | e
  · rw [e]; exact h
  · rw [e]; exact h2
  · rw [e]; exact h3
  · rw [e]; exact h5
theorem gp_gl {p : Pts} (hp : PtOk p) : Gp (gLst p.2 p.1) := by
  have hlen : (gLst p.2 p.1).length ≤ 48 := by
    have := List.Nodup.length_le_of_subset (l₂ := List.range 48) (gl_nd (P := p.2) (n := p.1)) (fun x hx => List.mem_range.mpr (gl_mem.mp hx).1)
    simpa using this
  have hst : ∀ i j, i < j → j < (gLst p.2 p.1).length → lg (gLst p.2 p.1) i < lg (gLst p.2 p.1) j := fun i j hij hj => lt_lg gl_lt hij hj
  refine ⟨⟨hlen, fun j hj => (gl_mem.mp (lg_in hj)).1, fun i j hi hj e => ?_⟩, hst, gl_mem.mpr ⟨by decide, kpt_0 hp⟩, fun a ha b hb => ?_, fun a ha => ?_⟩
  · rcases Nat.lt_trichotomy i j with c | c | c
    · have := hst i j c hj; omega
    · exact c
    · have := hst j i c hi; omega
  · obtain ⟨a1, a2⟩ := gl_mem.mp ha
    obtain ⟨b1, b2⟩ := gl_mem.mp hb
    exact gl_mem.mpr ⟨mulN_lt a a1 b b1, kpt_ml hp a1 b1 a2 b2⟩
  · obtain ⟨a1, a2⟩ := gl_mem.mp ha
    exact gl_mem.mpr ⟨invN_lt a a1, kpt_iv hp a1 a2⟩
/-! how a move of the group moves the points -/
def acN (p : Pts) (m i : Nat) : Nat := (goT p.2 p.1 m i).getD i
theorem go_iff {p : Pts} (hp : PtOk p) {m i q : Nat} : goT p.2 p.1 m i = some q ↔ q < p.1 ∧ ∀ c, c < 3 → p.2 q c = cxr (p.2 i) m c := by
  have h8 : p.1 ≤ 8 := hp.1
  constructor
  · intro h
    obtain ⟨-, h2, h3, h4, h5⟩ := ptL_some _ _ _ h
    refine ⟨by omega, fun c hc => ?_⟩
    rcases (show c = 0 ∨ c = 1 ∨ c = 2 from by omega) with rfl | rfl | rfl
    · exact h3
    · exact h4
    · exact h5
  · rintro ⟨h1, h2⟩
    obtain ⟨w, hw⟩ := ptL_ex (P := p.2) (x := cxr (p.2 i) m 0) (y := cxr (p.2 i) m 1) (z := cxr (p.2 i) m 2) p.1 0 q (Nat.zero_le _) (by omega) (h2 0 (by decide)) (h2 1 (by decide)) (h2 2 (by decide))
    obtain ⟨-, h6, h3, h4, h5⟩ := ptL_some _ _ _ hw
    have e : w = q := hp.2 w q (by omega) h1 (h3.trans (h2 0 (by decide)).symm) (h4.trans (h2 1 (by decide)).symm) (h5.trans (h2 2 (by decide)).symm)
    subst e
    exact hw
theorem ac_ok {p : Pts} (hp : PtOk p) {m i : Nat} (hk : kpt p.2 p.1 m = true) (hi : i < p.1) : goT p.2 p.1 m i = some (acN p m i) ∧ acN p m i < p.1 ∧ ∀ c, c < 3 → p.2 (acN p m i) c = cxr (p.2 i) m c := by
  obtain ⟨q, hq, hc, -⟩ := (kpt_iff hp).mp hk i hi
  have h := (go_iff hp).mpr ⟨hq, hc⟩
  have e : acN p m i = q := by unfold acN; rw [h]; rfl
  rw [e]
  exact ⟨h, hq, hc⟩
theorem ac_eq {p : Pts} (hp : PtOk p) {m i q : Nat} (hq : q < p.1) (hc : ∀ c, c < 3 → p.2 q c = cxr (p.2 i) m c) : acN p m i = q := by
  unfold acN
  rw [(go_iff hp).mpr ⟨hq, hc⟩]
  rfl
theorem ac_ml {p : Pts} (hp : PtOk p) {a b i : Nat} (ha : a < 48) (hb : b < 48) (ka : kpt p.2 p.1 a = true) (kb : kpt p.2 p.1 b = true) (hi : i < p.1) : acN p (mulN a b) i = acN p a (acN p b i) := by
  obtain ⟨-, h1, h2⟩ := ac_ok hp kb hi
  obtain ⟨-, h3, h4⟩ := ac_ok hp ka h1
  refine ac_eq hp h3 (fun c hc => ?_)
  rw [h4 c hc]
  exact cxr_ml ha hb h2 c hc
theorem cxr_0 (r : Nat → Int32) : ∀ c, c < 3 → cxr r 0 c = r c := fun c hc => by
  rcases (show c = 0 ∨ c = 1 ∨ c = 2 from by omega) with rfl | rfl | rfl <;> rfl
theorem ac_0 {p : Pts} (hp : PtOk p) {i : Nat} (hi : i < p.1) : acN p 0 i = i := ac_eq hp hi (fun c hc => (cxr_0 _ c hc).symm)
theorem ac_iv {p : Pts} (hp : PtOk p) {a i : Nat} (ha : a < 48) (ka : kpt p.2 p.1 a = true) (hi : i < p.1) : acN p (invN a) (acN p a i) = i := by
  rw [← ac_ml hp (invN_lt a ha) ha (kpt_iv hp ha ka) ka hi, (mul_iv a ha).2.1, ac_0 hp hi]
/-! orbits -/
def mnN (g : Nat → Nat) : Nat → Nat → Nat → Nat
  | 0, _, a => a
  | k + 1, i, a => mnN g k (i + 1) (if g i < a then g i else a)
theorem mn_sp {g : Nat → Nat} : ∀ (k i a : Nat), mnN g k i a ≤ a ∧ (∀ j, i ≤ j → j < i + k → mnN g k i a ≤ g j) ∧ (mnN g k i a = a ∨ ∃ j, i ≤ j ∧ j < i + k ∧ mnN g k i a = g j) := by
  intro k
  induction k with
  | zero => intro i a; exact ⟨Nat.le_refl _, fun j h1 h2 => by omega, Or.inl rfl⟩
  | succ k ih =>
    intro i a
    unfold mnN
    obtain ⟨h1, h2, h3⟩ := ih (i + 1) (if g i < a then g i else a)
    have hle : (if g i < a then g i else a) ≤ a ∧ (if g i < a then g i else a) ≤ g i := by split <;> omega
    refine ⟨by omega, fun j hj1 hj2 => ?_, ?_⟩
    · by_cases e : j = i
      · subst e; omega
      · exact h2 j (by omega) (by omega)
    · rcases h3 with h3 | ⟨j, a1, a2, a3⟩
      · rw [h3]
        by_cases c : g i < a
        · rw [if_pos c]; exact Or.inr ⟨i, by omega, by omega, rfl⟩
        · rw [if_neg c]; exact Or.inl rfl
      · exact Or.inr ⟨j, by omega, by omega, a3⟩
theorem fo_mn {P : Nat → Nat → Int32} {n p : Nat} {L : List Nat} {g : Nat → Nat} : ∀ (k i a : Nat), a < 8 → (∀ j, i ≤ j → j < i + k → goT P n (lg L j) p = some (g j) ∧ g j < 8) → foO P n p L k i (nI a) = nI (mnN g k i a) := by
  intro k
  induction k with
  | zero => intro i a _ _; rfl
  | succ k ih =>
    intro i a ha h
    obtain ⟨e, h8⟩ := h i (by omega) (by omega)
    unfold foO mnN
    rw [e]
    show foO P n p L k (i + 1) (if nI (g i) < nI a then nI (g i) else nI a) = _
    by_cases c : g i < a
    · rw [if_pos ((nI_ltI (by omega) (by omega)).mpr c), if_pos c]
      exact ih _ _ (by omega) (fun j h1 h2 => h j (by omega) (by omega))
    · rw [if_neg (fun q => c ((nI_ltI (by omega) (by omega)).mp q)), if_neg c]
      exact ih _ _ (by omega) (fun j h1 h2 => h j (by omega) (by omega))
def obN (p : Pts) (i : Nat) : Nat := mnN (fun j => acN p (lg (gLst p.2 p.1) j) i) (gLst p.2 p.1).length 0 i
theorem oV_ob {p : Pts} (hp : PtOk p) {i : Nat} (hi : i < p.1) : oV p.2 p.1 (gLst p.2 p.1) i = nI (obN p i) := by
  have h8 : p.1 ≤ 8 := hp.1
  unfold oV obN
  refine fo_mn _ _ _ (by omega) (fun j _ hj => ?_)
  have hm := gl_mem.mp (lg_in (L := gLst p.2 p.1) (j := j) (by omega))
  have := ac_ok hp hm.2 hi
  exact ⟨this.1, by omega⟩
theorem ob_le {p : Pts} {i m : Nat} (hm : m ∈ gLst p.2 p.1) : obN p i ≤ acN p m i := by
  obtain ⟨j, hj, e⟩ := lg_mem hm
  have := (mn_sp (g := fun j => acN p (lg (gLst p.2 p.1) j) i) (gLst p.2 p.1).length 0 i).2.1 j (Nat.zero_le _) (by omega)
  rw [← e]
  exact this
theorem ob_ex {p : Pts} (hp : PtOk p) {i : Nat} (hi : i < p.1) : ∃ m, m ∈ gLst p.2 p.1 ∧ obN p i = acN p m i := by
  rcases (mn_sp (g := fun j => acN p (lg (gLst p.2 p.1) j) i) (gLst p.2 p.1).length 0 i).2.2 with h | ⟨j, -, hj, h⟩
  · exact ⟨0, gl_mem.mpr ⟨by decide, kpt_0 hp⟩, by rw [ac_0 hp hi]; exact h⟩
  · exact ⟨lg (gLst p.2 p.1) j, lg_in (by omega), h⟩
theorem ob_lt {p : Pts} (hp : PtOk p) {i : Nat} (hi : i < p.1) : obN p i < p.1 := by
  obtain ⟨m, hm, e⟩ := ob_ex hp hi
  rw [e]
  exact (ac_ok hp (gl_mem.mp hm).2 hi).2.1
theorem ob_mv {p : Pts} (hp : PtOk p) {i m : Nat} (hi : i < p.1) (hm : m ∈ gLst p.2 p.1) : obN p (acN p m i) = obN p i := by
  obtain ⟨m1, m2⟩ := gl_mem.mp hm
  have hq := (ac_ok hp m2 hi).2.1
  apply Nat.le_antisymm
  · obtain ⟨t, ht, e⟩ := ob_ex hp hi
    obtain ⟨t1, t2⟩ := gl_mem.mp ht
    have hiv := kpt_iv hp m1 m2
    have := ob_le (p := p) (i := acN p m i) (m := mulN t (invN m)) (gl_mem.mpr ⟨mulN_lt t t1 _ (invN_lt m m1), kpt_ml hp t1 (invN_lt m m1) t2 hiv⟩)
    rw [ac_ml hp t1 (invN_lt m m1) t2 hiv hq, ac_iv hp m1 m2 hi] at this
    rw [e]
    exact this
  · obtain ⟨t, ht, e⟩ := ob_ex hp hq
    obtain ⟨t1, t2⟩ := gl_mem.mp ht
    have := ob_le (p := p) (i := i) (m := mulN t m) (gl_mem.mpr ⟨mulN_lt t t1 m m1, kpt_ml hp t1 m1 t2 m2⟩)
    rw [ac_ml hp t1 m1 t2 m2 hi] at this
    rw [e]
    exact this
theorem ob_of {p : Pts} (hp : PtOk p) {i q : Nat} (hi : i < p.1) (hq : q < p.1) (h : obN p q = obN p i) : ∃ m, m ∈ gLst p.2 p.1 ∧ acN p m i = q := by
  obtain ⟨t, ht, e⟩ := ob_ex hp hi
  obtain ⟨u, hu, e2⟩ := ob_ex hp hq
  obtain ⟨t1, t2⟩ := gl_mem.mp ht
  obtain ⟨u1, u2⟩ := gl_mem.mp hu
  have hiv := kpt_iv hp u1 u2
  refine ⟨mulN (invN u) t, gl_mem.mpr ⟨mulN_lt _ (invN_lt u u1) t t1, kpt_ml hp (invN_lt u u1) t1 hiv t2⟩, ?_⟩
  rw [ac_ml hp (invN_lt u u1) t1 hiv t2 hi, ← e, ← h, e2, ac_iv hp u1 u2 hq]
/-- ORBITS TIMES KEEPERS -/
theorem orb_keep {p : Pts} (hp : PtOk p) {i : Nat} (hi : i < p.1) : cntN (fun j => decide (goT p.2 p.1 (lg (gLst p.2 p.1) j) i = some i)) (gLst p.2 p.1).length * cntN (fun q => decide (oV p.2 p.1 (gLst p.2 p.1) q = oV p.2 p.1 (gLst p.2 p.1) i)) p.1 = (gLst p.2 p.1).length := by
  have h8 : p.1 ≤ 8 := hp.1
  have e1 : cntN (fun j => decide (goT p.2 p.1 (lg (gLst p.2 p.1) j) i = some i)) (gLst p.2 p.1).length = (gLst p.2 p.1).countP (fun m => acN p m i == i) := by
    rw [cnt_lst (gLst p.2 p.1) (fun m => decide (goT p.2 p.1 m i = some i))]
    refine List.countP_congr (fun m hm => ?_)
    have := (ac_ok hp (gl_mem.mp hm).2 hi).1
    rw [this]
    simp
  have e2 : cntN (fun q => decide (oV p.2 p.1 (gLst p.2 p.1) q = oV p.2 p.1 (gLst p.2 p.1) i)) p.1 = cntN (fun q => decide (obN p q = obN p i)) p.1 := by
    rw [cntN_rng, cntN_rng]
    refine List.countP_congr (fun q hq => ?_)
    have hq := List.mem_range.mp hq
    rw [oV_ob hp hq, oV_ob hp hi]
    have a := ob_lt hp hq
    have b := ob_lt hp hi
    rw [decide_eq_true_eq, decide_eq_true_eq]
    exact nI_eq (by omega) (by omega)
  rw [e1, e2]
  refine os_abs (fun m hm => (ac_ok hp (gl_mem.mp hm).2 hi).2.1) (fun q hq h => ?_) (fun q hq h => ?_)
  · obtain ⟨g, hg, e⟩ := ob_of hp hi hq (of_decide_eq_true h)
    obtain ⟨g1, g2⟩ := gl_mem.mp hg
    have hG := gp_gl hp
    have hpm := map_perm (f := mulN g) (gl_nd (P := p.2) (n := p.1)) (gl_nd (P := p.2) (n := p.1)) (fun x hx y hy e => by
      have x1 := (gl_mem.mp hx).1
      have y1 := (gl_mem.mp hy).1
      have := congrArg (mulN (invN g)) e
      rw [← mul_asc (invN_lt g g1) g1 x1, ← mul_asc (invN_lt g g1) g1 y1, (mul_iv g g1).2.1, (mul_iv x x1).2.2.1, (mul_iv y y1).2.2.1] at this
      exact this) (fun x hx => hG.2.2.2.1 g hg x hx) (fun y hy => ⟨mulN (invN g) y, hG.2.2.2.1 _ (hG.2.2.2.2 g hg) y hy, by
        have y1 := (gl_mem.mp hy).1
        rw [← mul_asc g1 (invN_lt g g1) y1, (mul_iv g g1).1, (mul_iv y y1).2.2.1]⟩)
    rw [← hpm.countP_eq (fun m => acN p m i == q), List.countP_map]
    refine List.countP_congr (fun m hm => ?_)
    obtain ⟨m1, m2⟩ := gl_mem.mp hm
    show (acN p (mulN g m) i == q) = true ↔ _
    rw [ac_ml hp g1 m1 g2 m2 hi, beq_iff_eq, beq_iff_eq]
    have hmi := (ac_ok hp m2 hi).2.1
    constructor
    · intro h2
      have h3 := congrArg (acN p (invN g)) (h2.trans e.symm)
      rw [ac_iv hp g1 g2 hmi, ac_iv hp g1 g2 hi] at h3
      exact h3
    · intro h2
      rw [h2]; exact e
  · rw [List.countP_eq_zero]
    intro m hm hc
    refine h (decide_eq_true ?_)
    rw [← beq_iff_eq.mp hc]
    exact ob_mv hp hi hm
