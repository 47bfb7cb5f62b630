/-! A SHAPE TAKEN BY A MOVE: its group is the same, seen from there: as many, as many classes, as many orbits -/
def Cj (a : Nat) (p p' : Pts) : Prop := p'.1 = p.1 ∧ ∀ i, i < p.1 → (∀ c, c < 3 → p'.2 i c = cxr (p.2 i) a c) ∧ p'.2 i 3 = p.2 i 3
theorem Cj.sym {a : Nat} {p p' : Pts} (ha : a < 48) (h : Cj a p p') : Cj (invN a) p' p := by
  refine ⟨h.1.symm, fun i hi => ?_⟩
  obtain ⟨h1, h2⟩ := h.2 i (by rw [← h.1]; exact hi)
  refine ⟨fun c hc => ?_, h2.symm⟩
  rw [cxr_ml (r := p.2 i) (r2 := p'.2 i) (invN_lt a ha) ha h1 c hc, (mul_iv a ha).2.1, cxr_0 _ c hc]
theorem inv_inv : ∀ a, a < 48 → invN (invN a) = a := by decide +kernel
theorem cj_ml {a m : Nat} (ha : a < 48) (hm : m < 48) : mulN (cjN a m) a = mulN a m := by
  unfold cjN
  rw [mul_asc (mulN_lt a ha m hm) (invN_lt a ha) ha, (mul_iv a ha).2.1, (mul_iv _ (mulN_lt a ha m hm)).2.2.2]
theorem cj_bk {a m : Nat} (ha : a < 48) (hm : m < 48) : cjN (invN a) (cjN a m) = m := by
  rw [cj_cj (invN_lt a ha) ha hm, (mul_iv a ha).2.1, cj_0 hm]
theorem cj_fw {a m : Nat} (ha : a < 48) (hm : m < 48) : cjN a (cjN (invN a) m) = m := by
  rw [cj_cj ha (invN_lt a ha) hm, (mul_iv a ha).1, cj_0 hm]
theorem Cj.xr {a m i q : Nat} {p p' : Pts} (ha : a < 48) (hm : m < 48) (h : Cj a p p') (hi : i < p.1) (hq : q < p.1) (hc : ∀ c, c < 3 → p.2 q c = cxr (p.2 i) m c) : ∀ c, c < 3 → p'.2 q c = cxr (p'.2 i) (cjN a m) c := fun c hcc => by
  rw [(h.2 q hq).1 c hcc, cxr_ml (r := p.2 i) (r2 := p.2 q) ha hm hc c hcc, cxr_ml (r := p.2 i) (r2 := p'.2 i) (cj_lt ha hm) ha (h.2 i hi).1 c hcc, cj_ml ha hm]
theorem kp_cj {a m : Nat} {p p' : Pts} (hp : PtOk p) (hp' : PtOk p') (ha : a < 48) (hm : m < 48) (h : Cj a p p') (hk : kpt p.2 p.1 m = true) : kpt p'.2 p'.1 (cjN a m) = true := by
  rw [kpt_iff hp] at hk
  rw [kpt_iff hp']
  intro i hi
  rw [h.1] at hi
  obtain ⟨q, hq, hc, hv⟩ := hk i hi
  exact ⟨q, by rw [h.1]; exact hq, h.xr ha hm hi hq hc, by rw [(h.2 q hq).2, (h.2 i hi).2]; exact hv⟩
theorem gl_cj {a m : Nat} {p p' : Pts} (hp : PtOk p) (hp' : PtOk p') (ha : a < 48) (h : Cj a p p') (hm : m ∈ gLst p.2 p.1) : cjN a m ∈ gLst p'.2 p'.1 := by
  obtain ⟨m1, m2⟩ := gl_mem.mp hm
  exact gl_mem.mpr ⟨cj_lt ha m1, kp_cj hp hp' ha m1 h m2⟩
theorem cj_inj {a x y : Nat} (ha : a < 48) (hx : x < 48) (hy : y < 48) (e : cjN a x = cjN a y) : x = y := by
  rw [← cj_bk ha hx, e, cj_bk ha hy]
theorem len_cj {a : Nat} {p p' : Pts} (hp : PtOk p) (hp' : PtOk p') (ha : a < 48) (h : Cj a p p') : (gLst p'.2 p'.1).length = (gLst p.2 p.1).length := by
  have h1 := inj_len (L := gLst p.2 p.1) (L' := gLst p'.2 p'.1) (f := cjN a) gl_nd (fun x hx y hy e => cj_inj ha (gl_mem.mp hx).1 (gl_mem.mp hy).1 e) (fun x hx => gl_cj hp hp' ha h hx)
  have h2 := inj_len (L := gLst p'.2 p'.1) (L' := gLst p.2 p.1) (f := cjN (invN a)) gl_nd (fun x hx y hy e => cj_inj (invN_lt a ha) (gl_mem.mp hx).1 (gl_mem.mp hy).1 e) (fun x hx => gl_cj hp' hp (invN_lt a ha) (h.sym ha) hx)
  omega
theorem ac_cj {a m i : Nat} {p p' : Pts} (hp : PtOk p) (hp' : PtOk p') (ha : a < 48) (h : Cj a p p') (hm : m ∈ gLst p.2 p.1) (hi : i < p.1) : acN p' (cjN a m) i = acN p m i := by
  obtain ⟨m1, m2⟩ := gl_mem.mp hm
  obtain ⟨-, hq, hc⟩ := ac_ok hp m2 hi
  exact ac_eq hp' (by rw [h.1]; exact hq) (h.xr ha m1 hi hq hc)
theorem ob_cj1 {a i : Nat} {p p' : Pts} (hp : PtOk p) (hp' : PtOk p') (ha : a < 48) (h : Cj a p p') (hi : i < p.1) : obN p' i ≤ obN p i := by
  obtain ⟨m, hm, e⟩ := ob_ex hp hi
  rw [e, ← ac_cj hp hp' ha h hm hi]
  exact ob_le (gl_cj hp hp' ha h hm)
theorem ob_cj {a i : Nat} {p p' : Pts} (hp : PtOk p) (hp' : PtOk p') (ha : a < 48) (h : Cj a p p') (hi : i < p.1) : obN p' i = obN p i :=
  Nat.le_antisymm (ob_cj1 hp hp' ha h hi) (ob_cj1 hp' hp (invN_lt a ha) (h.sym ha) (by rw [h.1]; exact hi))
theorem oc_congr {P P' : Nat → Nat → Int32} {n n' : Nat} {L L' : List Nat} : ∀ (k q c : Nat), (∀ j, q ≤ j → j < q + k → oV P' n' L' j = oV P n L j) → ocL P' n' L' k q c = ocL P n L k q c := by
  intro k
  induction k with
  | zero => intro q c _; rfl
  | succ k ih =>
    intro q c h
    show ocL P' n' L' k (q + 1) (if oV P' n' L' q = nI q then c + 1 else c) = ocL P n L k (q + 1) (if oV P n L q = nI q then c + 1 else c)
    rw [h q (Nat.le_refl _) (by omega)]
    exact ih _ _ (fun j h1 h2 => h j (by omega) (by omega))
theorem oc_cj {a : Nat} {p p' : Pts} (hp : PtOk p) (hp' : PtOk p') (ha : a < 48) (h : Cj a p p') : ocL p'.2 p'.1 (gLst p'.2 p'.1) p'.1 0 0 = ocL p.2 p.1 (gLst p.2 p.1) p.1 0 0 := by
  have e : ocL p'.2 p'.1 (gLst p'.2 p'.1) p'.1 0 0 = ocL p'.2 p'.1 (gLst p'.2 p'.1) p.1 0 0 := congrArg (fun k => ocL p'.2 p'.1 (gLst p'.2 p'.1) k 0 0) h.1
  rw [e]
  refine oc_congr _ _ _ (fun j _ hj => ?_)
  have hj1 : j < p.1 := by omega
  rw [oV_ob hp' (by rw [h.1]; exact hj1), oV_ob hp hj1, ob_cj hp hp' ha h hj1]
/-! classes -/
theorem lst_fil {L : List Nat} : ∀ (k i : Nat), lstL L k i = ((List.range' i k).map (lg L)).filter (fun m => decide (lsN L m = m)) := by
  intro k
  induction k with
  | zero => intro i; rfl
  | succ k ih =>
    intro i
    rw [List.range'_succ, List.map_cons, List.filter_cons]
    show (if lsN L (lg L i) = lg L i then lg L i :: lstL L k (i + 1) else lstL L k (i + 1)) = _
    rw [ih]
    by_cases h : lsN L (lg L i) = lg L i
    · rw [if_pos h, if_pos (decide_eq_true h)]
    · rw [if_neg h, if_neg (by simpa using h)]
theorem cl_num {L : List Nat} (hG : Gp L) : (clC L).2.2 = (L.filter (fun m => decide (lsN L m = m))).length := by
  have key := clL_sp hG L.length 0 (ciL L L.length 0 (fun _ => 0)) (fun _ => 0) 0 (Nat.zero_add _).symm (fun j hj y hy e => ⟨fun q => by omega, fun _ => by
    obtain ⟨w, hw, rfl⟩ := lg_mem hy
    exact ciL_v _ _ _ _ (Or.inl ⟨Nat.zero_le _, by omega⟩)⟩)
  obtain ⟨-, k2, -⟩ := key
  have : (clC L).2.2 = (clL L L.length 0 (ciL L L.length 0 (fun _ => 0)) (fun _ => 0) 0).2.2 := rfl
  rw [this, k2, Nat.zero_add, lst_fil, ← List.range_eq_range', lst_map]
theorem cl_cj1 {a : Nat} {p p' : Pts} (hp : PtOk p) (hp' : PtOk p') (ha : a < 48) (h : Cj a p p') : ((gLst p.2 p.1).filter (fun m => decide (lsN (gLst p.2 p.1) m = m))).length ≤ ((gLst p'.2 p'.1).filter (fun m => decide (lsN (gLst p'.2 p'.1) m = m))).length := by
  have hG := gp_gl hp
  have hG' := gp_gl hp'
  refine inj_len (f := fun x => lsN (gLst p'.2 p'.1) (cjN a x)) (gl_nd.filter _) (fun x hx y hy e => ?_) (fun x hx => ?_)
  · obtain ⟨x1, x2⟩ := List.mem_filter.mp hx
    obtain ⟨y1, y2⟩ := List.mem_filter.mp hy
    have x2 := of_decide_eq_true x2
    have y2 := of_decide_eq_true y2
    have x3 := (gl_mem.mp x1).1
    have y3 := (gl_mem.mp y1).1
    obtain ⟨k, hk, e2⟩ := ls_of hG' (cj_lt ha x3) (cj_lt ha y3) e.symm
    have k3 := (gl_mem.mp hk).1
    have hai := invN_lt a ha
    have hk2 := gl_cj hp' hp hai (h.sym ha) hk
    have e3 : y = cjN (cjN (invN a) k) x := by
      have : cjN (invN a) (cjN a y) = cjN (invN a) (cjN k (cjN a x)) := by rw [e2]
      rw [cj_bk ha y3, cj_cj k3 ha x3, cj_cj hai (mulN_lt k k3 a ha) x3] at this
      rw [this]
      congr 1
      unfold cjN
      rw [inv_inv a ha, mul_asc hai k3 ha]
    have e4 := ls_cj hG hk2 x3
    rw [← e3, y2, x2] at e4
    exact e4.symm
  · obtain ⟨x1, -⟩ := List.mem_filter.mp hx
    have h1 := gl_cj hp hp' ha h x1
    exact List.mem_filter.mpr ⟨ls_in hG' h1, decide_eq_true (ls_ls hG' (gl_mem.mp h1).1)⟩
theorem cl_cj {a : Nat} {p p' : Pts} (hp : PtOk p) (hp' : PtOk p') (ha : a < 48) (h : Cj a p p') : (clC (gLst p'.2 p'.1)).2.2 = (clC (gLst p.2 p.1)).2.2 := by
  have h1 := cl_cj1 hp hp' ha h
  have h2 := cl_cj1 hp' hp (invN_lt a ha) (h.sym ha)
  rw [cl_num (gp_gl hp), cl_num (gp_gl hp')]
  omega
