/-! THE LAW: behind events it is as if they were done (wip/p38/gen/lawE.py) -/
def evW (r : (Nat → Nat) × (Nat → Nat)) (p a v : Nat) : Rw := rwAdd (rwAdd (rwAdd (0, r) 0 p) 2 a) 1 v
theorem ev3 {s : Ms} {r : (Nat → Nat) × (Nat → Nat)} {p a v : Nat} (hp : p < s.1.1.1) : evP (sEv s (evW r p a v)) = (s.1.1.1 - 1, pMap (rwGone (nI v)) (pMap (rwTake a) (pDrop s.1.1.2 p))) := by
  show evL _ _ 3 0 s.1.1 = _
  show (hapN (hapN (hapN s.1.1.1 0 p) 2 a) 1 v, hapP (hapP (hapP s.1.1.2 s.1.1.1 0 p) (hapN s.1.1.1 0 p) 2 a) (hapN (hapN s.1.1.1 0 p) 2 a) 1 v) = _
  have e1 : hapN s.1.1.1 0 p = s.1.1.1 - 1 := by unfold hapN; rw [if_pos ⟨rfl, hp⟩]
  have e2 : hapP s.1.1.2 s.1.1.1 0 p = pDrop s.1.1.2 p := by
    show (if p < s.1.1.1 then pDrop s.1.1.2 p else s.1.1.2) = _
    rw [if_pos hp]
  rw [e1, e2]
  rfl
theorem evW_ok {s : Ms} (h : MsOk s) {r : (Nat → Nat) × (Nat → Nat)} {p a v : Nat} (hp : p < 8) (ha : a < 48) (hv : v ≤ 4) : MsOk (sEv s (evW r p a v)) := by
  refine ⟨⟨h.1.1, h.1.2.1, fun j hj => ?_, h.1.2.2.2⟩, h.2⟩
  have hj : j < 3 := hj
  rcases (show j = 0 ∨ j = 1 ∨ j = 2 by omega) with rfl | rfl | rfl
  · exact ⟨(show (0 : Nat) < 4 by decide), (show p < 48 by omega)⟩
  · exact ⟨(show (2 : Nat) < 4 by decide), ha⟩
  · exact ⟨(show (1 : Nat) < 4 by decide), (show v < 48 by omega)⟩
def pTo (v : Int32) (P : Nat → Nat → Int32) (q : Nat) : Nat → Nat → Int32 := fun j i => if j < q then rwGone v (P j) i else P j i
theorem pTo_0 {v : Int32} {P : Nat → Nat → Int32} : pTo v P 0 = P := by
  funext j i
  unfold pTo
  rw [if_neg (Nat.not_lt_zero j)]
theorem pTo_at {v : Int32} {P : Nat → Nat → Int32} {q i : Nat} : pTo v P q q i = P q i := by
  unfold pTo
  rw [if_neg (Nat.lt_irrefl q)]
theorem pTo_y {v : Int32} {P : Nat → Nat → Int32} {q : Nat} (h : P q 3 = v) : pMark (pTo v P q) q (nI 0) = pTo v P (q + 1) := by
  funext j i
  unfold pMark pTo rwGone
  by_cases e : j = q
  · subst e
    rw [if_pos (show j < j + 1 by omega)]
    by_cases c : i = 3
    · rw [if_pos ⟨rfl, c⟩, if_pos ⟨c, h⟩]; rfl
    · rw [if_neg (fun x => c x.2), if_neg (Nat.lt_irrefl j), if_neg (fun x => c x.1)]
  · rw [if_neg (fun x => e x.1)]
    by_cases c : j < q
    · rw [if_pos c, if_pos (show j < q + 1 by omega)]
    · rw [if_neg c, if_neg (show ¬ j < q + 1 by omega)]
theorem pTo_n {v : Int32} {P : Nat → Nat → Int32} {q : Nat} (h : ¬ P q 3 = v) : pTo v P q = pTo v P (q + 1) := by
  funext j i
  unfold pTo rwGone
  by_cases e : j = q
  · subst e
    rw [if_pos (show j < j + 1 by omega), if_neg (Nat.lt_irrefl j), if_neg (fun x => h x.2)]
  · by_cases c : j < q
    · rw [if_pos c, if_pos (show j < q + 1 by omega)]
    · rw [if_neg c, if_neg (show ¬ j < q + 1 by omega)]
theorem ax_3 : ∀ t, t < 48 → ∀ c, c < 3 → axN t c < 3 := by decide +kernel
theorem cj_ev {n a : Nat} {P : Nat → Nat → Int32} {v : Int32} (ha : a < 48) : Cj a (n, pTo v P n) (n, pMap (rwGone v) (pMap (rwTake a) P)) := by
  refine ⟨rfl, fun i hi => ?_⟩
  have hi : i < n := hi
  have e : pTo v P n i = rwGone v (P i) := by
    funext c
    unfold pTo
    rw [if_pos hi]
  show (∀ c, c < 3 → rwGone v (rwTake a (P i)) c = cxr (pTo v P n i) a c) ∧ rwGone v (rwTake a (P i)) 3 = pTo v P n i 3
  rw [e]
  have e3 : rwTake a (P i) 3 = P i 3 := by unfold rwTake; rw [if_neg (by decide)]
  have el : ∀ c, c < 3 → ∀ r : Nat → Int32, rwGone v r c = r c := fun c hc r => by
    unfold rwGone
    rw [if_neg (fun x => by omega)]
  refine ⟨fun c hc => ?_, ?_⟩
  · rw [el c hc]
    have h3 := el (axN a c) (ax_3 a ha c hc) (P i)
    unfold rwTake cxr
    rw [if_pos hc, h3]
  · unfold rwGone
    rw [e3]
theorem ok_to {n : Nat} {P : Nat → Nat → Int32} {v : Int32} {q : Nat} (h : PtOk (n, P)) : PtOk (n, pTo v P q) := ok_same h (fun j _ => by
  have e : ∀ i, i < 3 → pTo v P q j i = P j i := fun i hi => by
    unfold pTo rwGone
    by_cases c : j < q
    · rw [if_pos c, if_neg (fun x => by omega)]
    · rw [if_neg c]
  exact ⟨e 0 (by decide), e 1 (by decide), e 2 (by decide)⟩)
theorem e_undo {s : Ms} {u : Su} (h : s.2.1 = some u) : aUndo s = nI u.1.1 ∧ tUndo s = (u, s.2) := by
  unfold aUndo tUndo
  rw [h]
  exact ⟨rfl, rfl⟩
theorem lo_0 {P : Nat → Nat → Int32} {n : Nat} {A B : Nat → Nat} : loL P n A B 0 0 = none := rfl
theorem e_lk1 {s : Ms} {r : (Nat → Nat) × (Nat → Nat)} (hp : PtOk s.1.1) : aLooked (sBk s (rwAdd (0, r) 0 1)) = -5 := by
  show oI (if kpt s.1.1.2 s.1.1.1 0 = true ∧ ordN 0 = 1 then none else some 0) = -5
  rw [if_pos ⟨kpt_0 hp, by decide⟩]
  rfl
theorem e_lk2 {s : Ms} {r : (Nat → Nat) × (Nat → Nat)} {a : Nat} (hp : PtOk s.1.1) : aLooked (sBk s (rwAdd (rwAdd (0, r) 0 1) a (ordN a))) = if kpt s.1.1.2 s.1.1.1 a = true then -5 else nI 1 := by
  show oI (if kpt s.1.1.2 s.1.1.1 0 = true ∧ ordN 0 = 1 then (if kpt s.1.1.2 s.1.1.1 a = true ∧ ordN a = ordN a then none else some 1) else some 0) = _
  rw [if_pos ⟨kpt_0 hp, by decide⟩]
  by_cases h : kpt s.1.1.2 s.1.1.1 a = true
  · rw [if_pos ⟨h, rfl⟩, if_pos h]; rfl
  · rw [if_neg (fun x => h x.1), if_neg h]; rfl
theorem bk_ok {s : Ms} (h : MsOk s) {w : Rw} (hw : ∀ j, j < w.1 → w.2.1 j < 48 ∧ w.2.2 j ≤ 6) : MsOk (sBk s w) := ⟨⟨h.1.1, h.1.2.1, h.1.2.2.1, hw⟩, h.2⟩
section LE
variable {E : Ev} {Q : State → Prop} {X : Mx} {s : Ms} {a p : Nat}

set_option maxHeartbeats 4000000 in
set_option maxRecDepth 100000 in
theorem le_f (C : CZ E (ML Q) X cL_law RL 24) (kR : ∀ (σ : St) (L : List (Nat × Value)), GZ E (ML Q) X 24 σ 894 L [.int (nI 1)]) {u : Su} {z : Nat} (ho : MsOk s) (ha : a < 48) (hb0 : s.1.2.2.2.1 = 0) (hu : s.2.1 = some u) (huo : SuOk u) (hz : (gLst u.1.2 u.1.1).length = z) (hus : u.2.1.1 = 2) (hue : u.2.2.1.1 = 3) (hub : u.2.2.2.1 = 0) (σ : St) (hs : SyIs σ s) : GZ E (ML Q) X 24 σ 778 [(0, .ref (ev_s E 3)), (1, .ref (ev_a E 0)), (2, .int (nI u.1.1)), (3, .int (nI z)), (9, .int (nI a))] [] := by
  have hk1 : MsOk (sBk s (rwAdd (0, s.1.2.2.2.2) 0 1)) := bk_ok ho (fun j hj => by
    have hj : j < 1 := hj
    obtain rfl : j = 0 := by omega
    exact ⟨(show (0 : Nat) < 48 by decide), (show (1 : Nat) ≤ 6 by decide)⟩)
  have hk2 : MsOk (sBk s (rwAdd (rwAdd (0, s.1.2.2.2.2) 0 1) a (ordN a))) := bk_ok ho (fun j hj => by
    have hj : j < 2 := hj
    rcases (show j = 0 ∨ j = 1 by omega) with rfl | rfl
    · exact ⟨(show (0 : Nat) < 48 by decide), (show (1 : Nat) ≤ 6 by decide)⟩
    · exact ⟨ha, (ordN_le a ha).1⟩)
  have k837 : ∀ σ : St, SyIs σ (sBk s (rwAdd (rwAdd (0, s.1.2.2.2.2) 0 1) a (ordN a))) → GZ E (ML Q) X 24 σ 837 [(0, .ref (ev_s E 3)), (1, .ref (ev_a E 0)), (2, .int (nI u.1.1)), (3, .int (nI z)), (9, .int (nI a))] [] := by
    intro σ hs
    refine z_aload_n C dL_law_837 rfl ?_
    refine z_sy C (c_X7_undo (d := 0) hs) dL_law_838 km_RL_93 kc_yX7_undo ki_yX7_undo kx_yX7_undo rfl (Nat.le_of_ble_eq_true rfl) (Nat.le_of_ble_eq_true rfl) rfl rfl (Nat.le_of_ble_eq_true rfl) (fun σ hs => ?_)
    rw [(e_undo (s := (sBk s (rwAdd (rwAdd (0, s.1.2.2.2.2) 0 1) a (ordN a)))) hu).2] at hs
    rw [(e_undo (s := (sBk s (rwAdd (rwAdd (0, s.1.2.2.2.2) 0 1) a (ordN a)))) hu).1]
    refine z_iload_n C dL_law_841 rfl ?_
    refine z_icne C 893 dL_law_842 (by decide) (fun h842 => ?_) (fun h842 => ?_)
    · exact absurd rfl h842
    · refine z_aload_n C dL_law_845 rfl ?_
      refine z_ic (n := 1) C dL_law_846 (by decide) ?_
      refine z_sy C (c_X7_told (d := 0) hs) dL_law_847 km_RL_24 kc_yX7_told ki_yX7_told kx_yX7_told rfl (Nat.le_of_ble_eq_true rfl) (Nat.le_of_ble_eq_true rfl) rfl rfl (Nat.le_of_ble_eq_true rfl) (fun σ hs => ?_)
      rw [e_told1]
      replace hs : SyIs σ (u, s.2) := hs
      refine z_iload_n C dL_law_850 rfl ?_
      refine z_icne C 893 dL_law_851 (by decide) (fun h851 => ?_) (fun h851 => ?_)
      · exact absurd (congrArg nI hz) h851
      · refine z_aload_n C dL_law_854 rfl ?_
        refine z_ic (n := 0) C dL_law_855 (by decide) ?_
        refine z_sy C (c_X7_count (d := 0) hs) dL_law_856 km_RL_96 kc_yX7_count ki_yX7_count kx_yX7_count rfl (Nat.le_of_ble_eq_true rfl) (Nat.le_of_ble_eq_true rfl) rfl rfl (Nat.le_of_ble_eq_true rfl) (fun σ hs => ?_)
        rw [e_count0]
        refine z_ic (n := 2) C dL_law_859 (by decide) ?_
        refine z_icne C 893 dL_law_860 (by decide) (fun h860 => ?_) (fun h860 => ?_)
        · exact absurd (congrArg nI hus) h860
        · refine z_aload_n C dL_law_863 rfl ?_
          refine z_ic (n := 1) C dL_law_864 (by decide) ?_
          refine z_sy C (c_X7_count (d := 0) hs) dL_law_865 km_RL_96 kc_yX7_count ki_yX7_count kx_yX7_count rfl (Nat.le_of_ble_eq_true rfl) (Nat.le_of_ble_eq_true rfl) rfl rfl (Nat.le_of_ble_eq_true rfl) (fun σ hs => ?_)
          rw [e_count1]
          refine z_ic (n := 3) C dL_law_868 (by decide) ?_
          refine z_icne C 893 dL_law_869 (by decide) (fun h869 => ?_) (fun h869 => ?_)
          · exact absurd (congrArg nI hue) h869
          · refine z_aload_n C dL_law_872 rfl ?_
            refine z_ic (n := 2) C dL_law_873 (by decide) ?_
            refine z_sy C (c_X7_count (d := 0) hs) dL_law_874 km_RL_96 kc_yX7_count ki_yX7_count kx_yX7_count rfl (Nat.le_of_ble_eq_true rfl) (Nat.le_of_ble_eq_true rfl) rfl rfl (Nat.le_of_ble_eq_true rfl) (fun σ hs => ?_)
            rw [e_count2]
            refine z_ifne C 893 dL_law_877 (by decide) (fun h877 => ?_) (fun h877 => ?_)
            · exact absurd (congrArg nI hub) h877
            · refine z_aload_n C dL_law_880 rfl ?_
              refine z_sy C (c_X7_looked (d := 0) hs huo) dL_law_881 km_RL_90 kc_yX7_looked ki_yX7_looked kx_yX7_looked rfl (Nat.le_of_ble_eq_true rfl) (Nat.le_of_ble_eq_true rfl) rfl rfl (Nat.le_of_ble_eq_true rfl) (fun σ hs => ?_)
              rw [show aLooked (u, s.2) = -5 from by unfold aLooked; rw [show (u, s.2).1.2.2.2.1 = 0 from hub]; rfl]
              refine z_bp C (-5) dL_law_884 (by decide) ?_
              refine z_icne C 893 dL_law_886 (by decide) (fun h886 => ?_) (fun h886 => ?_)
              · exact absurd rfl h886
              · refine z_ic (n := 1) C dL_law_889 (by decide) ?_
                refine z_goto C 894 dL_law_890 (by decide) ?_
                exact kR σ _
  replace hs : SyIs σ (sBk s (0, s.1.2.2.2.2)) := by rw [show (sBk s (0, s.1.2.2.2.2)) = s from by unfold sBk; rw [← hb0]]; exact hs
  refine z_aload_n C dL_law_778 rfl ?_
  refine z_ic (n := 0) C dL_law_779 (by decide) ?_
  refine z_ic (n := 1) C dL_law_780 (by decide) ?_
  refine z_sy C (c_X7_book (d := 0) hs) dL_law_781 km_RL_87 kc_yX7_book ki_yX7_book kx_yX7_book rfl (Nat.le_of_ble_eq_true rfl) (Nat.le_of_ble_eq_true rfl) rfl rfl (Nat.le_of_ble_eq_true rfl) (fun σ hs => ?_)
  rw [(e_book (by decide) (by decide) (by decide) (show (0 : Nat) < 8 by decide)).1] at hs
  refine z_pop1 C dL_law_784 ?_
  refine z_aload_n C dL_law_785 rfl ?_
  refine z_sy C (c_X7_looked (d := 0) hs hk1.1) dL_law_786 km_RL_90 kc_yX7_looked ki_yX7_looked kx_yX7_looked rfl (Nat.le_of_ble_eq_true rfl) (Nat.le_of_ble_eq_true rfl) rfl rfl (Nat.le_of_ble_eq_true rfl) (fun σ hs => ?_)
  rw [e_lk1 ho.1.1]
  refine z_bp C (-5) dL_law_789 (by decide) ?_
  refine z_icne C 835 dL_law_791 (by decide) (fun h791 => ?_) (fun h791 => ?_)
  · exact absurd rfl h791
  · refine z_aload_n C dL_law_794 rfl ?_
    refine z_iload C dL_law_795 rfl ?_
    refine z_aload_n C dL_law_797 rfl ?_
    refine z_iload C dL_law_798 rfl ?_
    refine z_ic (n := 1) C dL_law_800 (by decide) ?_
    refine z_sy C (c_X7_move (d := 0) hs) dL_law_801 km_RL_42 kc_yX7_move ki_yX7_move kx_yX7_move rfl (Nat.le_of_ble_eq_true rfl) (Nat.le_of_ble_eq_true rfl) rfl rfl (Nat.le_of_ble_eq_true rfl) (fun σ hs => ?_)
    rw [e_move1 ha]
    refine z_sy C (c_X7_book (d := 0) hs) dL_law_804 km_RL_87 kc_yX7_book ki_yX7_book kx_yX7_book rfl (Nat.le_of_ble_eq_true rfl) (Nat.le_of_ble_eq_true rfl) rfl rfl (Nat.le_of_ble_eq_true rfl) (fun σ hs => ?_)
    rw [(e_book ha (ordN_le a ha).2 (ordN_le a ha).1 (show (1 : Nat) < 8 by decide)).1] at hs
    rw [(e_book ha (ordN_le a ha).2 (ordN_le a ha).1 (show (1 : Nat) < 8 by decide)).2]
    refine z_ic (n := 2) C dL_law_807 (by decide) ?_
    refine z_icne C 835 dL_law_808 (by decide) (fun h808 => ?_) (fun h808 => ?_)
    · exact absurd rfl h808
    · refine z_aload_n C dL_law_811 rfl ?_
      refine z_sy C (c_X7_looked (d := 0) hs hk2.1) dL_law_812 km_RL_90 kc_yX7_looked ki_yX7_looked kx_yX7_looked rfl (Nat.le_of_ble_eq_true rfl) (Nat.le_of_ble_eq_true rfl) rfl rfl (Nat.le_of_ble_eq_true rfl) (fun σ hs => ?_)
      rw [e_lk2 ho.1.1]
      refine z_aload_n C dL_law_815 rfl ?_
      refine z_iload C dL_law_816 rfl ?_
      refine z_ic (n := 2) C dL_law_818 (by decide) ?_
      refine z_sy C (c_X7_move (d := 0) hs) dL_law_819 km_RL_42 kc_yX7_move ki_yX7_move kx_yX7_move rfl (Nat.le_of_ble_eq_true rfl) (Nat.le_of_ble_eq_true rfl) rfl rfl (Nat.le_of_ble_eq_true rfl) (fun σ hs => ?_)
      rw [e_mv2 (s := (sBk s (rwAdd (rwAdd (0, s.1.2.2.2.2) 0 1) a (ordN a)))) (n := s.1.1.1) (P := s.1.1.2) rfl ha]
      refine z_ic (n := 1) C dL_law_822 (by decide) ?_
      refine z_icne C 831 dL_law_823 (by decide) (fun h823 => ?_) (fun h823 => ?_)
      · refine z_ic (n := 1) C dL_law_831 (by decide) ?_
        first
          | (rw [if_pos (bI_1.mp h823)]; refine z_iceq C 837 dL_law_832 (by decide) (fun _ => ?_) (fun q => absurd rfl q); exact k837 σ hs)
          | (rw [if_neg (fun q => h823 (bI_1.mpr q))]; refine z_iceq C 837 dL_law_832 (by decide) (fun _ => ?_) (fun q => absurd rfl q); exact k837 σ hs)
      · refine z_bp C (-5) dL_law_826 (by decide) ?_
        refine z_goto C 832 dL_law_828 (by decide) ?_
        first
          | (rw [if_pos (bI_1.mp h823)]; refine z_iceq C 837 dL_law_832 (by decide) (fun _ => ?_) (fun q => absurd rfl q); exact k837 σ hs)
          | (rw [if_neg (fun q => h823 (bI_1.mpr q))]; refine z_iceq C 837 dL_law_832 (by decide) (fun _ => ?_) (fun q => absurd rfl q); exact k837 σ hs)
set_option maxHeartbeats 4000000 in
set_option maxRecDepth 100000 in
theorem le_m (C : CZ E (ML Q) X cL_law RL 24) (h8 : s.1.1.1 ≤ 8) {v : Nat} {x20 x21 x22 : Int32} (kE : ∀ σ : St, SyIs σ (sPts (tImage (sEv s (evW s.1.2.2.1.2 p a v))) (s.1.1.1 - 1, pTo (s.1.1.2 p 3) (pDrop s.1.1.2 p) (s.1.1.1 - 1))) → GZ E (ML Q) X 24 σ 746 [(0, .ref (ev_s E 3)), (1, .ref (ev_a E 0)), (2, .int (nI s.1.1.1)), (3, .int (nI (gL s).length)), (9, .int (nI a)), (10, .int (nI p)), (13, .int (s.1.1.2 p 3)), (20, .int (x20)), (21, .int (x21)), (22, .int (x22))] []) : ∀ (t q : Nat) (σ : St), s.1.1.1 - 1 < q + t → q ≤ s.1.1.1 - 1 → SyIs σ (sPts (tImage (sEv s (evW s.1.2.2.1.2 p a v))) (s.1.1.1 - 1, pTo (s.1.1.2 p 3) (pDrop s.1.1.2 p) q)) → GZ E (ML Q) X 24 σ 710 [(0, .ref (ev_s E 3)), (1, .ref (ev_a E 0)), (2, .int (nI s.1.1.1)), (3, .int (nI (gL s).length)), (9, .int (nI a)), (10, .int (nI p)), (13, .int (s.1.1.2 p 3)), (20, .int (x20)), (21, .int (x21)), (22, .int (x22)), (23, .int (nI q))] [] := by
  intro t
  induction t with
  | zero => intro q σ h1 h2; omega
  | succ t ih =>
    intro q σ h1 h2 hs
    refine z_iload C dL_law_710 rfl ?_
    refine z_aload_n C dL_law_712 rfl ?_
    refine z_ic (n := 0) C dL_law_713 (by decide) ?_
    refine z_sy C (c_X7_told (d := 0) hs) dL_law_714 km_RL_24 kc_yX7_told ki_yX7_told kx_yX7_told rfl (Nat.le_of_ble_eq_true rfl) (Nat.le_of_ble_eq_true rfl) rfl rfl (Nat.le_of_ble_eq_true rfl) (fun σ hs => ?_)
    rw [e_told0]
    show GZ E (ML Q) X 24 σ 717 ([(0, .ref (ev_s E 3)), (1, .ref (ev_a E 0)), (2, .int (nI s.1.1.1)), (3, .int (nI (gL s).length)), (9, .int (nI a)), (10, .int (nI p)), (13, .int (s.1.1.2 p 3)), (20, .int (x20)), (21, .int (x21)), (22, .int (x22)), (23, .int (nI q))]) [.int (nI (s.1.1.1 - 1)), .int (nI q)]
    refine z_icgeN C 746 dL_law_717 (by decide) (by omega) (by omega) (fun h717 => ?_) (fun h717 => ?_)
    · obtain rfl : q = s.1.1.1 - 1 := by omega
      refine z_loc ([(0, .ref (ev_s E 3)), (1, .ref (ev_a E 0)), (2, .int (nI s.1.1.1)), (3, .int (nI (gL s).length)), (9, .int (nI a)), (10, .int (nI p)), (13, .int (s.1.1.2 p 3)), (20, .int (x20)), (21, .int (x21)), (22, .int (x22))]) ⟨rfl, rfl, rfl, rfl, rfl, rfl, rfl, rfl, rfl, rfl, trivial⟩ ?_
      exact kE σ hs
    · have hq : q < s.1.1.1 - 1 := h717
      have k740 : ∀ σ : St, SyIs σ (sPts (tImage (sEv s (evW s.1.2.2.1.2 p a v))) (s.1.1.1 - 1, pTo (s.1.1.2 p 3) (pDrop s.1.1.2 p) (q + 1))) → GZ E (ML Q) X 24 σ 740 [(0, .ref (ev_s E 3)), (1, .ref (ev_a E 0)), (2, .int (nI s.1.1.1)), (3, .int (nI (gL s).length)), (9, .int (nI a)), (10, .int (nI p)), (13, .int (s.1.1.2 p 3)), (20, .int (x20)), (21, .int (x21)), (22, .int (x22)), (23, .int (nI q))] [] := by
        intro σ hs
        refine z_iinc1 C dL_law_740 rfl (by decide) ?_
        refine z_goto C 710 dL_law_743 (by decide) ?_
        refine z_loc ([(0, .ref (ev_s E 3)), (1, .ref (ev_a E 0)), (2, .int (nI s.1.1.1)), (3, .int (nI (gL s).length)), (9, .int (nI a)), (10, .int (nI p)), (13, .int (s.1.1.2 p 3)), (20, .int (x20)), (21, .int (x21)), (22, .int (x22)), (23, .int (nI (q + 1)))]) ⟨rfl, rfl, rfl, rfl, rfl, rfl, rfl, rfl, rfl, rfl, rfl, trivial⟩ ?_
        exact ih (q + 1) σ (by omega) (by omega) hs
      refine z_aload_n C dL_law_720 rfl ?_
      refine z_iload C dL_law_721 rfl ?_
      refine z_ic (n := 3) C dL_law_723 (by decide) ?_
      refine z_sy C (c_X7_of (d := 0) hs) dL_law_724 km_RL_35 kc_yX7_of ki_yX7_of kx_yX7_of rfl (Nat.le_of_ble_eq_true rfl) (Nat.le_of_ble_eq_true rfl) rfl rfl (Nat.le_of_ble_eq_true rfl) (fun σ hs => ?_)
      rw [e_of3 (s := (sPts (tImage (sEv s (evW s.1.2.2.1.2 p a v))) (s.1.1.1 - 1, pTo (s.1.1.2 p 3) (pDrop s.1.1.2 p) q))) hq (show s.1.1.1 - 1 ≤ 8 by omega)]
      show GZ E (ML Q) X 24 σ 727 ([(0, .ref (ev_s E 3)), (1, .ref (ev_a E 0)), (2, .int (nI s.1.1.1)), (3, .int (nI (gL s).length)), (9, .int (nI a)), (10, .int (nI p)), (13, .int (s.1.1.2 p 3)), (20, .int (x20)), (21, .int (x21)), (22, .int (x22)), (23, .int (nI q))]) [.int (pTo (s.1.1.2 p 3) (pDrop s.1.1.2 p) q q 3)]
      rw [pTo_at]
      refine z_iload C dL_law_727 rfl ?_
      refine z_icne C 740 dL_law_729 (by decide) (fun h729 => ?_) (fun h729 => ?_)
      · exact k740 σ (by first | exact hs | (rw [← pTo_n h729]; exact hs))
      · refine z_aload_n C dL_law_732 rfl ?_
        refine z_iload C dL_law_733 rfl ?_
        refine z_ic (n := 0) C dL_law_735 (by decide) ?_
        refine z_sy C (c_X7_mark (d := 0) hs) dL_law_736 km_RL_65 kc_yX7_mark ki_yX7_mark kx_yX7_mark rfl (Nat.le_of_ble_eq_true rfl) (Nat.le_of_ble_eq_true rfl) rfl rfl (Nat.le_of_ble_eq_true rfl) (fun σ hs => ?_)
        rw [e_mark (s := (sPts (tImage (sEv s (evW s.1.2.2.1.2 p a v))) (s.1.1.1 - 1, pTo (s.1.1.2 p 3) (pDrop s.1.1.2 p) q))) hq (show s.1.1.1 - 1 ≤ 8 by omega) (by decide)] at hs
        replace hs : SyIs σ (sPts (tImage (sEv s (evW s.1.2.2.1.2 p a v))) (s.1.1.1 - 1, pMark (pTo (s.1.1.2 p 3) (pDrop s.1.1.2 p) q) q (nI 0))) := hs
        rw [pTo_y h729] at hs
        refine z_pop1 C dL_law_739 ?_
        exact k740 σ (by first | exact hs | (rw [← pTo_n h729]; exact hs))
set_option maxHeartbeats 4000000 in
set_option maxRecDepth 100000 in
theorem le_all (C : CZ E (ML Q) X cL_law RL 24) (kR : ∀ (σ : St) (L : List (Nat × Value)), GZ E (ML Q) X 24 σ 894 L [.int (nI 1)]) (ho : MsOk s) (ha : a < 48) (hp : p < s.1.1.1) (hm : inB (s.1.1.2 p 3) 0 4 = true) (he0 : s.1.2.2.1.1 = 0) (hb0 : s.1.2.2.2.1 = 0) (hse : s.1.2.1.1 = 2) (σ : St) (hs : SyIs σ s) : GZ E (ML Q) X 24 σ 630 [(0, .ref (ev_s E 3)), (1, .ref (ev_a E 0)), (2, .int (nI s.1.1.1)), (3, .int (nI (gL s).length)), (9, .int (nI a)), (10, .int (nI p)), (13, .int (s.1.1.2 p 3))] [] := by
  have h8 : s.1.1.1 ≤ 8 := ho.1.1.1
  obtain ⟨v, hv, ev⟩ := in_n (k := 4) hm
  have hoE : MsOk (sEv s (evW s.1.2.2.1.2 p a v)) := evW_ok ho (by omega) ha hv
  have hf0 : feB 0 (nI p) = true := inB_y (a := 0) (b := 7) (Nat.zero_le _) (by omega) (by omega)
  have hf2 : feB 2 (nI a) = true := isMv_y ha
  have hf1 : feB 1 (s.1.1.2 p 3) = true := hm
  have hpd : PtOk (s.1.1.1 - 1, (pDrop s.1.1.2 p)) := ok_drop ho.1.1
  have hpT : PtOk (s.1.1.1 - 1, (pTo (s.1.1.2 p 3) (pDrop s.1.1.2 p) (s.1.1.1 - 1))) := ok_to hpd
  have hp3 : PtOk (s.1.1.1 - 1, (pMap (rwGone (nI v)) (pMap (rwTake a) (pDrop s.1.1.2 p)))) := by have := ok_evP hoE; rw [ev3 hp] at this; exact this
  have hcj : Cj a (s.1.1.1 - 1, (pTo (s.1.1.2 p 3) (pDrop s.1.1.2 p) (s.1.1.1 - 1))) (s.1.1.1 - 1, (pMap (rwGone (nI v)) (pMap (rwTake a) (pDrop s.1.1.2 p)))) := by rw [ev]; exact cj_ev ha
  replace hs : SyIs σ (sEv s (0, s.1.2.2.1.2)) := by rw [show sEv s (0, s.1.2.2.1.2) = s from by unfold sEv; rw [← he0]]; exact hs
  refine z_aload_n C dL_law_630 rfl ?_
  refine z_ic (n := 0) C dL_law_631 (by decide) ?_
  refine z_iload C dL_law_632 rfl ?_
  refine z_sy C (c_X7_event (d := 0) hs) dL_law_634 km_RL_74 kc_yX7_event ki_yX7_event kx_yX7_event rfl (Nat.le_of_ble_eq_true rfl) (Nat.le_of_ble_eq_true rfl) rfl rfl (Nat.le_of_ble_eq_true rfl) (fun σ hs => ?_)
  rw [e_event (w := 0) (t := nI p) (r := (0, s.1.2.2.1.2)) (by decide) hf0 (show (0 : Nat) < 8 by decide), ix_nI (by omega)] at hs
  refine z_pop1 C dL_law_637 ?_
  refine z_aload_n C dL_law_638 rfl ?_
  refine z_ic (n := 2) C dL_law_639 (by decide) ?_
  refine z_iload C dL_law_640 rfl ?_
  refine z_sy C (c_X7_event (d := 0) hs) dL_law_642 km_RL_74 kc_yX7_event ki_yX7_event kx_yX7_event rfl (Nat.le_of_ble_eq_true rfl) (Nat.le_of_ble_eq_true rfl) rfl rfl (Nat.le_of_ble_eq_true rfl) (fun σ hs => ?_)
  rw [e_event (w := 2) (t := nI a) (r := (rwAdd (0, s.1.2.2.1.2) 0 p)) (by decide) hf2 (show (1 : Nat) < 8 by decide), ix_nI (by omega)] at hs
  refine z_pop1 C dL_law_645 ?_
  refine z_aload_n C dL_law_646 rfl ?_
  refine z_ic (n := 1) C dL_law_647 (by decide) ?_
  refine z_iload C dL_law_648 rfl ?_
  refine z_sy C (c_X7_event (d := 0) hs) dL_law_650 km_RL_74 kc_yX7_event ki_yX7_event kx_yX7_event rfl (Nat.le_of_ble_eq_true rfl) (Nat.le_of_ble_eq_true rfl) rfl rfl (Nat.le_of_ble_eq_true rfl) (fun σ hs => ?_)
  rw [e_event (w := 1) (t := s.1.1.2 p 3) (r := (rwAdd (rwAdd (0, s.1.2.2.1.2) 0 p) 2 a)) (by decide) hf1 (show (2 : Nat) < 8 by decide), ev, ix_nI (by omega)] at hs
  replace hs : SyIs σ (sEv s (evW s.1.2.2.1.2 p a v)) := hs
  refine z_pop1 C dL_law_653 ?_
  refine z_aload_n C dL_law_654 rfl ?_
  refine z_ic (n := 0) C dL_law_655 (by decide) ?_
  refine z_sy C (c_X7_after (d := 0) hs hoE.1) dL_law_656 km_RL_77 kc_yX7_after ki_yX7_after kx_yX7_after rfl (Nat.le_of_ble_eq_true rfl) (Nat.le_of_ble_eq_true rfl) rfl rfl (Nat.le_of_ble_eq_true rfl) (fun σ hs => ?_)
  rw [e_after0, ev3 hp]
  refine z_istore C dL_law_659 (by decide) ?_
  refine z_aload_n C dL_law_661 rfl ?_
  refine z_ic (n := 1) C dL_law_662 (by decide) ?_
  refine z_sy C (c_X7_after (d := 0) hs hoE.1) dL_law_663 km_RL_77 kc_yX7_after ki_yX7_after kx_yX7_after rfl (Nat.le_of_ble_eq_true rfl) (Nat.le_of_ble_eq_true rfl) rfl rfl (Nat.le_of_ble_eq_true rfl) (fun σ hs => ?_)
  rw [e_after1, ev3 hp]
  refine z_istore C dL_law_666 (by decide) ?_
  refine z_aload_n C dL_law_668 rfl ?_
  refine z_ic (n := 2) C dL_law_669 (by decide) ?_
  refine z_sy C (c_X7_after (d := 0) hs hoE.1) dL_law_670 km_RL_77 kc_yX7_after ki_yX7_after kx_yX7_after rfl (Nat.le_of_ble_eq_true rfl) (Nat.le_of_ble_eq_true rfl) rfl rfl (Nat.le_of_ble_eq_true rfl) (fun σ hs => ?_)
  rw [e_after2, ev3 hp]
  refine z_istore C dL_law_673 (by decide) ?_
  refine z_aload_n C dL_law_675 rfl ?_
  refine z_ic (n := 0) C dL_law_676 (by decide) ?_
  refine z_sy C (c_X7_told (d := 0) hs) dL_law_677 km_RL_24 kc_yX7_told ki_yX7_told kx_yX7_told rfl (Nat.le_of_ble_eq_true rfl) (Nat.le_of_ble_eq_true rfl) rfl rfl (Nat.le_of_ble_eq_true rfl) (fun σ hs => ?_)
  rw [e_told0]
  refine z_iload_n C dL_law_680 rfl ?_
  refine z_icne C 693 dL_law_681 (by decide) (fun h681 => ?_) (fun h681 => ?_)
  · exact absurd rfl h681
  · refine z_aload_n C dL_law_684 rfl ?_
    refine z_ic (n := 1) C dL_law_685 (by decide) ?_
    refine z_sy C (c_X7_told (d := 0) hs) dL_law_686 km_RL_24 kc_yX7_told ki_yX7_told kx_yX7_told rfl (Nat.le_of_ble_eq_true rfl) (Nat.le_of_ble_eq_true rfl) rfl rfl (Nat.le_of_ble_eq_true rfl) (fun σ hs => ?_)
    rw [e_told1]
    refine z_iload_n C dL_law_689 rfl ?_
    refine z_iceq C 695 dL_law_690 (by decide) (fun h690 => ?_) (fun h690 => ?_)
    · refine z_aload_n C dL_law_695 rfl ?_
      refine z_sy C (c_X7_image (d := 0) hs) dL_law_696 km_RL_80 kc_yX7_image ki_yX7_image kx_yX7_image rfl (Nat.le_of_ble_eq_true rfl) (Nat.le_of_ble_eq_true rfl) rfl rfl (Nat.le_of_ble_eq_true rfl) (fun σ hs => ?_)
      refine z_pop1 C dL_law_699 ?_
      refine z_aload_n C dL_law_700 rfl ?_
      refine z_iload C dL_law_701 rfl ?_
      refine z_sy C (c_X7_drop (d := 0) hs) dL_law_703 km_RL_84 kc_yX7_drop ki_yX7_drop kx_yX7_drop rfl (Nat.le_of_ble_eq_true rfl) (Nat.le_of_ble_eq_true rfl) rfl rfl (Nat.le_of_ble_eq_true rfl) (fun σ hs => ?_)
      rw [e_drop (s := tImage (sEv s (evW s.1.2.2.1.2 p a v))) hp h8] at hs
      refine z_pop1 C dL_law_706 ?_
      refine z_ic (n := 0) C dL_law_707 (by decide) ?_
      refine z_istore C dL_law_708 (by decide) ?_
      refine z_loc ([(0, .ref (ev_s E 3)), (1, .ref (ev_a E 0)), (2, .int (nI s.1.1.1)), (3, .int (nI (gL s).length)), (9, .int (nI a)), (10, .int (nI p)), (13, .int (s.1.1.2 p 3)), (20, .int (nI (gLst (pMap (rwGone (nI v)) (pMap (rwTake a) (pDrop s.1.1.2 p))) (s.1.1.1 - 1)).length)), (21, .int (nI (clC (gLst (pMap (rwGone (nI v)) (pMap (rwTake a) (pDrop s.1.1.2 p))) (s.1.1.1 - 1))).2.2)), (22, .int (nI (ocL (pMap (rwGone (nI v)) (pMap (rwTake a) (pDrop s.1.1.2 p))) (s.1.1.1 - 1) (gLst (pMap (rwGone (nI v)) (pMap (rwTake a) (pDrop s.1.1.2 p))) (s.1.1.1 - 1)) (s.1.1.1 - 1) 0 0))), (23, .int (nI 0))]) ⟨rfl, rfl, rfl, rfl, rfl, rfl, rfl, rfl, rfl, rfl, rfl, trivial⟩ ?_
      refine le_m C h8 (fun σ hs => ?_) (s.1.1.1 - 1 + 1) 0 σ (by omega) (by omega) (by rw [pTo_0]; exact hs)
      refine z_aload_n C dL_law_746 rfl ?_
      refine z_ic (n := 1) C dL_law_747 (by decide) ?_
      refine z_sy C (c_X7_told (d := 0) hs) dL_law_748 km_RL_24 kc_yX7_told ki_yX7_told kx_yX7_told rfl (Nat.le_of_ble_eq_true rfl) (Nat.le_of_ble_eq_true rfl) rfl rfl (Nat.le_of_ble_eq_true rfl) (fun σ hs => ?_)
      rw [e_told1]
      refine z_iload C dL_law_751 rfl ?_
      refine z_icne C 776 dL_law_753 (by decide) (fun h753 => ?_) (fun h753 => ?_)
      · exact absurd (congrArg nI (len_cj hpT hp3 ha hcj).symm) h753
      · refine z_aload_n C dL_law_756 rfl ?_
        refine z_ic (n := 2) C dL_law_757 (by decide) ?_
        refine z_sy C (c_X7_told (d := 0) hs) dL_law_758 km_RL_24 kc_yX7_told ki_yX7_told kx_yX7_told rfl (Nat.le_of_ble_eq_true rfl) (Nat.le_of_ble_eq_true rfl) rfl rfl (Nat.le_of_ble_eq_true rfl) (fun σ hs => ?_)
        rw [e_told2]
        refine z_iload C dL_law_761 rfl ?_
        refine z_icne C 776 dL_law_763 (by decide) (fun h763 => ?_) (fun h763 => ?_)
        · exact absurd (congrArg nI (cl_cj hpT hp3 ha hcj).symm) h763
        · refine z_aload_n C dL_law_766 rfl ?_
          refine z_ic (n := 3) C dL_law_767 (by decide) ?_
          refine z_sy C (c_X7_told (d := 0) hs) dL_law_768 km_RL_24 kc_yX7_told ki_yX7_told kx_yX7_told rfl (Nat.le_of_ble_eq_true rfl) (Nat.le_of_ble_eq_true rfl) rfl rfl (Nat.le_of_ble_eq_true rfl) (fun σ hs => ?_)
          rw [e_told3]
          refine z_iload C dL_law_771 rfl ?_
          refine z_iceq C 778 dL_law_773 (by decide) (fun h773 => ?_) (fun h773 => ?_)
          · refine z_loc ([(0, .ref (ev_s E 3)), (1, .ref (ev_a E 0)), (2, .int (nI s.1.1.1)), (3, .int (nI (gL s).length)), (9, .int (nI a))]) ⟨rfl, rfl, rfl, rfl, rfl, trivial⟩ ?_
            exact le_f C kR (s := (sPts (tImage (sEv s (evW s.1.2.2.1.2 p a v))) (s.1.1.1 - 1, pTo (s.1.1.2 p 3) (pDrop s.1.1.2 p) (s.1.1.1 - 1)))) (u := (sEv s (evW s.1.2.2.1.2 p a v)).1) ⟨⟨hpT, hoE.1.2⟩, fun u hu => by cases hu; exact hoE.1⟩ ha hb0 rfl hoE.1 rfl hse rfl hb0 σ hs
          · exact absurd (congrArg nI (oc_cj hpT hp3 ha hcj).symm) h773
    · exact absurd rfl h690
end LE
