/-! THE LAW'S LOOP (wip/whole/gen/lawloop.py) -/
theorem m63 (x : Int32) : ∃ m : Nat, m < 64 ∧ x &&& 63 = nI m := by
  refine ⟨(x &&& 63).toBitVec.toNat, ?_, ?_⟩
  · have e : (x &&& 63).toBitVec.toNat = x.toBitVec.toNat &&& 63 := by
      rw [Int32.toBitVec_and, BitVec.toNat_and]
      rfl
    rw [e]
    exact Nat.lt_succ_of_le Nat.and_le_right
  · apply Int32.toBitVec_inj.mp
    show _ = BitVec.ofNat 32 _
    rw [BitVec.ofNat_toNat, BitVec.setWidth_eq]
theorem far6 : ∀ q : Nat, q < 6 → (nI q - 6).toInt < 0 := by decide +kernel
theorem room6 {Ln j : Nat} (hL : Ln ≤ 3072) (hj : j ≤ Ln) (h : ¬ nI Ln - 6 < nI j) : j + 6 ≤ Ln := by
  rcases Nat.lt_or_ge Ln 6 with q | q
  · refine absurd ?_ h
    rw [Int32.lt_iff_toInt_lt, nI_toInt (show j < 2 ^ 31 by omega)]
    have := far6 Ln q
    omega
  · have e : nI Ln - 6 = nI (Ln - 6) := by
      have e1 : nI (Ln - 6) + nI 6 = nI Ln := by rw [nI_add]; congr 1; omega
      rw [← e1]
      exact Int32.add_sub_cancel _ _
    rw [e, nI_ltI (by omega) (by omega)] at h
    omega
section LLP
variable {l : Launch} {D : va_G} {ad : Nat → Nat} {cs : Nat → ClassId} {A : Nat → Prop} {sA : Nat → Nat} {Q : State → Prop} {X : Mx} {b Ln k n : Nat} {xs : Nat → Int32}
set_option maxHeartbeats 4000000 in
theorem law_go (K : LC l D ad cs A sA Q X b Ln xs) {j m : Nat} (hm : m < 64) (hj : j + 6 ≤ Ln) (hkR : k ≤ room_1.cells) (hnR : n ≤ room_1.slots) {σ : St} {s : Ms} (hs : SyIs σ s) (hr : RfIs σ s) (ho : MsOk s) (kk : ∀ (σ2 : St) (s2 : Ms), SyIs σ2 s2 → RfIs σ2 s2 → MsOk s2 → GY (l, room_1, D, cs, A, Q) X 4 k n (wd (l, D, ad, cs, A, sA) σ2) 1312 (LJ ad b j) []) : GY (l, room_1, D, cs, A, Q) X 4 k n (wd (l, D, ad, cs, A, sA) σ) 33 (LJ ad b j) [.int (nI m)] := by
  have C := K.1
  match m, hm with
  | 0, _ => exact y_tsIn C 188 dL_law_33 (by decide) (by decide) rfl rfl (lc_point K hj hkR hnR hs hr ho kk)
  | 1, _ => exact y_tsIn C 241 dL_law_33 (by decide) (by decide) rfl rfl (lc_mark K hj hkR hnR hs hr ho kk)
  | 2, _ => exact y_tsIn C 274 dL_law_33 (by decide) (by decide) rfl rfl (lc_drop K hj hkR hnR hs hr ho kk)
  | 3, _ => exact y_tsIn C 297 dL_law_33 (by decide) (by decide) rfl rfl (lc_of K hj hkR hnR hs hr ho kk)
  | 4, _ => exact y_tsIn C 330 dL_law_33 (by decide) (by decide) rfl rfl (lc_at K hj hkR hnR hs hr ho kk)
  | 5, _ => exact y_tsIn C 373 dL_law_33 (by decide) (by decide) rfl rfl (lc_feed K hj hkR hnR hs hr ho kk)
  | 6, _ => exact y_tsIn C 396 dL_law_33 (by decide) (by decide) rfl rfl (lc_read K hj hkR hnR hs hr ho kk)
  | 7, _ => exact y_tsIn C 409 dL_law_33 (by decide) (by decide) rfl rfl (lc_product K hj hkR hnR hs hr ho kk)
  | 8, _ => exact y_tsIn C 442 dL_law_33 (by decide) (by decide) rfl rfl (lc_move K hj hkR hnR hs hr ho kk)
  | 9, _ => exact y_tsIn C 475 dL_law_33 (by decide) (by decide) rfl rfl (lc_trace K hj hkR hnR hs hr ho kk)
  | 10, _ => exact y_tsIn C 508 dL_law_33 (by decide) (by decide) rfl rfl (lc_takes K hj hkR hnR hs hr ho kk)
  | 11, _ => exact y_tsIn C 541 dL_law_33 (by decide) (by decide) rfl rfl (lc_told K hj hkR hnR hs hr ho kk)
  | 12, _ => exact y_tsIn C 564 dL_law_33 (by decide) (by decide) rfl rfl (lc_group K hj hkR hnR hs hr ho kk)
  | 13, _ => exact y_tsIn C 587 dL_law_33 (by decide) (by decide) rfl rfl (lc_classOf K hj hkR hnR hs hr ho kk)
  | 14, _ => exact y_tsIn C 620 dL_law_33 (by decide) (by decide) rfl rfl (lc_classAt K hj hkR hnR hs hr ho kk)
  | 15, _ => exact y_tsIn C 643 dL_law_33 (by decide) (by decide) rfl rfl (lc_motion K hj hkR hnR hs hr ho kk)
  | 16, _ => exact y_tsIn C 676 dL_law_33 (by decide) (by decide) rfl rfl (lc_sign K hj hkR hnR hs hr ho kk)
  | 17, _ => exact y_tsIn C 709 dL_law_33 (by decide) (by decide) rfl rfl (lc_has K hj hkR hnR hs hr ho kk)
  | 18, _ => exact y_tsIn C 742 dL_law_33 (by decide) (by decide) rfl rfl (lc_active K hj hkR hnR hs hr ho kk)
  | 19, _ => exact y_tsIn C 765 dL_law_33 (by decide) (by decide) rfl rfl (lc_see K hj hkR hnR hs hr ho kk)
  | 20, _ => exact y_tsIn C 814 dL_law_33 (by decide) (by decide) rfl rfl (lc_fits K hj hkR hnR hs hr ho kk)
  | 21, _ => exact y_tsIn C 847 dL_law_33 (by decide) (by decide) rfl rfl (lc_odds K hj hkR hnR hs hr ho kk)
  | 22, _ => exact y_tsIn C 891 dL_law_33 (by decide) (by decide) rfl rfl (lc_mean K hj hkR hnR hs hr ho kk)
  | 23, _ => exact y_tsIn C 915 dL_law_33 (by decide) (by decide) rfl rfl (lc_event K hj hkR hnR hs hr ho kk)
  | 24, _ => exact y_tsIn C 948 dL_law_33 (by decide) (by decide) rfl rfl (lc_after K hj hkR hnR hs hr ho kk)
  | 25, _ => exact y_tsIn C 971 dL_law_33 (by decide) (by decide) rfl rfl (lc_book K hj hkR hnR hs hr ho kk)
  | 26, _ => exact y_tsIn C 1004 dL_law_33 (by decide) (by decide) rfl rfl (lc_looked K hj hkR hnR hs hr ho kk)
  | 27, _ => exact y_tsIn C 1017 dL_law_33 (by decide) (by decide) rfl rfl (lc_judge K hj hkR hnR hs hr ho kk)
  | 28, _ => exact y_tsIn C 1050 dL_law_33 (by decide) (by decide) rfl rfl (lc_image K hj hkR hnR hs hr ho kk)
  | 29, _ => exact y_tsIn C 1063 dL_law_33 (by decide) (by decide) rfl rfl (lc_undo K hj hkR hnR hs hr ho kk)
  | 30, _ => exact y_tsIn C 1076 dL_law_33 (by decide) (by decide) rfl rfl (lc_count K hj hkR hnR hs hr ho kk)
  | 31, _ => exact y_tsIn C 1099 dL_law_33 (by decide) (by decide) rfl rfl (lc_tape K hj hkR hnR hs hr ho kk)
  | 32, _ => exact y_tsIn C 1142 dL_law_33 (by decide) (by decide) rfl rfl (lc_item K hj hkR hnR hs hr ho kk)
  | 33, _ => exact y_tsIn C 1215 dL_law_33 (by decide) (by decide) rfl rfl (lc_peek K hj hkR hnR hs hr ho kk)
  | 34, _ => exact y_tsIn C 1249 dL_law_33 (by decide) (by decide) rfl rfl (lc_shift K hj hkR hnR hs hr ho kk)
  | m + 35, hm => exact y_tsOut C 1312 dL_law_33 (Or.inr (by rw [nI_toInt (by omega)]; omega)) rfl (kk σ s hs hr ho)
set_option maxHeartbeats 4000000 in
theorem law_loop (K : LC l D ad cs A sA Q X b Ln xs) (hkR : k ≤ room_1.cells) (hnR : n ≤ room_1.slots) (kE : ∀ (σ : St) (j : Nat), GY (l, room_1, D, cs, A, Q) X 4 k n (wd (l, D, ad, cs, A, sA) σ) 1318 (LJ ad b j) []) : ∀ (t j : Nat) (σ : St) (s : Ms), Ln < j + t → j ≤ Ln → SyIs σ s → RfIs σ s → MsOk s → GY (l, room_1, D, cs, A, Q) X 4 k n (wd (l, D, ad, cs, A, sA) σ) 18 (LJ ad b j) [] := by
  intro t
  induction t with
  | zero => intro j σ s h1 h2; omega
  | succ t ih =>
    intro j σ s h1 h2 hs hr ho
    have K2 := K
    obtain ⟨C, hSx, hX, hbl, hbA, hLn⟩ := K2
    refine y_iload_n (x := nI j) C dL_law_18 rfl ?_
    refine y_aload_n (x := b) C dL_law_19 rfl ?_
    refine y_slen C hX hbl hbA dL_law_20 ?_
    refine y_bp C 6 dL_law_21 (by decide) ?_
    refine y_isub C dL_law_23 ?_
    refine y_icgt C 1318 dL_law_24 rfl (fun _ => kE σ j) (fun hg => ?_)
    have hj := room6 hLn h2 hg
    refine y_aload_n (x := b) C dL_law_27 rfl ?_
    refine y_iload_n (x := nI j) C dL_law_28 rfl ?_
    refine y_sld C hX hbl hbA (i := j) (by omega) hLn dL_law_29 ?_
    refine y_bp C 63 dL_law_30 (by decide) ?_
    refine y_iand C dL_law_32 ?_
    obtain ⟨m, hm, em⟩ := m63 (xs j)
    rw [em]
    refine law_go K hm hj hkR hnR hs hr ho (fun σ2 s2 hs2 hr2 ho2 => ?_)
    refine y_iinc C (nI (j + 6)) dL_law_1312 rfl (by rw [show Int32.ofInt 6 = nI 6 from by decide]; exact nI_add j 6) (by decide) ?_
    refine y_goto C 18 dL_law_1315 rfl ?_
    refine y_loc (LJ ad b (j + 6)) ⟨rfl, rfl, rfl, rfl, trivial⟩ ?_
    exact ih (j + 6) σ2 s2 (by omega) hj hs2 hr2 ho2
end LLP
