/-! THE ENVIRONMENT AND THE STATE behind the constructors (wip/whole/gen/env.py, cut) -/
def ad0 (q0 : Nat) (a : Nat → Nat) : Nat → Nat := fun i => ([q0, a 0, a 13, a 1, a 2, a 3, a 14, a 15, a 16, a 35, a 36, a 37, a 4, a 5, a 6, a 7, a 8, a 9, a 10, a 11, a 12, a 17, a 18, a 19, a 20, a 21, a 22, a 23, a 24, a 25, a 26, a 27, a 28, a 29, a 30, a 31, a 32, a 33, a 34, a 38, a 39, a 40, a 41, a 42, a 43, a 44, a 45, a 46, a 47, a 48, a 49, a 50, a 51, a 52, a 53, a 54, a 55, a 56, a 57, a 58, a 59, a 60, a 61, a 62] : List Nat).getD i 0
def sg0 : St := (fun c => match c with
  | 0 => fun i => if i = 4 then 1 else 0
  | 52 => fun i => if i = 1 then -1 else 0
  | 54 => fun i => if i = 1 then -1 else 0
  | 56 => fun i => if i = 1 then -1 else 0
  | 58 => fun i => if i = 1 then -1 else 0
  | 60 => fun i => if i = 1 then -1 else 0
  | 62 => fun i => if i = 1 then -1 else 0
  | _ => fun _ => 0, fun _ _ => 0)
def tp51 (a : Nat → Nat) : Nat → Option Nat := va_up (va_up (va_up (va_up (va_up (va_up (fun _ => none) (nI 0).toNatClampNeg (some (a 51))) (nI 1).toNatClampNeg (some (a 53))) (nI 2).toNatClampNeg (some (a 55))) (nI 3).toNatClampNeg (some (a 57))) (nI 4).toNatClampNeg (some (a 59))) (nI 5).toNatClampNeg (some (a 61))
theorem arrV_same {cA : ClassId} {n : Nat} {f g : Nat → Value} (h : ∀ i, i < n → f i = g i) : arrV cA n f = arrV cA n g := by
  unfold arrV
  have e : (fun j : Fin n => f j.val) = fun j : Fin n => g j.val := funext fun j => h j.val j.isLt
  rw [e]
set_option maxHeartbeats 16000000 in
set_option maxRecDepth 100000 in
theorem w_start {l : Launch} {D : va_G} {cs : Nat → ClassId} {q0 : Nat} {a : Nat → Nat} {A : Nat → Prop} {sA : Nat → Nat} {H : Heap} (hP : va_P D vwCl (PWX7 cs q0 a) H) (hD : va_D A (PWX7 cs q0 a)) : va_P D vwCl (wd (l, D, ad0 q0 a, cs, A, sA) sg0) H ∧ OkE (l, D, ad0 q0 a, cs, A, sA) := by
  have hP2 := hP.sub (ws' := (wd (l, D, ad0 q0 a, cs, A, sA) sg0).set 51 (a 50, .inl (cs 4, 6, .inr (.inr (.inr (.inr (tp51 a))))))) [0, 1, 14, 2, 3, 4, 15, 16, 17, 36, 37, 38, 5, 6, 7, 8, 9, 10, 11, 12, 13, 18, 19, 20, 21, 22, 23, 24, 25, 26, 27, 28, 29, 30, 31, 32, 33, 34, 35, 39, 40, 41, 42, 43, 44, 45, 46, 47, 48, 49, 50, 51, 52, 53, 54, 55, 56, 57, 58, 59, 60, 61, 62, 63] rfl
  have hD2 := hD.sub (ws' := (wd (l, D, ad0 q0 a, cs, A, sA) sg0).set 51 (a 50, .inl (cs 4, 6, .inr (.inr (.inr (.inr (tp51 a))))))) [0, 1, 14, 2, 3, 4, 15, 16, 17, 36, 37, 38, 5, 6, 7, 8, 9, 10, 11, 12, 13, 18, 19, 20, 21, 22, 23, 24, 25, 26, 27, 28, 29, 30, 31, 32, 33, 34, 35, 39, 40, 41, 42, 43, 44, 45, 46, 47, 48, 49, 50, 51, 52, 53, 54, 55, 56, 57, 58, 59, 60, 61, 62, 63] (by decide) rfl
  have at1 : ∀ i, i < 64 → ∃ e, ((wd (l, D, ad0 q0 a, cs, A, sA) sg0).set 51 (a 50, .inl (cs 4, 6, .inr (.inr (.inr (.inr (tp51 a)))))))[i]? = some (ad0 q0 a i, e) := by
    intro i hi
    by_cases h : i = 51
    · subst h
      exact ⟨_, rfl⟩
    · rw [List.getElem?_set_ne (fun e => h e.symm)]
      exact ⟨_, wd_get hi⟩
  refine ⟨fun k q hq => ?_, fun i j hi hj e => ?_, fun c hc => ?_⟩
  · by_cases h : k = 51
    · subst h
      have e1 : q = (a 50, .inl (cs 4, 6, .inr (.inr (.inr (.inr (fun i => some (ad0 q0 a (52 + 2 * i)))))))) := (Option.some.inj ((wd_get (by decide)).symm.trans hq)).symm
      subst e1
      have h1 : H[a 50]? = some (arrV (cs 4) 6 (fun j => va_rf (tp51 a j))) := hP2 51 _ rfl
      show H[a 50]? = some (arrV (cs 4) 6 (fun j => va_rf (some (ad0 q0 a (52 + 2 * j)))))
      rw [h1]
      exact congrArg some (arrV_same (fun i hi => by
        match i, hi with
        | 0, _ => rfl
        | 1, _ => rfl
        | 2, _ => rfl
        | 3, _ => rfl
        | 4, _ => rfl
        | 5, _ => rfl
        | i + 6, h => exact absurd h (by omega)))
    · exact hP2 k q (by rw [List.getElem?_set_ne (fun e => h e.symm)]; exact hq)
  · obtain ⟨e1, h1⟩ := at1 i hi
    obtain ⟨e2, h2⟩ := at1 j hj
    exact hD2.1 i j _ _ h1 h2 e
  · obtain ⟨e1, h1⟩ := at1 c hc
    exact hD2.2 c _ h1
def rw0 : Rw := (0, fun _ => 0, fun _ => 0)
def su0 : Su := ((0, fun _ _ => 0), rw0, rw0, rw0)
def msZ : Ms := (su0, none, (0, fun _ => 0), fun _ => (-1, 0, fun _ => 0))
theorem no0 {p : Prop} {j : Nat} (h : j < 0) : p := absurd h (Nat.not_lt_zero j)
theorem sy0 : SyIs sg0 msZ := by
  refine ⟨⟨⟨rfl, Nat.zero_le _, rfl, rfl, rfl, fun p hp => no0 hp⟩, ⟨rfl, rfl, rfl, Nat.zero_le _, by decide, rfl, fun j hj => no0 hj⟩, ⟨rfl, rfl, rfl, Nat.zero_le _, by decide, rfl, fun j hj => no0 hj⟩, ⟨rfl, rfl, rfl, Nat.zero_le _, by decide, rfl, fun j hj => no0 hj⟩⟩, rfl, Or.inl rfl, ⟨rfl, Nat.zero_le _, fun j hj => no0 hj⟩, fun k hk => ?_⟩
  match k, hk with
  | 0, _ => exact ⟨rfl, rfl, Nat.zero_le _, rfl, rfl, fun j hj => no0 hj⟩
  | 1, _ => exact ⟨rfl, rfl, Nat.zero_le _, rfl, rfl, fun j hj => no0 hj⟩
  | 2, _ => exact ⟨rfl, rfl, Nat.zero_le _, rfl, rfl, fun j hj => no0 hj⟩
  | 3, _ => exact ⟨rfl, rfl, Nat.zero_le _, rfl, rfl, fun j hj => no0 hj⟩
  | 4, _ => exact ⟨rfl, rfl, Nat.zero_le _, rfl, rfl, fun j hj => no0 hj⟩
  | 5, _ => exact ⟨rfl, rfl, Nat.zero_le _, rfl, rfl, fun j hj => no0 hj⟩
  | k + 6, h => exact absurd h (by omega)
theorem ok0 : MsOk msZ := ⟨⟨⟨Nat.zero_le _, fun i j hi => no0 hi⟩, fun j hj => no0 hj, fun j hj => no0 hj, fun j hj => no0 hj⟩, fun u h => by cases h⟩
