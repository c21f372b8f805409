/-! pure: alike states tell the same number -/
theorem foldS_eq {g g' : Int64 → Nat → Int64} : ∀ (n : Nat), (∀ d i, i < n → g d i = g' d i) → ∀ d, foldS g n d = foldS g' n d := by
  intro n
  induction n with
  | zero => intro _ d; rfl
  | succ n ih =>
    intro h d
    show g (foldS g n d) n = g' (foldS g' n d) n
    rw [ih (fun d i hi => h d i (Nat.lt_succ_of_lt hi)), h _ n (Nat.lt_succ_self n)]
theorem told_eq {r c r' c' : Int32} {n : Nat} {v v' : SV} (h : SEq v v') {i : Nat} (hi : i < 8) : toldF r c n v (nI i) = toldF r' c' n v' (nI i) := by
  have e : i = 0 ∨ i = 1 ∨ i = 2 ∨ i = 3 ∨ i = 4 ∨ i = 5 ∨ i = 6 ∨ i = 7 := by omega
  rcases e with rfl | rfl | rfl | rfl | rfl | rfl | rfl | rfl
  · show v.2.2.2.2.1 = v'.2.2.2.2.1
    exact h.at'
  · show v.2.2.2.2.2.1 = v'.2.2.2.2.2.1
    exact h.status
  · show v.2.2.2.2.2.2.2 = v'.2.2.2.2.2.2.2
    exact h.ck
  · show nI v.1.2 = nI v'.1.2
    rw [h.1.1]
  · show nI v.2.2.1.2 = nI v'.2.2.1.2
    rw [h.2.2.1.1]
  · show v.2.2.2.2.2.2.1 = v'.2.2.2.2.2.2.1
    exact h.rd
  · show nI v.2.2.2.1.2 = nI v'.2.2.2.1.2
    rw [h.2.2.2.1.1]
  · show nI n = nI n
    rfl
theorem stateL_eq {r c r' c' : Int32} {n : Nat} {v v' : SV} {M M' : Nat → Nat → Int32} (h : SEq v v') (hM : ∀ i, i < n → M i 8 = M' i 8) : stateL r c n v M = stateL r' c' n v' M' := by
  unfold stateL
  rw [← h.1.1, ← h.2.2.1.1, ← h.2.2.2.1.1]
  rw [foldS_eq (g := gS1 r c n v) (g' := gS1 r' c' n v') 8 (fun d i hi => by unfold gS1; rw [told_eq h hi])]
  rw [foldS_eq (g := gS2 v) (g' := gS2 v') v.1.2 (fun d i _ => by unfold gS2; rw [topR_eq h.1])]
  rw [foldS_eq (g := gS3 M n v) (g' := gS3 M' n v') 12 (fun d i _ => by unfold gS3; rw [getR_eq h.2.1, stored_eq n hM])]
  rw [foldS_eq (g := gS4 v) (g' := gS4 v') v.2.2.1.2 (fun d i _ => by unfold gS4; rw [topR_eq h.2.2.1])]
  rw [foldS_eq (g := gS5 v) (g' := gS5 v') v.2.2.2.1.2 (fun d i _ => by unfold gS5; rw [getR_eq h.2.2.2.1])]
