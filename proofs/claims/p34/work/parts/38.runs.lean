/-! pure: how runs end -/
theorem try_out {pc pn inp : RV} {w : SV} (h : ¬ w.2.2.2.2.2.1 = 0) : ∀ k, tryF pc pn inp k w = (0, w)
  | 0 => rfl
  | k + 1 => by
    have e := ready_out (pc := pc) h
    rw [tryF_stop (by rw [e]; exact h), e]
theorem run_try {pc pn inp : RV} {hit : SV → Bool} (hh : ∀ v, hit v = false) : ∀ (k : Nat) (x : RS), (runR pc pn inp hit k x).1 = (tryF pc pn inp k x.2.1).1 ∧ (runR pc pn inp hit k x).2.1.2.1 = (tryF pc pn inp k x.2.1).2 := by
  intro k
  induction k with
  | zero => intro x; exact ⟨rfl, rfl⟩
  | succ k ih =>
    intro x
    by_cases hr : (readyF pc x.2.1).2.2.2.2.2.1 = 0
    · by_cases h1 : (stepR pc pn inp x).2.1.2.2.2.2.2.1 = 1
      · rw [runR_halt hr h1, tryF_go hr]
        have e := ready_id hr
        have e2 : (stepR pc pn inp x).2.1 = perfF (rowGet pc.1 pc.2 (readyF pc x.2.1).2.2.2.2.1) (rowGet pn.1 pn.2 (readyF pc x.2.1).2.2.2.2.1) inp (readyF pc x.2.1) := rfl
        rw [e] at e2
        have e3 := try_out (pc := pc) (pn := pn) (inp := inp) (w := perfF (rowGet pc.1 pc.2 x.2.1.2.2.2.2.1) (rowGet pn.1 pn.2 x.2.1.2.2.2.2.1) inp x.2.1) (by rw [← e2, h1]; decide) k
        rw [e, e3]
        exact ⟨rfl, e2⟩
      · rw [runR_go hr h1 (hh _), tryF_go hr]
        have e := ih (stepR pc pn inp x)
        exact ⟨congrArg (fun z => z + 1) e.1, e.2⟩
    · rw [runR_stop hr, tryF_stop hr]
      exact ⟨rfl, rfl⟩
def rsn (s : Int32) : Int32 := if s = 0 then 6 else if s = 1 then 1 else 2
def PSt (v w : SV) : Prop := w.2.2.2.2.2.1 = v.2.2.2.2.2.1 ∨ w.2.2.2.2.2.1 = 1
theorem perf_status (c m : Int32) (inp : RV) (v : SV) : PSt v (perfF c m inp v) := by
  unfold perfF
  refine P_ite (P := PSt v) (Or.inl rfl) ?_
  refine P_ite (P := PSt v) (Or.inl rfl) ?_
  refine P_ite (P := PSt v) (Or.inl rfl) ?_
  refine P_ite (P := PSt v) (Or.inl rfl) ?_
  refine P_ite (P := PSt v) (Or.inl rfl) ?_
  refine P_ite (P := PSt v) (Or.inl rfl) ?_
  refine P_ite (P := PSt v) (Or.inl rfl) ?_
  refine P_ite (P := PSt v) (Or.inl rfl) ?_
  refine P_ite (P := PSt v) (Or.inl rfl) ?_
  refine P_ite (P := PSt v) (Or.inl rfl) ?_
  refine P_ite (P := PSt v) (Or.inl rfl) ?_
  refine P_ite (P := PSt v) (Or.inl rfl) ?_
  refine P_ite (P := PSt v) (Or.inl rfl) ?_
  refine P_ite (P := PSt v) (Or.inl rfl) ?_
  refine P_ite (P := PSt v) (Or.inl rfl) ?_
  refine P_ite (P := PSt v) (Or.inl rfl) ?_
  refine P_ite (P := PSt v) (Or.inr rfl) ?_
  exact Or.inl rfl
theorem run_reason {pc pn inp : RV} {hit : SV → Bool} (hh : ∀ v, hit v = false) : ∀ (k : Nat) (x : RS), (k = 0 → x.2.1.2.2.2.2.2.1 = 0) → (runR pc pn inp hit k x).2.2 = rsn (runR pc pn inp hit k x).2.1.2.1.2.2.2.2.2.1 ∧ ((runR pc pn inp hit k x).1 < k → ¬ (runR pc pn inp hit k x).2.1.2.1.2.2.2.2.2.1 = 0) := by
  intro k
  induction k with
  | zero =>
    intro x h
    refine ⟨?_, fun q => absurd q (Nat.not_lt_zero _)⟩
    show (6 : Int32) = rsn x.2.1.2.2.2.2.2.1
    rw [h rfl]
    rfl
  | succ k ih =>
    intro x _
    by_cases hr : (readyF pc x.2.1).2.2.2.2.2.1 = 0
    · by_cases h1 : (stepR pc pn inp x).2.1.2.2.2.2.2.1 = 1
      · rw [runR_halt hr h1]
        refine ⟨?_, fun _ => ?_⟩
        · show (1 : Int32) = rsn (stepR pc pn inp x).2.1.2.2.2.2.2.1
          rw [h1]
          rfl
        · show ¬ (stepR pc pn inp x).2.1.2.2.2.2.2.1 = 0
          rw [h1]
          decide
      · rw [runR_go hr h1 (hh _)]
        have h0 : (stepR pc pn inp x).2.1.2.2.2.2.2.1 = 0 := by
          rcases perf_status (rowGet pc.1 pc.2 (readyF pc x.2.1).2.2.2.2.1) (rowGet pn.1 pn.2 (readyF pc x.2.1).2.2.2.2.1) inp (readyF pc x.2.1) with q | q
          · exact q.trans hr
          · exact absurd q h1
        obtain ⟨a, b⟩ := ih (stepR pc pn inp x) (fun _ => h0)
        exact ⟨a, fun q => b (by have q2 : (runR pc pn inp hit k (stepR pc pn inp x)).1 + 1 < k + 1 := q; omega)⟩
    · rw [runR_stop hr]
      refine ⟨?_, fun _ => hr⟩
      show (if (readyF pc x.2.1).2.2.2.2.2.1 = 1 then (1 : Int32) else 2) = rsn (readyF pc x.2.1).2.2.2.2.2.1
      unfold rsn
      rw [if_neg hr]
theorem run_out {pc pn inp : RV} {hit : SV → Bool} {x : RS} (h : ¬ x.2.1.2.2.2.2.2.1 = 0) (k : Nat) : (runR pc pn inp hit k x).1 = 0 := by
  cases k with
  | zero => rfl
  | succ k => rw [runR_stop (by rw [ready_out h]; exact h)]
