/-! pure: another row of the same input; a failing state tells 2 or more -/
theorem perfF_inp {c m : Int32} {inp inp' : RV} {v : SV} (h : REq inp inp') : perfF c m inp v = perfF c m inp' v := by
  unfold perfF
  rw [h.1, getR_eq h]
theorem stepR_inp {pc pn inp inp' : RV} {x : RS} (h : REq inp inp') : stepR pc pn inp x = stepR pc pn inp' x := by
  unfold stepR
  rw [perfF_inp h]
theorem playR_inp {pc pn inp inp' : RV} (h : REq inp inp') : ∀ (k : Nat) (x : RS), playR pc pn inp k x = playR pc pn inp' k x := by
  intro k
  induction k with
  | zero => intro x; rfl
  | succ k ih =>
    intro x
    by_cases hr : (readyF pc x.2.1).2.2.2.2.2.1 = 0
    · rw [playR_go hr, playR_go hr, stepR_inp h, ih]
    · rw [playR_stop hr, playR_stop hr]
theorem I_ite {P : Int32 → Prop} {p : Prop} [Decidable p] {a b : Int32} (ha : P a) (hb : P b) : P (if p then a else b) := by
  by_cases h : p
  · rw [if_pos h]; exact ha
  · rw [if_neg h]; exact hb
theorem fail_lt {pc : RV} {v : SV} : failF pc v < 2 → failF pc v = 0 := by
  unfold failF
  refine I_ite (P := fun x => x < 2 → x = 0) (fun q => absurd q (by decide)) ?_
  refine I_ite (P := fun x => x < 2 → x = 0) (fun q => absurd q (by decide)) ?_
  refine I_ite (P := fun x => x < 2 → x = 0) (fun q => absurd q (by decide)) ?_
  refine I_ite (P := fun x => x < 2 → x = 0) (fun q => absurd q (by decide)) ?_
  refine I_ite (P := fun x => x < 2 → x = 0) (fun q => absurd q (by decide)) ?_
  exact fun _ => rfl
/-- a state that tells a status below 2 is the chain's own -/
theorem atC_lt {pc : RV} {v w : SV} (h : AtC pc v w) (h2 : v.2.2.2.2.2.1 < 2) : SEq v w := by
  rcases h with h | h
  · exact h
  · rw [h.status] at h2
    by_cases e : w.2.2.2.2.2.1 = 0
    · have z : readyF pc w = (w.1, w.2.1, w.2.2.1, w.2.2.2.1, w.2.2.2.2.1, failF pc w, w.2.2.2.2.2.2.1, w.2.2.2.2.2.2.2) := by
        unfold readyF
        rw [if_pos e]
      rw [z] at h2
      have z2 : (readyF pc w).2.2.2.2.2.1 = 0 := by
        rw [z]
        exact fail_lt h2
      rwa [ready_id z2] at h
    · rwa [ready_out e] at h
