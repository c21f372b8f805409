/-! pure: a point at a step that was done stops a run there; playing again -/
theorem holds_0 (x : Int32) : holdsB 0 0 x = true := by
  unfold holdsB
  rw [if_neg (by decide), if_neg (by decide), if_neg (by decide)]
theorem hit_iff {s : Int32} {v : SV} : hitV s v = true ↔ s = v.2.2.2.2.1 ∧ v.2.2.2.2.2.1 = 0 := by
  unfold hitV hitB
  rw [holds_0]
  simp only [Bool.true_and, Bool.and_true, Bool.and_eq_true, decide_eq_true_eq]
theorem run_hit5 {pc pn inp : RV} {v0 : SV} {s : Int32} : ∀ (d m k : Nat) (x : RS), SEq x.2.1 (ch pc pn inp v0 m) → (∀ j, j ≤ d → (readyF pc (ch pc pn inp v0 (m + j))).2.2.2.2.2.1 = 0) → 1 ≤ d → d ≤ k → (ch pc pn inp v0 (m + d)).2.2.2.2.1 = s → (runR pc pn inp (hitV s) k x).2.2 = 5 := by
  intro d
  induction d with
  | zero => intro m k x _ _ h; exact absurd h (by decide)
  | succ d ih =>
    intro m k x h hl _ hk ha
    obtain ⟨k', rfl⟩ : ∃ k', k = k' + 1 := ⟨k - 1, by omega⟩
    obtain ⟨hr, hs⟩ := step_seq (pn := pn) (inp := inp) h (hl 0 (Nat.zero_le _))
    have hs2 : SEq (stepR pc pn inp x).2.1 (ch pc pn inp v0 (m + 1)) := hs
    have z : (stepR pc pn inp x).2.1.2.2.2.2.2.1 = 0 := hs2.status.trans (ready_0 (hl 1 (by omega)))
    have h1 : ¬ (stepR pc pn inp x).2.1.2.2.2.2.2.1 = 1 := by rw [z]; decide
    by_cases hb : hitV s (stepR pc pn inp x).2.1 = true
    · rw [runR_hit hr h1 hb]
    · have hf : hitV s (stepR pc pn inp x).2.1 = false := by
        cases q : hitV s (stepR pc pn inp x).2.1 with
        | true => exact absurd q hb
        | false => rfl
      rw [runR_go hr h1 hf]
      by_cases hd : d = 0
      · subst hd
        exact absurd (hit_iff.mpr ⟨by rw [hs2.at']; exact ha.symm, z⟩) hb
      · exact ih (m + 1) k' (stepR pc pn inp x) hs2 (fun j hj => by rw [show m + 1 + j = m + (j + 1) by omega]; exact hl (j + 1) (by omega)) (by omega) (by omega) (by rw [show m + 1 + d = m + (d + 1) by omega]; exact ha)
theorem run_5 {pc pn inp : RV} {hit : SV → Bool} : ∀ (k : Nat) (x : RS), (runR pc pn inp hit k x).2.2 = 5 → hit (runR pc pn inp hit k x).2.1.2.1 = true := by
  intro k
  induction k with
  | zero => intro x h; exact absurd (show (6 : Int32) = 5 from h) (by decide)
  | succ k ih =>
    intro x h
    by_cases hr : (readyF pc x.2.1).2.2.2.2.2.1 = 0
    · by_cases h1 : (stepR pc pn inp x).2.1.2.2.2.2.2.1 = 1
      · rw [runR_halt hr h1] at h
        exact absurd (show (1 : Int32) = 5 from h) (by decide)
      · by_cases h2 : hit (stepR pc pn inp x).2.1 = true
        · rw [runR_hit hr h1 h2]
          exact h2
        · have hf : hit (stepR pc pn inp x).2.1 = false := by
            cases q : hit (stepR pc pn inp x).2.1 with
            | true => exact absurd q h2
            | false => rfl
          rw [runR_go hr h1 hf] at h ⊢
          exact ih (stepR pc pn inp x) h
    · rw [runR_stop hr] at h
      have h' : (if (readyF pc x.2.1).2.2.2.2.2.1 = 1 then (1 : Int32) else 2) = 5 := h
      by_cases q : (readyF pc x.2.1).2.2.2.2.2.1 = 1
      · rw [if_pos q] at h'
        exact absurd h' (by decide)
      · rw [if_neg q] at h'
        exact absurd h' (by decide)
theorem runR_inp {pc pn inp inp' : RV} {hit : SV → Bool} (h : REq inp inp') : ∀ (k : Nat) (x : RS), runR pc pn inp hit k x = runR pc pn inp' hit k x := by
  intro k
  induction k with
  | zero => intro x; rfl
  | succ k ih =>
    intro x
    have e := stepR_inp (pc := pc) (pn := pn) (x := x) h
    by_cases hr : (readyF pc x.2.1).2.2.2.2.2.1 = 0
    · by_cases h1 : (stepR pc pn inp x).2.1.2.2.2.2.2.1 = 1
      · rw [runR_halt hr h1, runR_halt hr (by rw [← e]; exact h1), e]
      · by_cases h2 : hit (stepR pc pn inp x).2.1 = true
        · rw [runR_hit hr h1 h2, runR_hit hr (by rw [← e]; exact h1) (by rw [← e]; exact h2), e]
        · have hf : hit (stepR pc pn inp x).2.1 = false := by
            cases q : hit (stepR pc pn inp x).2.1 with
            | true => exact absurd q h2
            | false => rfl
          rw [runR_go hr h1 hf, runR_go hr (by rw [← e]; exact h1) (by rw [← e]; exact hf), e, ih]
    · rw [runR_stop hr, runR_stop hr]
theorem inv_clear {pc pn inp : RV} {ft : Nat → Int32} {v : SV} {M : Nat → Nat → Int32} : Inv pc pn inp initS (ft, clearF v, 0, M) := ⟨okS_clear, fun j hj => absurd hj (Nat.not_lt_zero j), Or.inl clear_init, fun j hj => absurd hj (Nat.not_lt_zero j)⟩
theorem inv_init {pc pn inp : RV} {ft : Nat → Int32} {M : Nat → Nat → Int32} : Inv pc pn inp initS (ft, initS, 0, M) := ⟨okS_init, fun j hj => absurd hj (Nat.not_lt_zero j), Or.inl (SEq.rf _), fun j hj => absurd hj (Nat.not_lt_zero j)⟩
theorem inv_play {pc pn inp : RV} {v0 : SV} : ∀ (k : Nat) (x : RS), Inv pc pn inp v0 x → Inv pc pn inp v0 (playR pc pn inp k x).2 ∧ (playR pc pn inp k x).2.2.2.1 = x.2.2.1 + (playR pc pn inp k x).1 := by
  intro k
  induction k with
  | zero => intro x h; exact ⟨h, rfl⟩
  | succ k ih =>
    intro x h
    by_cases hr : (readyF pc x.2.1).2.2.2.2.2.1 = 0
    · rw [playR_go hr]
      obtain ⟨a, b⟩ := ih (stepR pc pn inp x) (inv_step h hr)
      refine ⟨a, ?_⟩
      have e0 : (stepR pc pn inp x).2.2.1 = x.2.2.1 + 1 := rfl
      rw [e0] at b
      show (playR pc pn inp k (stepR pc pn inp x)).2.2.2.1 = x.2.2.1 + ((playR pc pn inp k (stepR pc pn inp x)).1 + 1)
      omega
    · rw [playR_stop hr]
      exact ⟨inv_read h, rfl⟩
theorem tape_in {fi fj fk : Nat → Int32} {ni : Nat} (h : ni ≤ 20) : REq (va_cpy (va_cpy fi fj 0 0 (min ni 20)) fk 0 0 (min (min ni 20) 20), min (min ni 20) 20) (fi, ni) :=
  (cpyR_eq (cap := 20) (r := (fk, 0)) (r2 := (va_cpy fi fj 0 0 (min ni 20), min ni 20)) (Nat.min_le_right ni 20)).tr (cpyR_eq (cap := 20) (r := (fj, 0)) (r2 := (fi, ni)) h)
