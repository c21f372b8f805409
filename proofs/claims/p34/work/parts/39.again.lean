/-! pure: running again where one has run -/
theorem step_seq {pc pn inp : RV} {x : RS} {w : SV} (h : SEq x.2.1 w) (hl : (readyF pc w).2.2.2.2.2.1 = 0) : (readyF pc x.2.1).2.2.2.2.2.1 = 0 ∧ SEq (stepR pc pn inp x).2.1 (stepV pc pn inp w) := by
  have hr : (readyF pc x.2.1).2.2.2.2.2.1 = 0 := (readyF_eq (pc := pc) h).status.trans hl
  refine ⟨hr, ?_⟩
  have e : (stepR pc pn inp x).2.1 = stepV pc pn inp (readyF pc x.2.1) := rfl
  rw [e, ready_id hr]
  exact stepV_eq h
theorem run_live {pc pn inp : RV} {v0 : SV} {hit : SV → Bool} (hh : ∀ v, hit v = false) : ∀ (b m : Nat) (x : RS), SEq x.2.1 (ch pc pn inp v0 m) → (∀ j, j < b → (readyF pc (ch pc pn inp v0 (m + j))).2.2.2.2.2.1 = 0) → (runR pc pn inp hit b x).1 = b ∧ SEq (runR pc pn inp hit b x).2.1.2.1 (ch pc pn inp v0 (m + b)) := by
  intro b
  induction b with
  | zero => intro m x h _; exact ⟨rfl, h⟩
  | succ b ih =>
    intro m x h hl
    obtain ⟨hr, hs⟩ := step_seq (pn := pn) (inp := inp) h (hl 0 (Nat.succ_pos b))
    have hs2 : SEq (stepR pc pn inp x).2.1 (ch pc pn inp v0 (m + 1)) := hs
    by_cases h1 : (stepR pc pn inp x).2.1.2.2.2.2.2.1 = 1
    · by_cases hb : b = 0
      · subst hb
        rw [runR_halt hr h1]
        exact ⟨rfl, hs2⟩
      · have z := ready_0 (hl 1 (by omega))
        rw [← hs2.status, h1] at z
        exact absurd z (by decide)
    · rw [runR_go hr h1 (hh _)]
      have e := ih (m + 1) (stepR pc pn inp x) hs2 (fun j hj => by rw [show m + 1 + j = m + (j + 1) by omega]; exact hl (j + 1) (by omega))
      refine ⟨congrArg (fun z => z + 1) e.1, ?_⟩
      rw [show m + (b + 1) = m + 1 + b by omega]
      exact e.2
theorem play_live {pc pn inp : RV} {v0 : SV} : ∀ (b m : Nat) (x : RS), SEq x.2.1 (ch pc pn inp v0 m) → (∀ j, j < b → (readyF pc (ch pc pn inp v0 (m + j))).2.2.2.2.2.1 = 0) → (playR pc pn inp b x).1 = b ∧ SEq (playR pc pn inp b x).2.2.1 (ch pc pn inp v0 (m + b)) := by
  intro b
  induction b with
  | zero => intro m x h _; exact ⟨rfl, h⟩
  | succ b ih =>
    intro m x h hl
    obtain ⟨hr, hs⟩ := step_seq (pn := pn) (inp := inp) h (hl 0 (Nat.succ_pos b))
    have hs2 : SEq (stepR pc pn inp x).2.1 (ch pc pn inp v0 (m + 1)) := hs
    rw [playR_go hr]
    have e := ih (m + 1) (stepR pc pn inp x) hs2 (fun j hj => by rw [show m + 1 + j = m + (j + 1) by omega]; exact hl (j + 1) (by omega))
    refine ⟨congrArg (fun z => z + 1) e.1, ?_⟩
    rw [show m + (b + 1) = m + 1 + b by omega]
    exact e.2
theorem clear_init {v : SV} : SEq (clearF v) initS := by
  have e24 : clampI 0 24 = 0 := by decide
  have e8 : clampI 0 8 = 0 := by decide
  have e30 : clampI 0 30 = 0 := by decide
  refine ⟨⟨e24, fun i hi => absurd (show i < clampI 0 24 from hi) (by rw [e24]; exact Nat.not_lt_zero i)⟩, ⟨rfl, fun i hi => ?_⟩, ⟨e8, fun i hi => absurd (show i < clampI 0 8 from hi) (by rw [e8]; exact Nat.not_lt_zero i)⟩, ⟨e30, fun i hi => absurd (show i < clampI 0 30 from hi) (by rw [e30]; exact Nat.not_lt_zero i)⟩, rfl⟩
  have hi2 : i < 12 := hi
  show zeroTo v.2.1.1 12 i = zeroTo (fun _ => 0) 12 i
  unfold zeroTo
  rw [if_pos hi2, if_pos hi2]
theorem ch_ck {pc pn inp : RV} {v0 : SV} (h : v0.2.2.2.2.2.2.2 = 0) : ∀ n, (ch pc pn inp v0 n).2.2.2.2.2.2.2 = nI n
  | 0 => h
  | n + 1 => by
    show (perfF _ _ inp (ch pc pn inp v0 n)).2.2.2.2.2.2.2 = nI (n + 1)
    rw [perf_ck, ch_ck h n]
    exact nI_1 n
theorem inv_ck {pc pn inp : RV} {v0 : SV} {x : RS} (h0 : v0.2.2.2.2.2.2.2 = 0) (h : Inv pc pn inp v0 x) : x.2.1.2.2.2.2.2.2.2 = nI x.2.2.1 := by
  rcases h.2.2.1 with q | q
  · rw [q.ck]; exact ch_ck h0 _
  · rw [q.ck]
    unfold readyF
    by_cases e : (ch pc pn inp v0 x.2.2.1).2.2.2.2.2.1 = 0
    · rw [if_pos e]; exact ch_ck h0 _
    · rw [if_neg e]; exact ch_ck h0 _
