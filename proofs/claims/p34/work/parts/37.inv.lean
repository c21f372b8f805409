/-! pure: runs along the chain -/
def momC (pc pn inp : RV) (v0 : SV) (j : Nat) : Nat → Int32 := descM (rowGet pc.1 pc.2 (ch pc pn inp v0 j).2.2.2.2.1) (rowGet pn.1 pn.2 (ch pc pn inp v0 j).2.2.2.2.1) (fun _ => 0) (ch pc pn inp v0 j)
def Inv (pc pn inp : RV) (v0 : SV) (x : RS) : Prop := okS x.2.1 ∧ Live pc pn inp v0 x.2.2.1 ∧ AtC pc x.2.1 (ch pc pn inp v0 x.2.2.1) ∧ ∀ j, j < x.2.2.1 → MEq (x.2.2.2 j) (momC pc pn inp v0 j)
theorem inv_step {pc pn inp : RV} {v0 : SV} {x : RS} (h : Inv pc pn inp v0 x) (hr : (readyF pc x.2.1).2.2.2.2.2.1 = 0) : Inv pc pn inp v0 (stepR pc pn inp x) := by
  obtain ⟨ft, v, n, M⟩ := x
  obtain ⟨h1, h2, h3, h4⟩ := h
  have hr' : (readyF pc v).2.2.2.2.2.1 = 0 := hr
  have hl : (readyF pc (ch pc pn inp v0 n)).2.2.2.2.2.1 = 0 := (AtC.ready h3).status.symm.trans hr'
  have hs : SEq v (ch pc pn inp v0 n) := by
    have := AtC.ready h3
    rwa [ready_id hr', ready_id hl] at this
  unfold stepR
  rw [show readyF pc (ft, v, n, M).2.1 = v from ready_id hr']
  refine ⟨okS_perf h1, fun j hj => ?_, Or.inl (stepV_eq hs), fun j hj => ?_⟩
  · have hj2 : j < n + 1 := hj
    by_cases e : j = n
    · rw [e]; exact hl
    · exact h2 j (show j < n by omega)
  · have hj2 : j < n + 1 := hj
    show MEq (updM M n _ j) _
    unfold updM
    by_cases e : j = n
    · rw [if_pos e, e]
      unfold momC
      rw [← hs.at']
      exact desc_MEq hs
    · rw [if_neg e]
      exact h4 j (show j < n by omega)
theorem inv_read {pc pn inp : RV} {v0 : SV} {x : RS} (h : Inv pc pn inp v0 x) : Inv pc pn inp v0 (readR pc x) := by
  refine ⟨okS_ready h.1, h.2.1, Or.inr ?_, h.2.2.2⟩
  exact AtC.ready h.2.2.1
theorem inv_run {pc pn inp : RV} {v0 : SV} {hit : SV → Bool} : ∀ (k : Nat) {x : RS}, Inv pc pn inp v0 x → Inv pc pn inp v0 (runR pc pn inp hit k x).2.1 := by
  intro k
  induction k with
  | zero => intro x h; exact h
  | succ k ih =>
    intro x h
    by_cases hr : (readyF pc x.2.1).2.2.2.2.2.1 = 0
    · by_cases h1 : (stepR pc pn inp x).2.1.2.2.2.2.2.1 = 1
      · rw [runR_halt hr h1]
        exact inv_step h hr
      · by_cases h2 : hit (stepR pc pn inp x).2.1 = true
        · rw [runR_hit hr h1 h2]
          exact inv_step h hr
        · rw [runR_go hr h1 (by cases q : hit (stepR pc pn inp x).2.1 with | true => exact absurd q h2 | false => rfl)]
          exact ih (inv_step h hr)
    · rw [runR_stop hr]
      exact inv_read h
theorem run_cnt {pc pn inp : RV} {hit : SV → Bool} : ∀ (k : Nat) (x : RS), (runR pc pn inp hit k x).2.1.2.2.1 = x.2.2.1 + (runR pc pn inp hit k x).1 ∧ (runR pc pn inp hit k x).1 ≤ k := by
  intro k
  induction k with
  | zero => intro x; exact ⟨rfl, Nat.le_refl 0⟩
  | succ k ih =>
    intro x
    by_cases hr : (readyF pc x.2.1).2.2.2.2.2.1 = 0
    · by_cases h1 : (stepR pc pn inp x).2.1.2.2.2.2.2.1 = 1
      · rw [runR_halt hr h1]
        exact ⟨rfl, by show 1 ≤ k + 1; omega⟩
      · by_cases h2 : hit (stepR pc pn inp x).2.1 = true
        · rw [runR_hit hr h1 h2]
          exact ⟨rfl, by show 1 ≤ k + 1; omega⟩
        · rw [runR_go hr h1 (by cases q : hit (stepR pc pn inp x).2.1 with | true => exact absurd q h2 | false => rfl)]
          have e := ih (stepR pc pn inp x)
          have e0 : (stepR pc pn inp x).2.2.1 = x.2.2.1 + 1 := rfl
          rw [e0] at e
          refine ⟨?_, ?_⟩
          · show (runR pc pn inp hit k (stepR pc pn inp x)).2.1.2.2.1 = x.2.2.1 + ((runR pc pn inp hit k (stepR pc pn inp x)).1 + 1)
            omega
          · show (runR pc pn inp hit k (stepR pc pn inp x)).1 + 1 ≤ k + 1
            omega
    · rw [runR_stop hr]
      exact ⟨rfl, Nat.zero_le _⟩
theorem inv_back {pc pn inp : RV} {v0 : SV} {ft : Nat → Int32} {v : SV} {n : Nat} {M : Nat → Nat → Int32} (hv0 : okS v0) (h : Inv pc pn inp v0 (ft, v, n + 1, M)) : Inv pc pn inp v0 (ft, backF (M n) v, n, M) ∧ SEq (backF (M n) v) (ch pc pn inp v0 n) := by
  obtain ⟨h1, h2, h3, h4⟩ := h
  have e := back_ch (μ0 := fun _ => 0) hv0 (h2 n (Nat.lt_succ_self n)) h3 (h4 n (Nat.lt_succ_self n))
  exact ⟨⟨okS_back h1, fun j hj => h2 j (Nat.lt_succ_of_lt hj), Or.inl e, fun j hj => h4 j (Nat.lt_succ_of_lt hj)⟩, e⟩
/-- back b steps -/
theorem inv_backN {pc pn inp : RV} {v0 : SV} {ft : Nat → Int32} {v : SV} {n : Nat} {M : Nat → Nat → Int32} (hv0 : okS v0) (h : Inv pc pn inp v0 (ft, v, n, M)) : ∀ b, b ≤ n → Inv pc pn inp v0 (ft, backN M n v b, n - b, M) ∧ (1 ≤ b → SEq (backN M n v b) (ch pc pn inp v0 (n - b))) := by
  intro b
  induction b with
  | zero => intro _; exact ⟨h, fun q => absurd q (by decide)⟩
  | succ b ih =>
    intro hb
    obtain ⟨g, -⟩ := ih (by omega)
    rw [show n - b = (n - (b + 1)) + 1 by omega] at g
    obtain ⟨g1, g2⟩ := inv_back hv0 g
    exact ⟨g1, fun _ => g2⟩
