/-! pure: where a run stands, what its frames hold, what the past tells -/
def in80 (x : Int32) : Prop := ∃ j, j ≤ 80 ∧ x = nI j
def RgS (v : SV) : Prop := in80 v.2.2.2.2.1 ∧ ∀ i, i < v.2.2.1.2 → in80 (v.2.2.1.1 i)
theorem in80_0 : in80 0 := ⟨0, by decide, nI_0.symm⟩
theorem in_ite {p : Prop} [Decidable p] {a b : Int32} (ha : in80 a) (hb : in80 b) : in80 (if p then a else b) := by
  by_cases h : p
  · rw [if_pos h]; exact ha
  · rw [if_neg h]; exact hb
theorem R_ite {p : Prop} [Decidable p] {a b : SV} (ha : p → RgS a) (hb : ¬ p → RgS b) : RgS (if p then a else b) := by
  by_cases h : p
  · rw [if_pos h]; exact ha h
  · rw [if_neg h]; exact hb h
theorem rg_at {v : SV} {s c f o : RV} {a rd : Int32} (ha : in80 a) (hf : ∀ i, i < f.2 → in80 (f.1 i)) : RgS (withAt v s c f o a rd) := ⟨ha, hf⟩
theorem rg_push {cap : Nat} {f : RV} {x : Int32} (hf : ∀ i, i < f.2 → in80 (f.1 i)) (hx : in80 x) : ∀ i, i < (pushR cap f x).2 → in80 ((pushR cap f x).1 i) := by
  intro i hi
  by_cases e : f.2 < cap
  · have hi2 : i < (if f.2 < cap then f.2 + 1 else f.2) := hi
    rw [if_pos e] at hi2
    show in80 ((if f.2 < cap then upd f.1 f.2 x else f.1) i)
    rw [if_pos e]
    unfold upd
    by_cases q : i = f.2
    · rw [if_pos q]; exact hx
    · rw [if_neg q]; exact hf i (by omega)
  · have hi2 : i < (if f.2 < cap then f.2 + 1 else f.2) := hi
    rw [if_neg e] at hi2
    show in80 ((if f.2 < cap then upd f.1 f.2 x else f.1) i)
    rw [if_neg e]
    exact hf i hi2
theorem rg_pop {f : RV} (hf : ∀ i, i < f.2 → in80 (f.1 i)) : ∀ i, i < (popR f).2 → in80 ((popR f).1 i) := by
  intro i hi
  have hi2 : i < f.2 - 1 := hi
  exact hf i (by omega)
theorem rg_popV {f : RV} (hf : ∀ i, i < f.2 → in80 (f.1 i)) : in80 (popV f) := by
  unfold popV
  by_cases e : f.2 = 0
  · rw [if_pos e]; exact in80_0
  · rw [if_neg e]; exact hf _ (by omega)
theorem rg_perf {c m : Int32} {inp : RV} {v : SV} (ha : in80 v.2.2.2.2.1) (hf : ∀ i, i < v.2.2.1.2 → in80 (v.2.2.1.1 i)) (ha1 : in80 (v.2.2.2.2.1 + 1)) (hm : c = 16 ∨ c = 17 ∨ c = 18 → in80 m) : RgS (perfF c m inp v) := by
  unfold perfF
  refine R_ite (fun q => rg_at ha1 hf) (fun q0 => ?_)
  refine R_ite (fun q => rg_at ha1 hf) (fun q1 => ?_)
  refine R_ite (fun q => rg_at ha1 hf) (fun q2 => ?_)
  refine R_ite (fun q => rg_at ha1 hf) (fun q3 => ?_)
  refine R_ite (fun q => rg_at ha1 hf) (fun q4 => ?_)
  refine R_ite (fun q => rg_at ha1 hf) (fun q11 => ?_)
  refine R_ite (fun q => rg_at ha1 hf) (fun q12 => ?_)
  refine R_ite (fun q => rg_at ha1 hf) (fun q13 => ?_)
  refine R_ite (fun q => rg_at ha1 hf) (fun q14 => ?_)
  refine R_ite (fun q => rg_at ha1 hf) (fun q15 => ?_)
  refine R_ite (fun q => rg_at (hm (Or.inl q)) hf) (fun q16 => ?_)
  refine R_ite (fun q => rg_at (in_ite (hm (Or.inr (Or.inl q))) ha1) hf) (fun q17 => ?_)
  refine R_ite (fun q => rg_at (hm (Or.inr (Or.inr q))) (rg_push hf ha1)) (fun q18 => ?_)
  refine R_ite (fun q => rg_at (rg_popV hf) (rg_pop hf)) (fun q19 => ?_)
  refine R_ite (fun q => rg_at ha1 hf) (fun q20 => ?_)
  refine R_ite (fun q => rg_at ha1 hf) (fun q21 => ?_)
  refine R_ite (fun q => ⟨ha, hf⟩) (fun q22 => ?_)
  exact rg_at ha1 hf
theorem allows_80 {c x : Int32} (h : progAllows c x = true) (hc : c = 16 ∨ c = 17 ∨ c = 18) : in80 x := by
  have hc2 : ¬ (c = 12 ∨ c = 13) := by
    rintro (q | q)
    · rw [q] at hc; exact absurd hc (by decide)
    · rw [q] at hc; exact absurd hc (by decide)
  unfold progAllows at h
  rw [if_neg hc2, if_pos hc] at h
  by_cases h0 : x < 0
  · rw [decide_eq_true h0] at h
    exact absurd h (by simp)
  · by_cases h1 : 80 < x
    · rw [decide_eq_true h1] at h
      exact absurd h (by simp)
    · obtain ⟨j, hj, rfl⟩ := nI_of h0
      exact ⟨j, Nat.le_of_not_lt (fun y => h1 (show nI 80 < nI j from nI_lt y hj)), rfl⟩
def Allow (pc pn : RV) : Prop := ∀ j, j < pc.2 → progAllows (pc.1 j) (pn.1 j) = true
theorem rg_ch {pc pn inp : RV} {n : Nat} (hp : pc.2 ≤ 79) (h2 : pn.2 = pc.2) (hal : Allow pc pn) (hl : Live pc pn inp initS n) : ∀ j, j ≤ n → RgS (ch pc pn inp initS j) := by
  intro j
  induction j with
  | zero =>
    intro _
    exact ⟨in80_0, fun i hi => absurd (show i < 0 from hi) (Nat.not_lt_zero i)⟩
  | succ j ih =>
    intro hj
    obtain ⟨g1, g2⟩ := ih (by omega)
    obtain ⟨i, hi, e⟩ := ready_at (by omega) (hl j (by omega))
    show RgS (perfF (rowGet pc.1 pc.2 (ch pc pn inp initS j).2.2.2.2.1) (rowGet pn.1 pn.2 (ch pc pn inp initS j).2.2.2.2.1) inp (ch pc pn inp initS j))
    refine rg_perf g1 g2 (by rw [e, nI_1]; exact ⟨i + 1, by omega, rfl⟩) (fun q => ?_)
    rw [e, rowGet_nI hi (by omega)] at q
    rw [e, h2, rowGet_nI hi (by omega)]
    exact allows_80 (hal i hi) q
theorem ready_same {pc : RV} {w : SV} : (readyF pc w).1 = w.1 ∧ (readyF pc w).2.1 = w.2.1 ∧ (readyF pc w).2.2.1 = w.2.2.1 ∧ (readyF pc w).2.2.2.1 = w.2.2.2.1 ∧ (readyF pc w).2.2.2.2.1 = w.2.2.2.2.1 := by
  unfold readyF
  by_cases e : w.2.2.2.2.2.1 = 0
  · rw [if_pos e]; exact ⟨rfl, rfl, rfl, rfl, rfl⟩
  · rw [if_neg e]; exact ⟨rfl, rfl, rfl, rfl, rfl⟩
/-- the stack, and where it stands, of a state at the chain's -/
theorem atC_stack {pc : RV} {v w : SV} (h : AtC pc v w) : REq v.1 w.1 := by
  rcases h with h | h
  · exact h.1
  · have := h.1
    rwa [ready_same.1] at this
theorem atC_at {pc : RV} {v w : SV} (h : AtC pc v w) : v.2.2.2.2.1 = w.2.2.2.2.1 := by
  rcases h with h | h
  · exact h.at'
  · rw [h.at', ready_same.2.2.2.2]
/-- what is told of a state: where it stands, how many numbers and frames -/
theorem now_in {pc pn inp : RV} {x : RS} (hp : pc.2 ≤ 79) (h2 : pn.2 = pc.2) (hal : Allow pc pn) (h : Inv pc pn inp initS x) : in80 x.2.1.2.2.2.2.1 := by
  rw [atC_at h.2.2.1]
  exact (rg_ch hp h2 hal h.2.1 _ (Nat.le_refl _)).1
/-- what is told of the past -/
theorem past_in {pc pn inp : RV} {x : RS} (hp : pc.2 < 2 ^ 31) (h : Inv pc pn inp initS x) {j : Nat} (hj : j < x.2.2.1) : (∃ i, i < pc.2 ∧ x.2.2.2 j 0 = nI i) ∧ (∃ i, i ≤ 24 ∧ x.2.2.2 j 1 = nI i) ∧ ∃ i, i ≤ 8 ∧ x.2.2.2 j 4 = nI i := by
  obtain ⟨g, -⟩ := h.2.2.2 j hj
  have ok := okS_ch (pc := pc) (pn := pn) (inp := inp) okS_init j
  refine ⟨?_, ?_, ?_⟩
  · rw [g 0 (by decide)]
    unfold momC
    rw [desc_0]
    exact ready_at hp (h.2.1 j hj)
  · rw [g 1 (by decide)]
    unfold momC
    rw [desc_1]
    exact ⟨_, ok.1, rfl⟩
  · rw [g 4 (by decide)]
    unfold momC
    rw [desc_4]
    exact ⟨_, ok.2.2.1, rfl⟩
/-- who wrote a cell last did store -/
theorem past_stored {pc pn inp : RV} {x : RS} (hp : pc.2 < 2 ^ 31) (h : Inv pc pn inp initS x) {j i c : Nat} (hj : j < x.2.2.1) (hc : c < 12) (h8 : x.2.2.2 j 8 = nI c) (hi : i < pc.2) (h0 : x.2.2.2 j 0 = nI i) : pc.1 i = 13 ∨ pc.1 i = 15 := by
  obtain ⟨g, -⟩ := h.2.2.2 j hj
  have g0 := g 0 (by decide)
  have g8 := g 8 (by decide)
  unfold momC at g0 g8
  rw [desc_0] at g0
  have hne : ¬ x.2.2.2 j 8 = -1 := by
    rw [h8]
    intro q
    have := congrArg (fun z => decide (z < 0)) q
    rw [show decide (nI c < 0) = false from decide_eq_false (nI_pos (by omega))] at this
    exact absurd this (by decide)
  rw [g8] at hne
  have e := desc_8_code hne
  rw [← g0, h0, rowGet_nI hi hp] at e
  exact e
