/-! pure: how often the steps were done; the mean -/
theorem has_ex {n : Nat} {i : Int32} (h : rowHas n i = true) (hn : n < 2 ^ 31) : ∃ j, j < n ∧ i = nI j := by
  unfold rowHas at h
  by_cases h0 : i < 0
  · rw [decide_eq_true h0] at h
    exact absurd h (by simp)
  · by_cases h1 : nI n ≤ i
    · rw [decide_eq_true h1] at h
      exact absurd h (by simp)
    · obtain ⟨j, hj, rfl⟩ := nI_of h0
      exact ⟨j, Nat.lt_of_not_le (fun y => h1 (nI_le y hj)), rfl⟩
theorem fail_has {pc : RV} {v : SV} (h : failF pc v = 0) : rowHas pc.2 v.2.2.2.2.1 = true := by
  unfold failF at h
  by_cases e : rowHas pc.2 v.2.2.2.2.1 = false
  · rw [if_pos e] at h
    exact absurd h (by decide)
  · cases q : rowHas pc.2 v.2.2.2.2.1 with
    | true => rfl
    | false => exact absurd q e
theorem ready_fail {pc : RV} {v : SV} (h : (readyF pc v).2.2.2.2.2.1 = 0) : failF pc v = 0 := by
  have h0 := ready_0 h
  unfold readyF at h
  rw [if_pos h0] at h
  exact h
/-- a state that is ready stands at a step of the program -/
theorem ready_at {pc : RV} {v : SV} (hp : pc.2 < 2 ^ 31) (h : (readyF pc v).2.2.2.2.2.1 = 0) : ∃ j, j < pc.2 ∧ v.2.2.2.2.1 = nI j := has_ex (fail_has (ready_fail h)) hp
def sumN (τ : Nat → Nat) : Nat → Nat
  | 0 => 0
  | n + 1 => sumN τ n + τ n
def cntN (τ : Nat → Nat) : Nat → Nat
  | 0 => 0
  | n + 1 => if τ n = 0 then cntN τ n else cntN τ n + 1
theorem sumN_upd {τ : Nat → Nat} {i : Nat} : ∀ n, sumN (fun j => if j = i then τ i + 1 else τ j) n = if i < n then sumN τ n + 1 else sumN τ n
  | 0 => by rw [if_neg (Nat.not_lt_zero i)]; rfl
  | n + 1 => by
    have ih := sumN_upd (τ := τ) (i := i) n
    show sumN (fun j => if j = i then τ i + 1 else τ j) n + (if n = i then τ i + 1 else τ n) = if i < n + 1 then sumN τ n + τ n + 1 else sumN τ n + τ n
    rw [ih]
    by_cases e : n = i
    · subst e
      rw [if_neg (Nat.lt_irrefl n), if_pos rfl, if_pos (Nat.lt_succ_self n)]
      omega
    · rw [if_neg e]
      by_cases h : i < n
      · rw [if_pos h, if_pos (by omega)]; omega
      · rw [if_neg h, if_neg (by omega)]
theorem sumN_le {τ : Nat → Nat} : ∀ n i, i < n → τ i ≤ sumN τ n
  | 0, i, h => absurd h (Nat.not_lt_zero i)
  | n + 1, i, h => by
    show τ i ≤ sumN τ n + τ n
    by_cases e : i = n
    · subst e; omega
    · have := sumN_le (τ := τ) n i (by omega)
      omega
theorem sumN_mono {τ : Nat → Nat} : ∀ n i, i ≤ n → sumN τ i ≤ sumN τ n
  | 0, i, h => by rw [show i = 0 by omega]; exact Nat.le_refl _
  | n + 1, i, h => by
    by_cases e : i = n + 1
    · rw [e]; exact Nat.le_refl _
    · have := sumN_mono (τ := τ) n i (by omega)
      show sumN τ i ≤ sumN τ n + τ n
      omega
theorem cntN_le {τ : Nat → Nat} : ∀ n, cntN τ n ≤ n
  | 0 => Nat.le_refl _
  | n + 1 => by
    have := cntN_le (τ := τ) n
    show (if τ n = 0 then cntN τ n else cntN τ n + 1) ≤ n + 1
    by_cases e : τ n = 0
    · rw [if_pos e]; omega
    · rw [if_neg e]; omega
theorem cntN_0 {τ : Nat → Nat} {n : Nat} (h : τ n = 0) : cntN τ (n + 1) = cntN τ n := by
  show (if τ n = 0 then cntN τ n else cntN τ n + 1) = cntN τ n
  rw [if_pos h]
theorem cntN_1 {τ : Nat → Nat} {n : Nat} (h : ¬ τ n = 0) : cntN τ (n + 1) = cntN τ n + 1 := by
  show (if τ n = 0 then cntN τ n else cntN τ n + 1) = cntN τ n + 1
  rw [if_neg h]
/-- the times of the np steps are tot in all -/
def TimesOk (np tot : Nat) (ft : Nat → Int32) : Prop := ∃ τ : Nat → Nat, (∀ i, i < np → ft i = nI (τ i)) ∧ sumN τ np = tot
theorem step_times {pc pn inp : RV} {x : RS} {tot : Nat} (hp : pc.2 < 2 ^ 31) (hr : (readyF pc x.2.1).2.2.2.2.2.1 = 0) (h : TimesOk pc.2 tot x.1) : TimesOk pc.2 (tot + 1) (stepR pc pn inp x).1 := by
  obtain ⟨i, hi, e⟩ := ready_at hp hr
  obtain ⟨τ, h1, h2⟩ := h
  have e1 : (stepR pc pn inp x).1 = upd x.1 i (x.1 i + 1) := by
    show rowPut x.1 pc.2 (readyF pc x.2.1).2.2.2.2.1 (rowGet x.1 pc.2 (readyF pc x.2.1).2.2.2.2.1 + 1) = _
    rw [ready_id hr, e, rowGet_nI hi hp, rowPut_nI hi hp]
  rw [e1]
  refine ⟨fun j => if j = i then τ i + 1 else τ j, fun j hj => ?_, ?_⟩
  · show upd x.1 i (x.1 i + 1) j = nI (if j = i then τ i + 1 else τ j)
    unfold upd
    by_cases q : j = i
    · rw [if_pos q, if_pos q, h1 i hi, nI_1]
    · rw [if_neg q, if_neg q, h1 j hj]
  · rw [sumN_upd, if_pos hi, h2]
theorem run_times {pc pn inp : RV} {hit : SV → Bool} (hp : pc.2 < 2 ^ 31) : ∀ (k : Nat) (x : RS) (tot : Nat), TimesOk pc.2 tot x.1 → TimesOk pc.2 (tot + (runR pc pn inp hit k x).1) (runR pc pn inp hit k x).2.1.1 := by
  intro k
  induction k with
  | zero => intro x tot h; exact h
  | succ k ih =>
    intro x tot h
    by_cases hr : (readyF pc x.2.1).2.2.2.2.2.1 = 0
    · have g := step_times (pn := pn) (inp := inp) hp hr h
      by_cases h1 : (stepR pc pn inp x).2.1.2.2.2.2.2.1 = 1
      · rw [runR_halt hr h1]
        exact g
      · by_cases h2 : hit (stepR pc pn inp x).2.1 = true
        · rw [runR_hit hr h1 h2]
          exact g
        · rw [runR_go hr h1 (by cases q : hit (stepR pc pn inp x).2.1 with | true => exact absurd q h2 | false => rfl)]
          have e := ih (stepR pc pn inp x) (tot + 1) g
          rw [show tot + 1 + (runR pc pn inp hit k (stepR pc pn inp x)).1 = tot + ((runR pc pn inp hit k (stepR pc pn inp x)).1 + 1) by omega] at e
          exact e
    · rw [runR_stop hr]
      exact h
theorem zero_times {np : Nat} {ft : Nat → Int32} (h : ∀ i, i < np → ft i = 0) : TimesOk np 0 ft := by
  refine ⟨fun _ => 0, fun i hi => (h i hi).trans nI_0.symm, ?_⟩
  have : ∀ n, sumN (fun _ => 0) n = 0 := by
    intro n
    induction n with
    | zero => rfl
    | succ n ih => show sumN (fun _ => 0) n + 0 = 0; rw [ih]
  exact this np
theorem heat_eq {np : Nat} {ft : Nat → Int32} {τ : Nat → Nat} (h : ∀ i, i < np → ft i = nI (τ i)) (hb : sumN τ np < 2 ^ 31) : ∀ i, i ≤ np → heatA ft i = (nI (cntN τ i), nI (sumN τ i)) := by
  intro i
  induction i with
  | zero =>
    intro _
    show ((0 : Int32), (0 : Int32)) = (nI 0, nI 0)
    rw [nI_0]
  | succ i ih =>
    intro hi
    have e := h i (by omega)
    have l := sumN_le (τ := τ) np i (by omega)
    by_cases z : τ i = 0
    · rw [heatA_no (by rw [e, z]; decide +kernel), ih (by omega), cntN_0 z]
      show _ = (nI (cntN τ i), nI (sumN τ i + τ i))
      rw [z, Nat.add_zero]
    · rw [heatA_yes (by rw [e]; exact nI_nle (by omega) (by omega)), ih (by omega), cntN_1 z]
      show (nI (cntN τ i) + 1, nI (sumN τ i) + ft i) = (nI (cntN τ i + 1), nI (sumN τ i + τ i))
      rw [nI_1, e, nI_add]
def fpB (b a : Nat) : Bool := b == 0 || (decide (FP.ddiv (FP.i2d (nI a)) (FP.i2d (nI b)) &&& 0x7fffffffffffffff ≤ 0x7ff0000000000000) && decide (Op.cmpValue (FP.dcmp (FP.ddiv (FP.i2d (nI a)) (FP.i2d (nI b))) (FP.ddiv (FP.i2d (nI a)) (FP.i2d (nI b)))) .l = 0))
set_option maxRecDepth 100000 in
theorem fp_tab : (List.range 32).all (fun b => (List.range 289).all (fun a => fpB b a)) = true := by decide +kernel
theorem fp_ok {b a : Nat} (h0 : 0 < b) (hb : b < 32) (ha : a < 289) : vf_n64 (FP.ddiv (FP.i2d (nI a)) (FP.i2d (nI b))) ∧ Op.cmpValue (FP.dcmp (FP.ddiv (FP.i2d (nI a)) (FP.i2d (nI b))) (FP.ddiv (FP.i2d (nI a)) (FP.i2d (nI b)))) .l = 0 := by
  have h1 := List.all_eq_true.mp fp_tab b (List.mem_range.mpr hb)
  have h2 := List.all_eq_true.mp h1 a (List.mem_range.mpr ha)
  have h3 : fpB b a = true := h2
  unfold fpB at h3
  rw [show (b == 0) = false from by rw [beq_eq_false_iff_ne]; omega, Bool.false_or, Bool.and_eq_true] at h3
  exact ⟨by unfold vf_n64; exact of_decide_eq_true h3.1, of_decide_eq_true h3.2⟩
theorem fp_zero : Op.cmpValue (FP.dcmp 0 0) .l = 0 := by decide +kernel
