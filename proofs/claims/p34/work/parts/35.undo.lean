/-! pure: back undoes a step -/
theorem topR_nI {r : RV} {k : Nat} (h : k < r.2) (hn : r.2 < 2 ^ 31) : topR r (nI k) = r.1 (r.2 - 1 - k) := by
  unfold topR
  rw [show nI r.2 - 1 - nI k = nI (r.2 - 1 - k) from by rw [show (1 : Int32) = nI 1 from rfl, pk_sub (show 1 ≤ r.2 by omega), pk_sub (show k ≤ r.2 - 1 by omega)]]
  exact rowGet_nI (by omega) hn
theorem putTop_nI {r : RV} {k : Nat} {x : Int32} (h : k < r.2) (hn : r.2 < 2 ^ 31) : putTopR r (nI k) x = (upd r.1 (r.2 - 1 - k) x, r.2) := by
  unfold putTopR
  rw [show nI r.2 - 1 - nI k = nI (r.2 - 1 - k) from by rw [show (1 : Int32) = nI 1 from rfl, pk_sub (show 1 ≤ r.2 by omega), pk_sub (show k ≤ r.2 - 1 by omega)]]
  rw [rowPut_nI (by omega) hn]
theorem putTop_out {r : RV} {k : Nat} {x : Int32} (h : r.2 ≤ k) (hk : k ≤ 1) : putTopR r (nI k) x = r := by
  obtain ⟨f, n⟩ := r
  have h' : n ≤ k := h
  have h3 : (n = 0 ∧ k = 0) ∨ (n = 0 ∧ k = 1) ∨ (n = 1 ∧ k = 1) := by omega
  rcases h3 with ⟨rfl, rfl⟩ | ⟨rfl, rfl⟩ | ⟨rfl, rfl⟩
  · show ((if nI 0 - 1 - nI 0 < 0 then f else _), 0) = (f, 0)
    rw [if_pos (by decide)]
  · show ((if nI 0 - 1 - nI 1 < 0 then f else _), 0) = (f, 0)
    rw [if_pos (by decide)]
  · show ((if nI 1 - 1 - nI 1 < 0 then f else _), 1) = (f, 1)
    rw [if_pos (by decide)]
theorem popV_top {r : RV} (hn : r.2 < 2 ^ 31) : popV r = topR r 0 := by
  unfold popV
  by_cases e : r.2 = 0
  · rw [if_pos e]
    unfold topR rowGet
    rw [e, if_pos (by decide)]
  · rw [if_neg e]
    exact (topR_nI (k := 0) (by omega) hn).symm
theorem res_nI {cap : Nat} {s s' : RV} (h : s.2 ≤ cap) (hc : cap < 2 ^ 31) : resR cap s' (nI s.2) = (s'.1, s.2) := by
  unfold resR
  rw [clampI_nI (by omega), Nat.min_eq_left h]
/-- t has at least s's places but k, and below the last d of s's places the same -/
def Near (d k : Nat) (s t : RV) : Prop := s.2 ≤ t.2 + k ∧ ∀ i, i + d < s.2 → t.1 i = s.1 i
theorem Near.rf {d : Nat} (s : RV) : Near d 0 s s := ⟨Nat.le_refl _, fun _ _ => rfl⟩
theorem Near.pop {d k : Nat} {s t : RV} (h : Near d k s t) : Near d (k + 1) s (popR t) := ⟨by have := h.1; show s.2 ≤ t.2 - 1 + (k + 1); omega, h.2⟩
theorem Near.le {d k k' : Nat} {s t : RV} (h : Near d k s t) (hk : k ≤ k') : Near d k' s t := ⟨Nat.le_trans h.1 (by omega), h.2⟩
theorem Near.push {d k cap : Nat} {s t : RV} {x : Int32} (h : Near d k s t) (hk : k ≤ d) : Near d k s (pushR cap t x) := by
  refine ⟨?_, fun i hi => ?_⟩
  · show s.2 ≤ (if t.2 < cap then t.2 + 1 else t.2) + k
    have := h.1
    split <;> omega
  · show (if t.2 < cap then upd t.1 t.2 x else t.1) i = s.1 i
    by_cases e : t.2 < cap
    · rw [if_pos e]
      unfold upd
      rw [if_neg (by have := h.1; omega)]
      exact h.2 i hi
    · rw [if_neg e]
      exact h.2 i hi
theorem restore2 {s s' : RV} (h24 : s.2 ≤ 24) (hs : ∀ i, i + 2 < s.2 → s'.1 i = s.1 i) : REq (putTopR (putTopR (resR 24 s' (nI s.2)) 0 (topR s 0)) 1 (topR s 1)) s := by
  rw [res_nI h24 (by decide)]
  show REq (putTopR (putTopR (s'.1, s.2) (nI 0) (topR s (nI 0))) (nI 1) (topR s (nI 1))) s
  by_cases h0 : s.2 = 0
  · rw [putTop_out (r := (s'.1, s.2)) (k := 0) (show s.2 ≤ 0 by omega) (by decide), putTop_out (r := (s'.1, s.2)) (k := 1) (show s.2 ≤ 1 by omega) (by decide)]
    exact ⟨rfl, fun i hi => absurd (show i < s.2 from hi) (by omega)⟩
  · rw [putTop_nI (r := (s'.1, s.2)) (k := 0) (show 0 < s.2 by omega) (show s.2 < 2 ^ 31 by omega), topR_nI (k := 0) (by omega) (by omega)]
    show REq (putTopR (upd s'.1 (s.2 - 1 - 0) (s.1 (s.2 - 1 - 0)), s.2) (nI 1) (topR s (nI 1))) s
    by_cases h1 : s.2 = 1
    · rw [putTop_out (r := (upd s'.1 (s.2 - 1 - 0) (s.1 (s.2 - 1 - 0)), s.2)) (k := 1) (show s.2 ≤ 1 by omega) (by decide)]
      refine ⟨rfl, fun i hi => ?_⟩
      have hi2 : i < s.2 := hi
      show upd s'.1 (s.2 - 1 - 0) (s.1 (s.2 - 1 - 0)) i = s.1 i
      unfold upd
      rw [if_pos (by omega), show s.2 - 1 - 0 = i by omega]
    · rw [putTop_nI (r := (upd s'.1 (s.2 - 1 - 0) (s.1 (s.2 - 1 - 0)), s.2)) (k := 1) (show 1 < s.2 by omega) (show s.2 < 2 ^ 31 by omega), topR_nI (k := 1) (by omega) (by omega)]
      refine ⟨rfl, fun i hi => ?_⟩
      have hi2 : i < s.2 := hi
      show upd (upd s'.1 (s.2 - 1 - 0) (s.1 (s.2 - 1 - 0))) (s.2 - 1 - 1) (s.1 (s.2 - 1 - 1)) i = s.1 i
      unfold upd
      by_cases e1 : i = s.2 - 1 - 1
      · rw [if_pos e1, ← e1]
      · rw [if_neg e1]
        by_cases e0 : i = s.2 - 1 - 0
        · rw [if_pos e0, ← e0]
        · rw [if_neg e0]
          exact hs i (by omega)
theorem restore1 {s s' : RV} (h8 : s.2 ≤ 8) (hs : ∀ i, i + 1 < s.2 → s'.1 i = s.1 i) : REq (putTopR (resR 8 s' (nI s.2)) 0 (topR s 0)) s := by
  rw [res_nI h8 (by decide)]
  show REq (putTopR (s'.1, s.2) (nI 0) (topR s (nI 0))) s
  by_cases h0 : s.2 = 0
  · rw [putTop_out (r := (s'.1, s.2)) (k := 0) (show s.2 ≤ 0 by omega) (by decide)]
    exact ⟨rfl, fun i hi => absurd (show i < s.2 from hi) (by omega)⟩
  · rw [putTop_nI (r := (s'.1, s.2)) (k := 0) (show 0 < s.2 by omega) (show s.2 < 2 ^ 31 by omega), topR_nI (k := 0) (by omega) (by omega)]
    refine ⟨rfl, fun i hi => ?_⟩
    have hi2 : i < s.2 := hi
    show upd s'.1 (s.2 - 1 - 0) (s.1 (s.2 - 1 - 0)) i = s.1 i
    unfold upd
    by_cases e0 : i = s.2 - 1 - 0
    · rw [if_pos e0, ← e0]
    · rw [if_neg e0]
      exact hs i (by omega)
theorem put_neg {c : RV} {y : Int32} : putR c (-1) y = c := by
  show ((if (-1 : Int32) < 0 then c.1 else _), c.2) = c
  rw [if_pos (by decide)]
theorem put_put {c : RV} {i y : Int32} : REq (putR (putR c i y) i (getR c i)) c := by
  refine ⟨rfl, fun j hj => ?_⟩
  have hj2 : j < c.2 := hj
  show rowPut (rowPut c.1 c.2 i y) c.2 i (rowGet c.1 c.2 i) j = c.1 j
  unfold rowPut rowGet
  by_cases h0 : i < 0
  · rw [if_pos h0, if_pos h0]
  · rw [if_neg h0, if_neg h0, if_neg h0]
    by_cases h1 : nI c.2 ≤ i
    · rw [if_pos h1, if_pos h1]
    · rw [if_neg h1, if_neg h1, if_neg h1]
      unfold upd
      by_cases e : j = i.toNatClampNeg
      · rw [if_pos e, e]
      · rw [if_neg e, if_neg e]
theorem P_ite {P : SV → Prop} {p : Prop} [Decidable p] {a b : SV} (ha : P a) (hb : P b) : P (if p then a else b) := by
  by_cases h : p
  · rw [if_pos h]; exact ha
  · rw [if_neg h]; exact hb
def NearS (v w : SV) : Prop := Near 2 2 v.1 w.1 ∧ Near 1 1 v.2.2.1 w.2.2.1 ∧ Near 0 0 v.2.2.2.1 w.2.2.2.1
theorem perf_near (c m : Int32) (inp : RV) (v : SV) : NearS v (perfF c m inp v) := by
  unfold perfF
  refine P_ite (P := NearS v) (⟨((Near.rf v.1).push (by decide)).le (by decide), (Near.rf v.2.2.1).le (by decide), Near.rf v.2.2.2.1⟩) ?_
  refine P_ite (P := NearS v) (⟨(Near.rf v.1).pop.le (by decide), (Near.rf v.2.2.1).le (by decide), Near.rf v.2.2.2.1⟩) ?_
  refine P_ite (P := NearS v) (⟨((Near.rf v.1).push (by decide)).le (by decide), (Near.rf v.2.2.1).le (by decide), Near.rf v.2.2.2.1⟩) ?_
  refine P_ite (P := NearS v) (⟨((Near.rf v.1).pop.pop.push (by decide)).push (by decide), (Near.rf v.2.2.1).le (by decide), Near.rf v.2.2.2.1⟩) ?_
  refine P_ite (P := NearS v) (⟨((Near.rf v.1).push (by decide)).le (by decide), (Near.rf v.2.2.1).le (by decide), Near.rf v.2.2.2.1⟩) ?_
  refine P_ite (P := NearS v) (⟨((Near.rf v.1).pop.push (by decide)).le (by decide), (Near.rf v.2.2.1).le (by decide), Near.rf v.2.2.2.1⟩) ?_
  refine P_ite (P := NearS v) (⟨((Near.rf v.1).push (by decide)).le (by decide), (Near.rf v.2.2.1).le (by decide), Near.rf v.2.2.2.1⟩) ?_
  refine P_ite (P := NearS v) (⟨(Near.rf v.1).pop.le (by decide), (Near.rf v.2.2.1).le (by decide), Near.rf v.2.2.2.1⟩) ?_
  refine P_ite (P := NearS v) (⟨((Near.rf v.1).pop.push (by decide)).le (by decide), (Near.rf v.2.2.1).le (by decide), Near.rf v.2.2.2.1⟩) ?_
  refine P_ite (P := NearS v) (⟨(Near.rf v.1).pop.pop, (Near.rf v.2.2.1).le (by decide), Near.rf v.2.2.2.1⟩) ?_
  refine P_ite (P := NearS v) (⟨(Near.rf v.1).le (by decide), (Near.rf v.2.2.1).le (by decide), Near.rf v.2.2.2.1⟩) ?_
  refine P_ite (P := NearS v) (⟨(Near.rf v.1).pop.le (by decide), (Near.rf v.2.2.1).le (by decide), Near.rf v.2.2.2.1⟩) ?_
  refine P_ite (P := NearS v) (⟨(Near.rf v.1).le (by decide), ((Near.rf v.2.2.1).push (by decide)).le (by decide), Near.rf v.2.2.2.1⟩) ?_
  refine P_ite (P := NearS v) (⟨(Near.rf v.1).le (by decide), (Near.rf v.2.2.1).pop, Near.rf v.2.2.2.1⟩) ?_
  refine P_ite (P := NearS v) (⟨((Near.rf v.1).push (by decide)).le (by decide), (Near.rf v.2.2.1).le (by decide), Near.rf v.2.2.2.1⟩) ?_
  refine P_ite (P := NearS v) (⟨(Near.rf v.1).pop.le (by decide), (Near.rf v.2.2.1).le (by decide), (Near.rf v.2.2.2.1).push (by decide)⟩) ?_
  refine P_ite (P := NearS v) (⟨(Near.rf v.1).le (by decide), (Near.rf v.2.2.1).le (by decide), Near.rf v.2.2.2.1⟩) ?_
  exact ⟨(Near.rf v.1).pop.pop.push (by decide), (Near.rf v.2.2.1).le (by decide), Near.rf v.2.2.2.1⟩
theorem perf_ck (c m : Int32) (inp : RV) (v : SV) : (perfF c m inp v).2.2.2.2.2.2.2 = v.2.2.2.2.2.2.2 + 1 := by
  unfold perfF
  refine P_ite (P := fun w => w.2.2.2.2.2.2.2 = v.2.2.2.2.2.2.2 + 1) (rfl) ?_
  refine P_ite (P := fun w => w.2.2.2.2.2.2.2 = v.2.2.2.2.2.2.2 + 1) (rfl) ?_
  refine P_ite (P := fun w => w.2.2.2.2.2.2.2 = v.2.2.2.2.2.2.2 + 1) (rfl) ?_
  refine P_ite (P := fun w => w.2.2.2.2.2.2.2 = v.2.2.2.2.2.2.2 + 1) (rfl) ?_
  refine P_ite (P := fun w => w.2.2.2.2.2.2.2 = v.2.2.2.2.2.2.2 + 1) (rfl) ?_
  refine P_ite (P := fun w => w.2.2.2.2.2.2.2 = v.2.2.2.2.2.2.2 + 1) (rfl) ?_
  refine P_ite (P := fun w => w.2.2.2.2.2.2.2 = v.2.2.2.2.2.2.2 + 1) (rfl) ?_
  refine P_ite (P := fun w => w.2.2.2.2.2.2.2 = v.2.2.2.2.2.2.2 + 1) (rfl) ?_
  refine P_ite (P := fun w => w.2.2.2.2.2.2.2 = v.2.2.2.2.2.2.2 + 1) (rfl) ?_
  refine P_ite (P := fun w => w.2.2.2.2.2.2.2 = v.2.2.2.2.2.2.2 + 1) (rfl) ?_
  refine P_ite (P := fun w => w.2.2.2.2.2.2.2 = v.2.2.2.2.2.2.2 + 1) (rfl) ?_
  refine P_ite (P := fun w => w.2.2.2.2.2.2.2 = v.2.2.2.2.2.2.2 + 1) (rfl) ?_
  refine P_ite (P := fun w => w.2.2.2.2.2.2.2 = v.2.2.2.2.2.2.2 + 1) (rfl) ?_
  refine P_ite (P := fun w => w.2.2.2.2.2.2.2 = v.2.2.2.2.2.2.2 + 1) (rfl) ?_
  refine P_ite (P := fun w => w.2.2.2.2.2.2.2 = v.2.2.2.2.2.2.2 + 1) (rfl) ?_
  refine P_ite (P := fun w => w.2.2.2.2.2.2.2 = v.2.2.2.2.2.2.2 + 1) (rfl) ?_
  refine P_ite (P := fun w => w.2.2.2.2.2.2.2 = v.2.2.2.2.2.2.2 + 1) (rfl) ?_
  exact rfl
theorem perf_cells_o {c m : Int32} {inp : RV} {v : SV} (h1 : ¬ c = 13) (h2 : ¬ c = 15) : (perfF c m inp v).2.1 = v.2.1 := by
  unfold perfF
  rw [if_neg h1, if_neg h2]
  refine P_ite (P := fun w => w.2.1 = v.2.1) (rfl) ?_
  refine P_ite (P := fun w => w.2.1 = v.2.1) (rfl) ?_
  refine P_ite (P := fun w => w.2.1 = v.2.1) (rfl) ?_
  refine P_ite (P := fun w => w.2.1 = v.2.1) (rfl) ?_
  refine P_ite (P := fun w => w.2.1 = v.2.1) (rfl) ?_
  refine P_ite (P := fun w => w.2.1 = v.2.1) (rfl) ?_
  refine P_ite (P := fun w => w.2.1 = v.2.1) (rfl) ?_
  refine P_ite (P := fun w => w.2.1 = v.2.1) (rfl) ?_
  refine P_ite (P := fun w => w.2.1 = v.2.1) (rfl) ?_
  refine P_ite (P := fun w => w.2.1 = v.2.1) (rfl) ?_
  refine P_ite (P := fun w => w.2.1 = v.2.1) (rfl) ?_
  refine P_ite (P := fun w => w.2.1 = v.2.1) (rfl) ?_
  refine P_ite (P := fun w => w.2.1 = v.2.1) (rfl) ?_
  refine P_ite (P := fun w => w.2.1 = v.2.1) (rfl) ?_
  refine P_ite (P := fun w => w.2.1 = v.2.1) (rfl) ?_
  exact rfl
theorem perf_cells_13 {m : Int32} {inp : RV} {v : SV} : (perfF 13 m inp v).2.1 = putR v.2.1 m (popV v.1) := rfl
theorem perf_cells_15 {m : Int32} {inp : RV} {v : SV} : (perfF 15 m inp v).2.1 = putR v.2.1 (popV v.1) (popV (popR v.1)) := rfl
theorem desc_0 {c m : Int32} {μ : Nat → Int32} {v : SV} : descM c m μ v 0 = v.2.2.2.2.1 := by
  unfold descM
  by_cases h : c = 13
  · rw [if_pos h]; rfl
  · rw [if_neg h]
    by_cases h2 : c = 15
    · rw [if_pos h2]; rfl
    · rw [if_neg h2]; rfl
theorem desc_1 {c m : Int32} {μ : Nat → Int32} {v : SV} : descM c m μ v 1 = nI v.1.2 := by
  unfold descM
  by_cases h : c = 13
  · rw [if_pos h]; rfl
  · rw [if_neg h]
    by_cases h2 : c = 15
    · rw [if_pos h2]; rfl
    · rw [if_neg h2]; rfl
theorem desc_2 {c m : Int32} {μ : Nat → Int32} {v : SV} : descM c m μ v 2 = topR v.1 0 := by
  unfold descM
  by_cases h : c = 13
  · rw [if_pos h]; rfl
  · rw [if_neg h]
    by_cases h2 : c = 15
    · rw [if_pos h2]; rfl
    · rw [if_neg h2]; rfl
theorem desc_3 {c m : Int32} {μ : Nat → Int32} {v : SV} : descM c m μ v 3 = topR v.1 1 := by
  unfold descM
  by_cases h : c = 13
  · rw [if_pos h]; rfl
  · rw [if_neg h]
    by_cases h2 : c = 15
    · rw [if_pos h2]; rfl
    · rw [if_neg h2]; rfl
theorem desc_4 {c m : Int32} {μ : Nat → Int32} {v : SV} : descM c m μ v 4 = nI v.2.2.1.2 := by
  unfold descM
  by_cases h : c = 13
  · rw [if_pos h]; rfl
  · rw [if_neg h]
    by_cases h2 : c = 15
    · rw [if_pos h2]; rfl
    · rw [if_neg h2]; rfl
theorem desc_5 {c m : Int32} {μ : Nat → Int32} {v : SV} : descM c m μ v 5 = topR v.2.2.1 0 := by
  unfold descM
  by_cases h : c = 13
  · rw [if_pos h]; rfl
  · rw [if_neg h]
    by_cases h2 : c = 15
    · rw [if_pos h2]; rfl
    · rw [if_neg h2]; rfl
theorem desc_6 {c m : Int32} {μ : Nat → Int32} {v : SV} : descM c m μ v 6 = v.2.2.2.2.2.2.1 := by
  unfold descM
  by_cases h : c = 13
  · rw [if_pos h]; rfl
  · rw [if_neg h]
    by_cases h2 : c = 15
    · rw [if_pos h2]; rfl
    · rw [if_neg h2]; rfl
theorem desc_7 {c m : Int32} {μ : Nat → Int32} {v : SV} : descM c m μ v 7 = nI v.2.2.2.1.2 := by
  unfold descM
  by_cases h : c = 13
  · rw [if_pos h]; rfl
  · rw [if_neg h]
    by_cases h2 : c = 15
    · rw [if_pos h2]; rfl
    · rw [if_neg h2]; rfl
theorem desc_8o {c m : Int32} {μ : Nat → Int32} {v : SV} (h1 : ¬ c = 13) (h2 : ¬ c = 15) : descM c m μ v 8 = -1 := by
  unfold descM
  rw [if_neg h1, if_neg h2]
  rfl
theorem undo {c m : Int32} {inp : RV} {μ : Nat → Int32} {v : SV} (hv : okS v) (h0 : v.2.2.2.2.2.1 = 0) : SEq (backF (descM c m μ v) (perfF c m inp v)) v := by
  obtain ⟨n1, n3, n4⟩ := perf_near c m inp v
  unfold backF
  rw [desc_0, desc_1, desc_2, desc_3, desc_4, desc_5, desc_6, desc_7, perf_ck]
  refine ⟨restore2 hv.1 n1.2, ?_, restore1 hv.2.2.1 n3.2, ?_, ?_⟩
  · show REq (putR (perfF c m inp v).2.1 (descM c m μ v 8) (descM c m μ v 9)) v.2.1
    by_cases h1 : c = 13
    · subst h1
      rw [perf_cells_13]
      exact put_put
    · by_cases h2 : c = 15
      · subst h2
        rw [perf_cells_15, popV_top (by have := hv.1; omega)]
        exact put_put
      · rw [perf_cells_o h1 h2, desc_8o h1 h2, put_neg]
        exact REq.rf _
  · show REq (resR 30 (perfF c m inp v).2.2.2.1 (nI v.2.2.2.1.2)) v.2.2.2.1
    rw [res_nI hv.2.2.2 (by decide)]
    exact ⟨rfl, fun i hi => n4.2 i hi⟩
  · show (v.2.2.2.2.1, (0 : Int32), v.2.2.2.2.2.2.1, v.2.2.2.2.2.2.2 + 1 - 1) = v.2.2.2.2
    rw [Int32.add_sub_cancel, ← h0]
/-- what counts of a moment -/
def MEq (μ μ' : Nat → Int32) : Prop := (∀ k, k < 9 → μ k = μ' k) ∧ (μ 8 = -1 ∨ μ 9 = μ' 9)
theorem resR_eq {cap k : Nat} {s s' : RV} (hs : REq s s') {x : Int32} (hx : clampI x cap ≤ s.2 + k) : ∀ i, i + k < (resR cap s x).2 → (resR cap s x).1 i = (resR cap s' x).1 i := fun i hi => hs.2 i (by have : i + k < clampI x cap := hi; omega)
