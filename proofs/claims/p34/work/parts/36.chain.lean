/-! pure: going back where pictures are alike; ready twice; the chain -/
theorem put2_eq {f f' : Nat → Int32} {n : Nat} (h : n < 2 ^ 31) (hs : ∀ i, i + 2 < n → f i = f' i) {y z : Int32} : REq (putTopR (putTopR (f, n) (nI 0) y) (nI 1) z) (putTopR (putTopR (f', n) (nI 0) y) (nI 1) z) := by
  by_cases h0 : n = 0
  · subst h0
    rw [putTop_out (r := (f, 0)) (k := 0) (Nat.le_refl 0) (by decide), putTop_out (r := (f', 0)) (k := 0) (Nat.le_refl 0) (by decide), putTop_out (r := (f, 0)) (k := 1) (Nat.zero_le 1) (by decide), putTop_out (r := (f', 0)) (k := 1) (Nat.zero_le 1) (by decide)]
    exact ⟨rfl, fun i hi => absurd hi (Nat.not_lt_zero i)⟩
  · rw [putTop_nI (r := (f, n)) (k := 0) (show 0 < n by omega) h, putTop_nI (r := (f', n)) (k := 0) (show 0 < n by omega) h]
    show REq (putTopR (upd f (n - 1 - 0) y, n) (nI 1) z) (putTopR (upd f' (n - 1 - 0) y, n) (nI 1) z)
    by_cases h1 : n = 1
    · rw [putTop_out (r := (upd f (n - 1 - 0) y, n)) (k := 1) (show n ≤ 1 by omega) (by decide), putTop_out (r := (upd f' (n - 1 - 0) y, n)) (k := 1) (show n ≤ 1 by omega) (by decide)]
      refine ⟨rfl, fun i hi => ?_⟩
      have hi2 : i < n := hi
      show upd f (n - 1 - 0) y i = upd f' (n - 1 - 0) y i
      unfold upd
      rw [if_pos (by omega), if_pos (by omega)]
    · rw [putTop_nI (r := (upd f (n - 1 - 0) y, n)) (k := 1) (show 1 < n by omega) h, putTop_nI (r := (upd f' (n - 1 - 0) y, n)) (k := 1) (show 1 < n by omega) h]
      refine ⟨rfl, fun i hi => ?_⟩
      have hi2 : i < n := hi
      show upd (upd f (n - 1 - 0) y) (n - 1 - 1) z i = upd (upd f' (n - 1 - 0) y) (n - 1 - 1) z i
      unfold upd
      by_cases e1 : i = n - 1 - 1
      · rw [if_pos e1, if_pos e1]
      · rw [if_neg e1, if_neg e1]
        by_cases e0 : i = n - 1 - 0
        · rw [if_pos e0, if_pos e0]
        · rw [if_neg e0, if_neg e0]
          exact hs i (by omega)
theorem put1_eq {f f' : Nat → Int32} {n : Nat} (h : n < 2 ^ 31) (hs : ∀ i, i + 1 < n → f i = f' i) {y : Int32} : REq (putTopR (f, n) (nI 0) y) (putTopR (f', n) (nI 0) y) := by
  by_cases h0 : n = 0
  · subst h0
    rw [putTop_out (r := (f, 0)) (k := 0) (Nat.le_refl 0) (by decide), putTop_out (r := (f', 0)) (k := 0) (Nat.le_refl 0) (by decide)]
    exact ⟨rfl, fun i hi => absurd hi (Nat.not_lt_zero i)⟩
  · rw [putTop_nI (r := (f, n)) (k := 0) (show 0 < n by omega) h, putTop_nI (r := (f', n)) (k := 0) (show 0 < n by omega) h]
    refine ⟨rfl, fun i hi => ?_⟩
    have hi2 : i < n := hi
    show upd f (n - 1 - 0) y i = upd f' (n - 1 - 0) y i
    unfold upd
    by_cases e0 : i = n - 1 - 0
    · rw [if_pos e0, if_pos e0]
    · rw [if_neg e0, if_neg e0]
      exact hs i (by omega)
theorem backF_eq {μ μ' : Nat → Int32} {u u' : SV} (h : SEq u u') (hμ : MEq μ μ') (k1 : clampI (μ 1) 24 ≤ u.1.2 + 2) (k4 : clampI (μ 4) 8 ≤ u.2.2.1.2 + 1) (k7 : clampI (μ 7) 30 ≤ u.2.2.2.1.2) : SEq (backF μ u) (backF μ' u') := by
  obtain ⟨g, g9⟩ := hμ
  unfold backF
  rw [← g 0 (by decide), ← g 1 (by decide), ← g 2 (by decide), ← g 3 (by decide), ← g 4 (by decide), ← g 5 (by decide), ← g 6 (by decide), ← g 7 (by decide), ← g 8 (by decide), ← h.ck]
  refine ⟨?_, ?_, ?_, ?_, rfl⟩
  · show REq (putTopR (putTopR (u.1.1, clampI (μ 1) 24) (nI 0) (μ 2)) (nI 1) (μ 3)) (putTopR (putTopR (u'.1.1, clampI (μ 1) 24) (nI 0) (μ 2)) (nI 1) (μ 3))
    exact put2_eq (Nat.lt_of_le_of_lt clampI_le (by decide)) (fun i hi => h.1.2 i (by omega))
  · show REq (putR u.2.1 (μ 8) (μ 9)) (putR u'.2.1 (μ 8) (μ' 9))
    rcases g9 with e | e
    · rw [e, put_neg, put_neg]
      exact h.2.1
    · exact putR_eq h.2.1 rfl e
  · show REq (putTopR (u.2.2.1.1, clampI (μ 4) 8) (nI 0) (μ 5)) (putTopR (u'.2.2.1.1, clampI (μ 4) 8) (nI 0) (μ 5))
    exact put1_eq (Nat.lt_of_le_of_lt clampI_le (by decide)) (fun i hi => h.2.2.1.2 i (by omega))
  · show REq (u.2.2.2.1.1, clampI (μ 7) 30) (u'.2.2.2.1.1, clampI (μ 7) 30)
    exact ⟨rfl, fun i hi => h.2.2.2.1.2 i (Nat.lt_of_lt_of_le hi k7)⟩
theorem desc_8_13 {m : Int32} {μ : Nat → Int32} {v : SV} : descM 13 m μ v 8 = m := rfl
theorem desc_8_15 {m : Int32} {μ : Nat → Int32} {v : SV} : descM 15 m μ v 8 = topR v.1 0 := rfl
theorem desc_9_13 {m : Int32} {μ : Nat → Int32} {v : SV} : descM 13 m μ v 9 = getR v.2.1 m := rfl
theorem desc_9_15 {m : Int32} {μ : Nat → Int32} {v : SV} : descM 15 m μ v 9 = getR v.2.1 (topR v.1 0) := rfl
theorem desc_MEq {c m : Int32} {μ μ' : Nat → Int32} {v v' : SV} (h : SEq v v') : MEq (descM c m μ v) (descM c m μ' v') := by
  have t0 : topR v.1 0 = topR v'.1 0 := topR_eq h.1 0
  have e8 : descM c m μ v 8 = descM c m μ' v' 8 := by
    by_cases h1 : c = 13
    · subst h1
      rw [desc_8_13, desc_8_13]
    · by_cases h2 : c = 15
      · subst h2
        rw [desc_8_15, desc_8_15, t0]
      · rw [desc_8o h1 h2, desc_8o h1 h2]
  refine ⟨fun k hk => ?_, ?_⟩
  · have hk2 : k = 0 ∨ k = 1 ∨ k = 2 ∨ k = 3 ∨ k = 4 ∨ k = 5 ∨ k = 6 ∨ k = 7 ∨ k = 8 := by omega
    rcases hk2 with rfl | rfl | rfl | rfl | rfl | rfl | rfl | rfl | rfl
    · rw [desc_0, desc_0]; exact h.at'
    · rw [desc_1, desc_1, h.1.1]
    · rw [desc_2, desc_2]; exact t0
    · rw [desc_3, desc_3]; exact topR_eq h.1 1
    · rw [desc_4, desc_4, h.2.2.1.1]
    · rw [desc_5, desc_5]; exact topR_eq h.2.2.1 0
    · rw [desc_6, desc_6]; exact h.rd
    · rw [desc_7, desc_7, h.2.2.2.1.1]
    · exact e8
  · by_cases h1 : c = 13
    · right
      subst h1
      rw [desc_9_13, desc_9_13]
      exact getR_eq h.2.1 m
    · by_cases h2 : c = 15
      · right
        subst h2
        rw [desc_9_15, desc_9_15, t0]
        exact getR_eq h.2.1 _
      · left
        exact desc_8o h1 h2
theorem ready_id {pc : RV} {w : SV} (h : (readyF pc w).2.2.2.2.2.1 = 0) : readyF pc w = w := by
  unfold readyF at h ⊢
  by_cases e : w.2.2.2.2.2.1 = 0
  · rw [if_pos e] at h ⊢
    obtain ⟨s, c, f, u, a, b, r, k⟩ := w
    have h' : failF pc (s, c, f, u, a, b, r, k) = 0 := h
    have e' : b = 0 := e
    rw [h', e']
  · rw [if_neg e]
theorem ready_0 {pc : RV} {w : SV} (h : (readyF pc w).2.2.2.2.2.1 = 0) : w.2.2.2.2.2.1 = 0 := by
  have e := ready_id h
  rw [e] at h
  exact h
theorem ready_out {pc : RV} {w : SV} (h : ¬ w.2.2.2.2.2.1 = 0) : readyF pc w = w := by
  unfold readyF
  rw [if_neg h]
theorem ready_idem {pc : RV} {w : SV} : readyF pc (readyF pc w) = readyF pc w := by
  by_cases h : (readyF pc w).2.2.2.2.2.1 = 0
  · rw [ready_id h]
    exact ready_id h
  · exact ready_out h
theorem back_ready {μ : Nat → Int32} {pc : RV} {w : SV} : backF μ (readyF pc w) = backF μ w := by
  unfold readyF
  by_cases e : w.2.2.2.2.2.1 = 0
  · rw [if_pos e]; rfl
  · rw [if_neg e]
/-- a step of a state that is ready -/
def stepV (pc pn inp : RV) (v : SV) : SV := perfF (rowGet pc.1 pc.2 v.2.2.2.2.1) (rowGet pn.1 pn.2 v.2.2.2.2.1) inp v
/-- the states from v on -/
def ch (pc pn inp : RV) (v : SV) : Nat → SV
  | 0 => v
  | j + 1 => stepV pc pn inp (ch pc pn inp v j)
theorem okS_ch {pc pn inp : RV} {v : SV} (h : okS v) : ∀ j, okS (ch pc pn inp v j)
  | 0 => h
  | j + 1 => okS_perf (okS_ch h j)
def Live (pc pn inp : RV) (v : SV) (n : Nat) : Prop := ∀ j, j < n → (readyF pc (ch pc pn inp v j)).2.2.2.2.2.1 = 0
/-- where one stands after n steps: at the chain's state, or at it once it was asked whether it's ready -/
def AtC (pc : RV) (v w : SV) : Prop := SEq v w ∨ SEq v (readyF pc w)
theorem AtC.ready {pc : RV} {v w : SV} (h : AtC pc v w) : SEq (readyF pc v) (readyF pc w) := by
  rcases h with h | h
  · exact readyF_eq h
  · have := readyF_eq (pc := pc) h
    rwa [ready_idem] at this
theorem stepV_eq {pc pn inp : RV} {v w : SV} (h : SEq v w) : SEq (stepV pc pn inp v) (stepV pc pn inp w) := perfF_eq (by rw [h.at']) (by rw [h.at']) h
/-- one step back, from the chain's next state to the state before -/
theorem back_ch {pc pn inp : RV} {v0 v : SV} {j : Nat} {μ μ0 : Nat → Int32} (hv0 : okS v0) (hl : (readyF pc (ch pc pn inp v0 j)).2.2.2.2.2.1 = 0) (h : AtC pc v (ch pc pn inp v0 (j + 1)))
    (hμ : MEq μ (descM (rowGet pc.1 pc.2 (ch pc pn inp v0 j).2.2.2.2.1) (rowGet pn.1 pn.2 (ch pc pn inp v0 j).2.2.2.2.1) μ0 (ch pc pn inp v0 j))) : SEq (backF μ v) (ch pc pn inp v0 j) := by
  have h0 := ready_0 hl
  have hw : okS (ch pc pn inp v0 j) := okS_ch hv0 j
  generalize hc : ch pc pn inp v0 j = w at h0 hw hμ
  have hn : ch pc pn inp v0 (j + 1) = perfF (rowGet pc.1 pc.2 w.2.2.2.2.1) (rowGet pn.1 pn.2 w.2.2.2.2.1) inp w := by rw [← hc]; rfl
  rw [hn] at h
  obtain ⟨n1, n3, n4⟩ := perf_near (rowGet pc.1 pc.2 w.2.2.2.2.1) (rowGet pn.1 pn.2 w.2.2.2.2.1) inp w
  refine SEq.tr ?_ (undo (c := rowGet pc.1 pc.2 w.2.2.2.2.1) (m := rowGet pn.1 pn.2 w.2.2.2.2.1) (inp := inp) (μ := μ0) hw h0)
  have b1 : clampI (μ 1) 24 ≤ (perfF (rowGet pc.1 pc.2 w.2.2.2.2.1) (rowGet pn.1 pn.2 w.2.2.2.2.1) inp w).1.2 + 2 := by
    rw [hμ.1 1 (by decide), desc_1, clampI_nI (by have := hw.1; omega)]
    exact Nat.le_trans (Nat.min_le_left _ _) n1.1
  have b4 : clampI (μ 4) 8 ≤ (perfF (rowGet pc.1 pc.2 w.2.2.2.2.1) (rowGet pn.1 pn.2 w.2.2.2.2.1) inp w).2.2.1.2 + 1 := by
    rw [hμ.1 4 (by decide), desc_4, clampI_nI (by have := hw.2.2.1; omega)]
    exact Nat.le_trans (Nat.min_le_left _ _) n3.1
  have b7 : clampI (μ 7) 30 ≤ (perfF (rowGet pc.1 pc.2 w.2.2.2.2.1) (rowGet pn.1 pn.2 w.2.2.2.2.1) inp w).2.2.2.1.2 := by
    rw [hμ.1 7 (by decide), desc_7, clampI_nI (by have := hw.2.2.2; omega)]
    exact Nat.le_trans (Nat.min_le_left _ _) n4.1
  rcases h with h | h
  · exact backF_eq h hμ (by rw [h.1.1]; exact b1) (by rw [h.2.2.1.1]; exact b4) (by rw [h.2.2.2.1.1]; exact b7)
  · have e := back_ready (μ := descM (rowGet pc.1 pc.2 w.2.2.2.2.1) (rowGet pn.1 pn.2 w.2.2.2.2.1) μ0 w) (pc := pc) (w := perfF (rowGet pc.1 pc.2 w.2.2.2.2.1) (rowGet pn.1 pn.2 w.2.2.2.2.1) inp w)
    rw [← e]
    have q1 : ∀ x : SV, (readyF pc x).1 = x.1 ∧ (readyF pc x).2.2.1 = x.2.2.1 ∧ (readyF pc x).2.2.2.1 = x.2.2.2.1 := fun x => by
      unfold readyF
      by_cases q : x.2.2.2.2.2.1 = 0
      · rw [if_pos q]; exact ⟨rfl, rfl, rfl⟩
      · rw [if_neg q]; exact ⟨rfl, rfl, rfl⟩
    exact backF_eq h hμ (by rw [h.1.1, (q1 _).1]; exact b1) (by rw [h.2.2.1.1, (q1 _).2.1]; exact b4) (by rw [h.2.2.2.1.1, (q1 _).2.2]; exact b7)
