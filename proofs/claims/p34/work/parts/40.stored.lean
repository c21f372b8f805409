/-! pure: when a cell was last written -/
theorem stored_cases (M : Nat → Nat → Int32) (cnt : Nat) (c : Int32) : ∀ d, (storedD M cnt c d = 0 ∧ ∀ i, i < d → ¬ M i 8 = c) ∨ ∃ e, e < d ∧ M e 8 = c ∧ storedD M cnt c d = nI (cnt - e) ∧ ∀ i, e < i → i < d → ¬ M i 8 = c := by
  intro d
  induction d with
  | zero => exact Or.inl ⟨rfl, fun i hi => absurd hi (Nat.not_lt_zero i)⟩
  | succ d ih =>
    by_cases h : M d 8 = c
    · refine Or.inr ⟨d, Nat.lt_succ_self d, h, ?_, fun i h1 h2 => absurd h2 (by omega)⟩
      show (if M d 8 = c then nI (cnt - d) else storedD M cnt c d) = nI (cnt - d)
      rw [if_pos h]
    · have e : storedD M cnt c (d + 1) = storedD M cnt c d := by
        show (if M d 8 = c then nI (cnt - d) else storedD M cnt c d) = storedD M cnt c d
        rw [if_neg h]
      rw [e]
      rcases ih with ⟨a, b⟩ | ⟨q, h1, h2, h3, h4⟩
      · refine Or.inl ⟨a, fun i hi => ?_⟩
        by_cases z : i = d
        · rw [z]; exact h
        · exact b i (by omega)
      · refine Or.inr ⟨q, by omega, h2, h3, fun i g1 g2 => ?_⟩
        by_cases z : i = d
        · rw [z]; exact h
        · exact h4 i g1 (by omega)
theorem stored_eq {M M' : Nat → Nat → Int32} {cnt : Nat} {c : Int32} : ∀ d, (∀ i, i < d → M i 8 = M' i 8) → storedD M cnt c d = storedD M' cnt c d := by
  intro d
  induction d with
  | zero => intro _; rfl
  | succ d ih =>
    intro h
    show (if M d 8 = c then nI (cnt - d) else storedD M cnt c d) = (if M' d 8 = c then nI (cnt - d) else storedD M' cnt c d)
    rw [h d (Nat.lt_succ_self d), ih (fun i hi => h i (Nat.lt_succ_of_lt hi))]
theorem cellAgo_now {M : Nat → Nat → Int32} {cnt : Nat} {c now : Int32} : ∀ g, (∀ j, 1 ≤ j → j ≤ g → ¬ M (cnt - j) 8 = c) → cellAgoF M cnt c g now = now := by
  intro g
  induction g with
  | zero => intro _; rfl
  | succ g ih =>
    intro h
    show (if M (cnt - (g + 1)) 8 = c then M (cnt - (g + 1)) 9 else cellAgoF M cnt c g now) = now
    rw [if_neg (h (g + 1) (by omega) (Nat.le_refl _))]
    exact ih (fun j h1 h2 => h j h1 (by omega))
theorem desc_8_code {c m : Int32} {μ : Nat → Int32} {v : SV} (h : ¬ descM c m μ v 8 = -1) : c = 13 ∨ c = 15 := by
  by_cases h1 : c = 13
  · exact Or.inl h1
  · by_cases h2 : c = 15
    · exact Or.inr h2
    · exact absurd (desc_8o h1 h2) h
