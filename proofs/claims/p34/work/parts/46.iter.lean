/-! pure: one round of the law's loop, playing again, the last run -/
theorem try_full {pc pn inp : RV} : ∀ (k : Nat) (v : SV), 1 ≤ k → (tryF pc pn inp k v).1 = k → (tryF pc pn inp k v).2.2.2.2.2.2.1 = 0 ∨ (tryF pc pn inp k v).2.2.2.2.2.2.1 = 1 := by
  intro k
  induction k with
  | zero => intro v h; exact absurd h (by decide)
  | succ k ih =>
    intro v _ h
    by_cases hr : (readyF pc v).2.2.2.2.2.1 = 0
    · rw [tryF_go hr] at h ⊢
      have ps := perf_status (rowGet pc.1 pc.2 (readyF pc v).2.2.2.2.1) (rowGet pn.1 pn.2 (readyF pc v).2.2.2.2.1) inp (readyF pc v)
      generalize hw : perfF (rowGet pc.1 pc.2 (readyF pc v).2.2.2.2.1) (rowGet pn.1 pn.2 (readyF pc v).2.2.2.2.1) inp (readyF pc v) = w at h ps ⊢
      have h' : (tryF pc pn inp k w).1 + 1 = k + 1 := h
      show (tryF pc pn inp k w).2.2.2.2.2.2.1 = 0 ∨ (tryF pc pn inp k w).2.2.2.2.2.2.1 = 1
      by_cases hk : k = 0
      · subst hk
        show w.2.2.2.2.2.1 = 0 ∨ w.2.2.2.2.2.1 = 1
        rcases ps with q | q
        · exact Or.inl (q.trans hr)
        · exact Or.inr q
      · exact ih w (by omega) (by omega)
    · rw [tryF_stop hr] at h
      exact absurd (show 0 = k + 1 from h) (by omega)
def noHit : SV → Bool := fun _ => false
theorem iter_run {fc fn fi ft : Nat → Int32} {np ni k cnt tot : Nat} {v : SV} {M : Nat → Nat → Int32} (hp : np < 32) (h : Inv (fc, np) (fn, np) (fi, ni) initS (ft, v, cnt, M)) (ht : TimesOk np tot ft) (hk : 1 ≤ k) :
    ∃ (came : Nat) (ft1 : Nat → Int32) (v1 : SV) (M1 : Nat → Nat → Int32) (r1 : Int32), runR (fc, np) (fn, np) (fi, ni) (fun _ => false) k (ft, v, cnt, M) = (came, (ft1, v1, cnt + came, M1), r1) ∧ Inv (fc, np) (fn, np) (fi, ni) initS (ft1, v1, cnt + came, M1) ∧ TimesOk np (tot + came) ft1 ∧ came ≤ k ∧ tryF (fc, np) (fn, np) (fi, ni) k v = (came, v1) ∧ r1 = rsn v1.2.2.2.2.2.1 ∧ (came < k → ¬ v1.2.2.2.2.2.1 = 0) ∧ (came = k → v1.2.2.2.2.2.1 = 0 ∨ v1.2.2.2.2.2.1 = 1) ∧ (¬ v.2.2.2.2.2.1 = 0 → came = 0) := by
  have a1 := inv_run (hit := fun _ => false) k h
  have a2 := run_cnt (pc := (fc, np)) (pn := (fn, np)) (inp := (fi, ni)) (hit := fun _ => false) k (ft, v, cnt, M)
  have a3 := run_times (pc := (fc, np)) (pn := (fn, np)) (inp := (fi, ni)) (hit := fun _ => false) (show np < 2 ^ 31 by omega) k (ft, v, cnt, M) tot ht
  have a4 := run_try (pc := (fc, np)) (pn := (fn, np)) (inp := (fi, ni)) (hit := fun _ => false) (fun _ => rfl) k (ft, v, cnt, M)
  have a5 := run_reason (pc := (fc, np)) (pn := (fn, np)) (inp := (fi, ni)) (hit := fun _ => false) (fun _ => rfl) k (ft, v, cnt, M) (fun q => absurd q (by omega))
  have a6 : ¬ v.2.2.2.2.2.1 = 0 → (runR (fc, np) (fn, np) (fi, ni) (fun _ => false) k (ft, v, cnt, M)).1 = 0 := fun q => run_out (x := (ft, v, cnt, M)) q k
  have a7 := try_full (pc := (fc, np)) (pn := (fn, np)) (inp := (fi, ni)) k v hk
  generalize hX : runR (fc, np) (fn, np) (fi, ni) (fun _ => false) k (ft, v, cnt, M) = X at a1 a2 a3 a4 a5 a6
  generalize hY : tryF (fc, np) (fn, np) (fi, ni) k v = Y at a7
  obtain ⟨came, ⟨ft1, v1, n1, M1⟩, r1⟩ := X
  obtain ⟨y1, y2⟩ := Y
  have b1 : n1 = cnt + came := a2.1
  subst b1
  have b2 : came = y1 ∧ v1 = y2 := by
    have e1 : came = (tryF (fc, np) (fn, np) (fi, ni) k v).1 := a4.1
    have e2 : v1 = (tryF (fc, np) (fn, np) (fi, ni) k v).2 := a4.2
    rw [hY] at e1 e2
    exact ⟨e1, e2⟩
  obtain ⟨rfl, rfl⟩ := b2
  exact ⟨came, ft1, v1, M1, r1, rfl, a1, a3, a2.2, rfl, a5.1, a5.2, a7, a6⟩
theorem ends_lt {k came : Nat} {v1 : SV} (hk : k < 2 ^ 31) (h1 : came ≤ k) (h2 : came < k → ¬ v1.2.2.2.2.2.1 = 0) (h3 : came = k → v1.2.2.2.2.2.1 = 0 ∨ v1.2.2.2.2.2.1 = 1) : (endsV k (came, v1) < 0 → came = k ∧ v1.2.2.2.2.2.1 = 0) ∧ (¬ endsV k (came, v1) < 0 → endsV k (came, v1) = nI came ∧ ¬ v1.2.2.2.2.2.1 = 0) := by
  by_cases c : came < k
  · have e : endsV k (came, v1) = nI came := by
      unfold endsV
      show (if nI came < nI k then nI came else _) = nI came
      rw [if_pos (nI_lt c hk)]
    rw [e]
    exact ⟨fun q => absurd q (nI_pos (by omega)), fun _ => ⟨rfl, h2 c⟩⟩
  · have ek : came = k := by omega
    have hn : ¬ nI came < nI k := nI_nlt (by omega) (by omega)
    by_cases s1 : v1.2.2.2.2.2.1 = 1
    · have e : endsV k (came, v1) = nI came := by
        unfold endsV
        show (if nI came < nI k then nI came else if v1.2.2.2.2.2.1 = 1 then nI came else -1) = nI came
        rw [if_neg hn, if_pos s1]
      rw [e]
      exact ⟨fun q => absurd q (nI_pos (by omega)), fun _ => ⟨rfl, by rw [s1]; decide⟩⟩
    · have e : endsV k (came, v1) = -1 := by
        unfold endsV
        show (if nI came < nI k then nI came else if v1.2.2.2.2.2.1 = 1 then nI came else -1) = -1
        rw [if_neg hn, if_neg s1]
      rw [e]
      exact ⟨fun _ => ⟨ek, (h3 ek).elim id (fun q => absurd q s1)⟩, fun q => absurd (show (-1 : Int32) < 0 by decide) q⟩
theorem inv_8 {pc pn inp : RV} {ft ft' : Nat → Int32} {v v' : SV} {n : Nat} {M M' : Nat → Nat → Int32} (h : Inv pc pn inp initS (ft, v, n, M)) (h' : Inv pc pn inp initS (ft', v', n, M')) : ∀ i, i < n → M i 8 = M' i 8 := fun i hi => ((h.2.2.2 i hi).1 8 (by decide)).trans ((h'.2.2.2 i hi).1 8 (by decide)).symm
theorem inv_stack {pc pn inp : RV} {ft ft' : Nat → Int32} {v v' : SV} {n : Nat} {M M' : Nat → Nat → Int32} (h : Inv pc pn inp initS (ft, v, n, M)) (h' : Inv pc pn inp initS (ft', v', n, M')) : REq v.1 v'.1 := (atC_stack h.2.2.1).tr (atC_stack h'.2.2.1).sy
theorem iter_back {fc fn fi ft1 : Nat → Int32} {np ni b n tot : Nat} {v1 : SV} {M1 : Nat → Nat → Int32} (hp : np < 32) (h : Inv (fc, np) (fn, np) (fi, ni) initS (ft1, v1, n, M1)) (ht : TimesOk np tot ft1) (hb1 : 1 ≤ b) (hb : b ≤ n) :
    okS (backN M1 n v1 b) ∧ (backN M1 n v1 b).2.2.2.2.2.2.2 = nI (n - b) ∧ (backN M1 n v1 b).2.2.2.2.2.1 = 0 ∧ ∃ (ft2 : Nat → Int32) (v2 : SV) (M2 : Nat → Nat → Int32) (r2 : Int32), runR (fc, np) (fn, np) (fi, ni) (fun _ => false) b (ft1, backN M1 n v1 b, n - b, M1) = (b, (ft2, v2, n, M2), r2) ∧ Inv (fc, np) (fn, np) (fi, ni) initS (ft2, v2, n, M2) ∧ TimesOk np (tot + b) ft2 ∧ (v1.2.2.2.2.2.1 < 2 → SEq v1 v2) := by
  obtain ⟨g1, g2⟩ := inv_backN okS_init h b hb
  have g3 := g2 hb1
  have hl : ∀ j, j < b → (readyF (fc, np) (ch (fc, np) (fn, np) (fi, ni) initS (n - b + j))).2.2.2.2.2.1 = 0 := fun j hj => h.2.1 _ (show n - b + j < n by omega)
  refine ⟨g1.1, inv_ck (x := (ft1, backN M1 n v1 b, n - b, M1)) rfl g1, g3.status.trans (ready_0 (by have := hl 0 (by omega); rwa [Nat.add_zero] at this)), ?_⟩
  have a1 := inv_run (hit := fun _ => false) b g1
  have a2 := run_cnt (pc := (fc, np)) (pn := (fn, np)) (inp := (fi, ni)) (hit := fun _ => false) b (ft1, backN M1 n v1 b, n - b, M1)
  have a3 := run_times (pc := (fc, np)) (pn := (fn, np)) (inp := (fi, ni)) (hit := fun _ => false) (show np < 2 ^ 31 by omega) b (ft1, backN M1 n v1 b, n - b, M1) tot ht
  have a4 := run_live (hit := fun _ => false) (fun _ => rfl) b (n - b) (ft1, backN M1 n v1 b, n - b, M1) g3 hl
  generalize hX : runR (fc, np) (fn, np) (fi, ni) (fun _ => false) b (ft1, backN M1 n v1 b, n - b, M1) = X at a1 a2 a3 a4
  obtain ⟨came, ⟨ft2, v2, n2, M2⟩, r2⟩ := X
  have b0 : came = b := a4.1
  subst b0
  have b1 : n2 = n - came + came := a2.1
  rw [show n - came + came = n by omega] at b1
  subst b1
  have s2 : SEq v2 (ch (fc, np) (fn, np) (fi, ni) initS (n2 - came + came)) := a4.2
  rw [show n2 - came + came = n2 by omega] at s2
  exact ⟨ft2, v2, M2, r2, rfl, a1, a3, fun q => (atC_lt h.2.2.1 q).tr s2.sy⟩
/-- a record played again -/
theorem iter_play {fc fn fi ft ft0 : Nat → Int32} {np ni n : Nat} {v : SV} {M : Nat → Nat → Int32} {inp' : RV} (hi : REq inp' (fi, ni)) (h : Inv (fc, np) (fn, np) (fi, ni) initS (ft, v, n, M)) :
    ∃ (ft2 : Nat → Int32) (v2 : SV) (M2 : Nat → Nat → Int32), playR (fc, np) (fn, np) inp' n (ft0, clearF v, 0, M) = (n, (ft2, v2, n, M2)) ∧ Inv (fc, np) (fn, np) (fi, ni) initS (ft2, v2, n, M2) ∧ (v.2.2.2.2.2.1 < 2 → SEq v v2) := by
  rw [playR_inp hi]
  have a1 := inv_play (pc := (fc, np)) (pn := (fn, np)) (inp := (fi, ni)) (v0 := initS) n (ft0, clearF v, 0, M) inv_clear
  have a2 := play_live (pc := (fc, np)) (pn := (fn, np)) (inp := (fi, ni)) (v0 := initS) n 0 (ft0, clearF v, 0, M) clear_init (fun j hj => by rw [Nat.zero_add]; exact h.2.1 j hj)
  generalize hX : playR (fc, np) (fn, np) (fi, ni) n (ft0, clearF v, 0, M) = X at a1 a2
  obtain ⟨came, ft2, v2, n2, M2⟩ := X
  have b0 : came = n := a2.1
  subst b0
  have b1 : n2 = 0 + came := a1.2
  rw [Nat.zero_add] at b1
  subst b1
  have s2 : SEq v2 (ch (fc, np) (fn, np) (fi, ni) initS (0 + n2)) := a2.2
  rw [Nat.zero_add] at s2
  exact ⟨ft2, v2, M2, rfl, a1.1, fun q => (atC_lt h.2.2.1 q).tr s2.sy⟩
/-- a point at the step that was done last stops the run, unless it is the first step -/
theorem iter_last {fc fn fi ft ft0 : Nat → Int32} {np ni n s : Nat} {v : SV} {M : Nat → Nat → Int32} {inp' : RV} (hp : np < 32) (hi : REq inp' (fi, ni)) (h : Inv (fc, np) (fn, np) (fi, ni) initS (ft, v, n, M)) (hn1 : 1 ≤ n) (hn : n ≤ 200) (hs : s < np) (h0 : M (n - 1) 0 = nI s) :
    ∃ (came : Nat) (ft2 : Nat → Int32) (v2 : SV) (n2 : Nat) (M2 : Nat → Nat → Int32) (r2 : Int32), runR (fc, np) (fn, np) inp' (hitV (nI s)) 200 (ft0, clearF v, 0, M) = (came, (ft2, v2, n2, M2), r2) ∧ came ≤ 200 ∧ (r2 = 5 → v2.2.2.2.2.1 = nI s) ∧ (¬ r2 = 5 → s = 0) := by
  rw [runR_inp hi]
  have a2 := run_cnt (pc := (fc, np)) (pn := (fn, np)) (inp := (fi, ni)) (hit := hitV (nI s)) 200 (ft0, clearF v, 0, M)
  have a3 := run_5 (pc := (fc, np)) (pn := (fn, np)) (inp := (fi, ni)) (hit := hitV (nI s)) 200 (ft0, clearF v, 0, M)
  have e0 : (ch (fc, np) (fn, np) (fi, ni) initS (n - 1)).2.2.2.2.1 = nI s := by
    have g := (h.2.2.2 (n - 1) (show n - 1 < n by omega)).1 0 (by decide)
    unfold momC at g
    rw [desc_0] at g
    exact g.symm.trans h0
  have a4 : ¬ s = 0 → (runR (fc, np) (fn, np) (fi, ni) (hitV (nI s)) 200 (ft0, clearF v, 0, M)).2.2 = 5 := by
    intro hs0
    have hn2 : 1 ≤ n - 1 := by
      rcases Nat.lt_or_ge 0 (n - 1) with q | q
      · exact q
      · rw [show n - 1 = 0 by omega] at e0
        have e1 : (0 : Int32) = nI s := e0
        rw [← nI_0] at e1
        exact absurd ((nI_eq (by decide) (by omega)).mp e1).symm hs0
    exact run_hit5 (n - 1) 0 200 (ft0, clearF v, 0, M) clear_init (fun j hj => by rw [Nat.zero_add]; exact h.2.1 j (show j < n by omega)) hn2 (by omega) (by rw [Nat.zero_add]; exact e0)
  generalize hX : runR (fc, np) (fn, np) (fi, ni) (hitV (nI s)) 200 (ft0, clearF v, 0, M) = X at a2 a3 a4
  obtain ⟨came, ⟨ft2, v2, n2, M2⟩, r2⟩ := X
  refine ⟨came, ft2, v2, n2, M2, r2, rfl, a2.2, fun q => (hit_iff.mp (a3 q)).1.symm, fun q => ?_⟩
  rcases Nat.eq_zero_or_pos s with z | z
  · exact z
  · exact absurd (a4 (by omega)) q
