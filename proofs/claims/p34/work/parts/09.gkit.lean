/-! MY KIT: a walk whose goal holds the world (as a list of groups of cells), the locals by their places, and the operand stack -/
section GK1
/-! worlds as lists, up to their order -/
theorem wP_iff {D : va_G} {cl : List vw_C} {ws : va_W} {H : Heap} : va_P D cl ws H ↔ ∀ q ∈ ws, va_at D cl q H :=
  ⟨fun h q hq => by obtain ⟨k, hk⟩ := List.getElem?_of_mem hq; exact h k q hk, fun h k q hk => h q (List.mem_of_getElem? hk)⟩
theorem wD_iff {A : Nat → Prop} {ws : va_W} : va_D A ws ↔ ws.Pairwise (fun p q => p.1 ≠ q.1) ∧ ∀ q ∈ ws, A q.1 := by
  refine ⟨fun h => ⟨?_, fun q hq => by obtain ⟨k, hk⟩ := List.getElem?_of_mem hq; exact h.2 k q hk⟩, fun h => ⟨?_, fun k q hk => h.2 q (List.mem_of_getElem? hk)⟩⟩
  · rw [List.pairwise_iff_getElem]
    intro i j hi hj hij e
    have := h.1 i j ws[i] ws[j] (List.getElem?_eq_getElem hi) (List.getElem?_eq_getElem hj) e
    omega
  · have h1 := List.pairwise_iff_getElem.mp h.1
    intro i j p q hp hq e
    obtain ⟨hi, rfl⟩ := List.getElem?_eq_some_iff.mp hp
    obtain ⟨hj, rfl⟩ := List.getElem?_eq_some_iff.mp hq
    rcases Nat.lt_trichotomy i j with z | z | z
    · exact absurd e (h1 i j hi hj z)
    · exact z
    · exact absurd e.symm (h1 j i hj hi z)
theorem wP_perm {D : va_G} {cl : List vw_C} {w1 w2 : va_W} {H : Heap} (e : w1.Perm w2) (h : va_P D cl w1 H) : va_P D cl w2 H := wP_iff.mpr fun q hq => wP_iff.mp h q (e.mem_iff.mpr hq)
theorem wD_perm {A : Nat → Prop} {w1 w2 : va_W} (e : w1.Perm w2) (h : va_D A w1) : va_D A w2 := by
  obtain ⟨h1, h2⟩ := wD_iff.mp h
  exact wD_iff.mpr ⟨(e.pairwise_iff (fun {a b} z => fun y => z y.symm)).mp h1, fun q hq => h2 q (e.mem_iff.mpr hq)⟩
theorem wP_left {D : va_G} {cl : List vw_C} {w1 w2 : va_W} {H : Heap} (h : va_P D cl (w1 ++ w2) H) : va_P D cl w1 H := wP_iff.mpr fun q hq => wP_iff.mp h q (List.mem_append_left _ hq)
theorem wP_right {D : va_G} {cl : List vw_C} {w1 w2 : va_W} {H : Heap} (h : va_P D cl (w1 ++ w2) H) : va_P D cl w2 H := wP_iff.mpr fun q hq => wP_iff.mp h q (List.mem_append_right _ hq)
theorem wD_left {A : Nat → Prop} {w1 w2 : va_W} (h : va_D A (w1 ++ w2)) : va_D A w1 := by
  obtain ⟨h1, h2⟩ := wD_iff.mp h
  exact wD_iff.mpr ⟨(List.pairwise_append.mp h1).1, fun q hq => h2 q (List.mem_append_left _ hq)⟩
theorem wD_right {A : Nat → Prop} {w1 w2 : va_W} (h : va_D A (w1 ++ w2)) : va_D A w2 := by
  obtain ⟨h1, h2⟩ := wD_iff.mp h
  exact wD_iff.mpr ⟨(List.pairwise_append.mp h1).2.1, fun q hq => h2 q (List.mem_append_right _ hq)⟩
theorem wD_cross {A : Nat → Prop} {w1 w2 : va_W} (h : va_D A (w1 ++ w2)) {p q : Nat × va_E} (hp : p ∈ w1) (hq : q ∈ w2) : p.1 ≠ q.1 := (List.pairwise_append.mp (wD_iff.mp h).1).2.2 p hp q hq
theorem va_A_mem {ws : va_W} {sz : Nat} {q : Nat} : va_A ws sz q ↔ (∃ e, (q, e) ∈ ws) ∨ sz ≤ q := by
  unfold va_A
  constructor
  · rintro (⟨k, e, h⟩ | h)
    · exact Or.inl ⟨e, List.mem_of_getElem? h⟩
    · exact Or.inr h
  · rintro (⟨e, h⟩ | h)
    · obtain ⟨k, hk⟩ := List.getElem?_of_mem h; exact Or.inl ⟨k, e, hk⟩
    · exact Or.inr h
/-- behind a call: what the callee had (w), what it left (w'), and the rest -/
theorem w_join {D : va_G} {cl : List vw_C} {A : Nat → Prop} {w wr w' : va_W} {H H1 : Heap} (hP : va_P D cl (w ++ wr) H) (hD : va_D A (w ++ wr)) (hk : ∀ q : Nat, q < H.size → ¬ va_A w H.size q → H1[q]? = H[q]?) (hF : ∀ q, va_A w H.size q → A q) (hP1 : va_P D cl w' H1) (hD1 : va_D (va_A w H.size) w') : va_P D cl (w' ++ wr) H1 ∧ va_D A (w' ++ wr) := by
  have hout : ∀ q ∈ wr, q.1 < H.size ∧ ¬ va_A w H.size q.1 := by
    intro q hq
    have hlt : q.1 < H.size := (wP_iff.mp hP q (List.mem_append_right _ hq)).lt
    refine ⟨hlt, fun h => ?_⟩
    rcases va_A_mem.mp h with ⟨e, h⟩ | h
    · exact wD_cross hD h hq rfl
    · omega
  constructor
  · refine wP_iff.mpr fun q hq => ?_
    rcases List.mem_append.mp hq with h | h
    · exact wP_iff.mp hP1 q h
    · obtain ⟨a, b⟩ := hout q h
      exact (wP_iff.mp hP q (List.mem_append_right _ h)).kept (hk q.1 a b)
  · obtain ⟨d1, d2⟩ := wD_iff.mp hD
    obtain ⟨e1, e2⟩ := wD_iff.mp hD1
    refine wD_iff.mpr ⟨List.pairwise_append.mpr ⟨e1, (List.pairwise_append.mp d1).2.1, fun p hp q hq e => ?_⟩, fun q hq => ?_⟩
    · exact (hout q hq).2 (by rw [← e]; exact e2 p hp)
    · rcases List.mem_append.mp hq with h | h
      · exact hF _ (e2 q h)
      · exact d2 q (List.mem_append_right _ h)
/-! groups -/
def gputA : List Nat → List va_W → List va_W → List va_W
  | [], gs, ex => gs ++ ex
  | i :: ps, gs, ex => match ex with
    | [] => gs
    | g :: gs' => gputA ps (gs.set i g) gs'
def gput (gs : List va_W) (ps : List Nat) (ex : List va_W) : List va_W := gputA ps gs ex
def gerase : List va_W → List Nat → List va_W
  | gs, [] => gs
  | gs, i :: ps => gerase (gs.set i []) ps
theorem set_perm : ∀ (gs : List va_W) (i : Nat) (g : va_W), i < gs.length → (gs.set i g).flatten.Perm (g ++ (gs.set i []).flatten)
  | [], i, g, h => absurd h (Nat.not_lt_zero _)
  | x :: gs, 0, g, _ => by simp
  | x :: gs, i + 1, g, h => by
    have ih := set_perm gs i g (by simpa using h)
    simp only [List.set_cons_succ, List.flatten_cons]
    refine (List.Perm.append_left x ih).trans ?_
    rw [← List.append_assoc, ← List.append_assoc]
    exact List.Perm.append_right _ List.perm_append_comm
theorem gerase_set : ∀ (ps : List Nat) (gs : List va_W) (i : Nat) (g : va_W), i ∉ ps → gerase (gs.set i g) ps = (gerase gs ps).set i g
  | [], gs, i, g, _ => rfl
  | j :: ps, gs, i, g, h => by
    have hij : i ≠ j := fun e => h (by rw [e]; exact List.mem_cons_self)
    have hps : i ∉ ps := fun e => h (List.mem_cons_of_mem _ e)
    show gerase ((gs.set i g).set j []) ps = (gerase (gs.set j []) ps).set i g
    rw [← gerase_set ps (gs.set j []) i g hps, List.set_comm _ _ hij]
theorem gerase_len : ∀ (ps : List Nat) (gs : List va_W), (gerase gs ps).length = gs.length
  | [], gs => rfl
  | i :: ps, gs => by
    show (gerase (gs.set i []) ps).length = _
    rw [gerase_len ps, List.length_set]
theorem gput_perm : ∀ (ps : List Nat) (gs gs' : List va_W), ps.length ≤ gs'.length → va_nd ps = true → (∀ i ∈ ps, i < gs.length) → (gput gs ps gs').flatten.Perm (gs'.flatten ++ (gerase gs ps).flatten)
  | [], gs, gs', _, _, _ => by
    show (gs ++ gs').flatten.Perm (gs'.flatten ++ gs.flatten)
    rw [List.flatten_append]
    exact List.perm_append_comm
  | i :: ps, gs, [], h, _, _ => absurd h (by simp)
  | i :: ps, gs, g :: gs', h, hn, hi => by
    simp only [va_nd, Bool.and_eq_true, decide_eq_true_eq] at hn
    have hl : i < gs.length := hi i List.mem_cons_self
    have ih := gput_perm ps (gs.set i g) gs' (by simpa using h) hn.2 (fun j hj => by rw [List.length_set]; exact hi j (List.mem_cons_of_mem _ hj))
    show (gput (gs.set i g) ps gs').flatten.Perm ((g :: gs').flatten ++ (gerase (gs.set i []) ps).flatten)
    refine ih.trans ?_
    rw [gerase_set ps gs i g hn.1, gerase_set ps gs i [] hn.1, List.flatten_cons]
    have h2 := set_perm (gerase gs ps) i g (by rw [gerase_len]; exact hl)
    refine (List.Perm.append_left _ h2).trans ?_
    rw [← List.append_assoc]
    exact List.Perm.append_right _ List.perm_append_comm
theorem set_same {gs : List va_W} {i : Nat} {g : va_W} (h : gs[i]? = some g) : gs.set i g = gs := by
  obtain ⟨hl, rfl⟩ := List.getElem?_eq_some_iff.mp h
  exact List.set_getElem_self hl
theorem gput_same : ∀ (ps : List Nat) (gs gsC : List va_W), ps.map (fun i => gs[i]?) = gsC.map some → gput gs ps gsC = gs
  | [], gs, [], _ => by show gs ++ [] = gs; simp
  | [], gs, _ :: _, h => by simp at h
  | _ :: _, gs, [], h => by simp at h
  | i :: ps, gs, g :: gsC, h => by
    simp only [List.map_cons, List.cons.injEq] at h
    show gput (gs.set i g) ps gsC = gs
    rw [set_same h.1]
    exact gput_same ps gs gsC h.2
theorem ps_lt {ps : List Nat} {gs gsC : List va_W} (h : ps.map (fun i => gs[i]?) = gsC.map some) : ∀ i ∈ ps, i < gs.length := by
  intro i hi
  have h1 : gs[i]? ∈ ps.map (fun i => gs[i]?) := List.mem_map.mpr ⟨i, hi, rfl⟩
  rw [h] at h1
  obtain ⟨g, -, hg⟩ := List.mem_map.mp h1
  exact (List.getElem?_eq_some_iff.mp hg.symm).1
theorem ps_len {ps : List Nat} {gs gsC : List va_W} (h : ps.map (fun i => gs[i]?) = gsC.map some) : ps.length = gsC.length := by
  have := congrArg List.length h
  simpa using this
theorem gs_perm {ps : List Nat} {gs gsC : List va_W} (h : ps.map (fun i => gs[i]?) = gsC.map some) (hn : va_nd ps = true) : gs.flatten.Perm (gsC.flatten ++ (gerase gs ps).flatten) := by
  have h1 := gput_perm ps gs gsC (Nat.le_of_eq (ps_len h)) hn (ps_lt h)
  rwa [gput_same ps gs gsC h] at h1
/-- a group's head has a place in the world, and is set there -/
theorem head_at : ∀ (gs : List va_W) (k : Nat) (x : Nat × va_E) (t : va_W), gs[k]? = some (x :: t) → ∃ q0, gs.flatten[q0]? = some x ∧ ∀ y, gs.flatten.set q0 y = (gs.set k (y :: t)).flatten
  | [], k, x, t, h => by simp at h
  | g :: gs, 0, x, t, h => by
    simp only [List.getElem?_cons_zero, Option.some.injEq] at h
    subst h
    exact ⟨0, by simp, fun y => by simp⟩
  | g :: gs, k + 1, x, t, h => by
    obtain ⟨q0, h1, h2⟩ := head_at gs k x t (by simpa using h)
    refine ⟨g.length + q0, ?_, fun y => ?_⟩
    · rw [List.flatten_cons, List.getElem?_append_right (by omega)]
      simpa using h1
    · simp only [List.flatten_cons, List.set_cons_succ]
      rw [List.set_append_right _ _ (by omega)]
      simp [h2 y]
end GK1
section GK2
/-! locals by their places -/
def hasP (ls : Array Slot) (nL : Nat) (lv : List (Option Value)) : Prop := (ls.size = nL ∧ lv.length = nL) ∧ lv_wf ls ∧ ∀ (i : Nat) (v : Value), lv[i]? = some (some v) → ls[i]? = some (.val v)
def prs (lv : List (Option Value)) : List (Nat × Value) := (List.range lv.length).filterMap (fun i => match lv[i]? with | some (some v) => some (i, v) | _ => none)
theorem mem_prs {lv : List (Option Value)} {i : Nat} {v : Value} : (i, v) ∈ prs lv ↔ lv[i]? = some (some v) := by
  unfold prs
  rw [List.mem_filterMap]
  constructor
  · rintro ⟨j, -, h⟩
    split at h
    · rename_i w hw; cases h; exact hw
    · cases h
  · intro h
    refine ⟨i, List.mem_range.mpr (List.getElem?_eq_some_iff.mp h).1, ?_⟩
    rw [h]
theorem hasP_has {ls : Array Slot} {nL : Nat} {lv : List (Option Value)} (h : hasP ls nL lv) : lv_has ls nL (prs lv) := ⟨h.1.1, h.2.1, fun q hq => h.2.2 q.1 q.2 (mem_prs.mp hq)⟩
def okst (lv : List (Option Value)) : Nat → Bool
  | 0 => true
  | j + 1 => match lv[j]? with
    | some (some w) => !(w.category == 2)
    | _ => true
theorem okst_of {lv : List (Option Value)} {i j : Nat} {w : Value} (h : okst lv i = true) (hj : lv[j]? = some (some w)) (e : j + 1 = i) : (w.category == 2) = false := by
  subst e
  simp only [okst, hj] at h
  simpa using h
theorem hasP_set {ls' : Array Slot} {nL i : Nat} {x : Value} {lv : List (Option Value)} (hn : lv.length = nL) (ho : okst lv i = true) (h : lv_has ls' nL ((i, x) :: (prs lv).filter (fun q => !(q.1 == i) && !(q.1 + 1 == i && q.2.category == 2)))) : hasP ls' nL (lv.set i (some x)) := by
  refine ⟨⟨h.1, by rw [List.length_set]; exact hn⟩, h.2.1, fun j w hj => ?_⟩
  by_cases e : j = i
  · subst e
    have hl : j < lv.length := by
      have := (List.getElem?_eq_some_iff.mp hj).1
      simpa using this
    rw [List.getElem?_set_self hl] at hj
    cases hj
    exact h.2.2 (j, x) List.mem_cons_self
  · rw [List.getElem?_set_ne (Ne.symm e)] at hj
    refine h.2.2 (j, w) (List.mem_cons_of_mem _ (List.mem_filter.mpr ⟨mem_prs.mpr hj, ?_⟩))
    by_cases e1 : j + 1 = i
    · simp [e, okst_of ho hj e1]
    · simp [e, e1]
theorem hasP_set2 {ls' : Array Slot} {nL i : Nat} {x : Value} {lv : List (Option Value)} (hn : lv.length = nL) (ho : okst lv i = true) (h : lv_has ls' nL ((i, x) :: (prs lv).filter (fun q => !(q.1 == i) && (!(q.1 == i + 1) && !(q.1 + 1 == i && q.2.category == 2))))) : hasP ls' nL ((lv.set i (some x)).set (i + 1) none) := by
  refine ⟨⟨h.1, by rw [List.length_set, List.length_set]; exact hn⟩, h.2.1, fun j w hj => ?_⟩
  by_cases e2 : j = i + 1
  · subst e2
    by_cases hl : i + 1 < (lv.set i (some x)).length
    · rw [List.getElem?_set_self hl] at hj; cases hj
    · rw [List.getElem?_eq_none (by simp only [List.length_set] at hl ⊢; omega)] at hj; cases hj
  · rw [List.getElem?_set_ne (Ne.symm e2)] at hj
    by_cases e : j = i
    · subst e
      have hl : j < lv.length := by
        have := (List.getElem?_eq_some_iff.mp hj).1
        simpa using this
      rw [List.getElem?_set_self hl] at hj
      cases hj
      exact h.2.2 (j, x) List.mem_cons_self
    · rw [List.getElem?_set_ne (Ne.symm e)] at hj
      refine h.2.2 (j, w) (List.mem_cons_of_mem _ (List.mem_filter.mpr ⟨mem_prs.mpr hj, ?_⟩))
      by_cases e1 : j + 1 = i
      · simp [e, e2, okst_of ho hj e1]
      · simp [e, e1, e2]
def lv0 : List Value → List (Option Value)
  | [] => []
  | v :: vs => (if v.category = 2 then [some v, none] else [some v]) ++ lv0 vs
theorem lv0_len : ∀ vs : List Value, (lg_sl vs).length = (lv0 vs).length
  | [] => rfl
  | v :: vs => by
    have ih := lv0_len vs
    unfold lg_sl at ih ⊢
    rw [List.flatMap_cons, List.length_append, ih]
    by_cases h : v.category = 2
    · simp [lv0, h]; omega
    · simp [lv0, h]; omega
theorem lv0_in : ∀ (vs : List Value) (b i : Nat) (v : Value), (lv0 vs)[i]? = some (some v) → (b + i, v) ∈ lv_args b vs
  | [], b, i, v, h => by simp [lv0] at h
  | w :: vs, b, i, v, h => by
    by_cases hc : w.category = 2
    · simp only [lv0, hc, if_true] at h
      match i, h with
      | 0, h =>
        simp at h
        subst h
        simp [lv_args]
      | 1, h => simp at h
      | j + 2, h =>
        have ih := lv0_in vs (b + 2) j v (by simpa using h)
        simp only [lv_args, hc, if_true]
        rw [show b + (j + 2) = b + 2 + j by omega]
        exact List.mem_cons_of_mem _ ih
    · simp only [lv0, hc, if_false] at h
      match i, h with
      | 0, h =>
        simp at h
        subst h
        simp [lv_args]
      | j + 1, h =>
        have ih := lv0_in vs (b + 1) j v (by simpa using h)
        simp only [lv_args, hc, if_false]
        rw [show b + (j + 1) = b + 1 + j by omega]
        exact List.mem_cons_of_mem _ ih
theorem lv0_pad {vs : List Value} {n i : Nat} {v : Value} (h : (lv0 vs ++ List.replicate n none)[i]? = some (some v)) : (i, v) ∈ lv_args 0 vs := by
  have key : (lv0 vs)[i]? = some (some v) := by
    rcases Nat.lt_or_ge i (lv0 vs).length with z | z
    · rwa [List.getElem?_append_left z] at h
    · rw [List.getElem?_append_right z, List.getElem?_replicate] at h
      split at h
      · cases h
      · cases h
  have := lv0_in vs 0 i v key
  rwa [Nat.zero_add] at this
end GK2
