/-! Row: a row of numbers, up to a bound -/
def rowW (cy : Nat → ClassId) (h a cap : Nat) (f : Nat → Int32) (n : Nat) : va_W := [(h, .inr (4, [.ref a, .int (nI n)])), (a, .inl (cy 0, cap, .inl f))]
def bI (b : Bool) : Int32 := if b then 1 else 0
def rowGet (f : Nat → Int32) (n : Nat) (i : Int32) : Int32 := if i < 0 then 0 else if nI n ≤ i then 0 else f i.toNatClampNeg
def rowPut (f : Nat → Int32) (n : Nat) (i x : Int32) : Nat → Int32 := if i < 0 then f else if nI n ≤ i then f else upd f i.toNatClampNeg x
def rowHas (n : Nat) (i : Int32) : Bool := !decide (i < 0) && !decide (nI n ≤ i)
def clampI (k : Int32) (cap : Nat) : Nat := if k < 0 then 0 else min k.toNatClampNeg cap
def zeroTo (f : Nat → Int32) (i : Nat) : Nat → Int32 := fun j => if j < i then 0 else f j
def mixS (g : Nat → Int32) : Nat → Int64 → Int64
  | 0, d => d
  | k + 1, d => mixS g k d * 31 + (g k).toInt64
theorem up_loop {Q : Nat → Prop} {N : Nat} (hx : Q N) (hs : ∀ i, i < N → Q (i + 1) → Q i) : ∀ i, i ≤ N → Q i := by
  have key : ∀ d i, i + d = N → Q i := by
    intro d
    induction d with
    | zero => intro i hi; rw [show i = N by omega]; exact hx
    | succ d ih => intro i hi; exact hs i (by omega) (ih (i + 1) (by omega))
  intro i hi
  exact key (N - i) i (by omega)
theorem in_of {i : Int32} {n cap : Nat} (h0 : ¬ i < 0) (h1 : ¬ nI n ≤ i) (hn : n ≤ cap) (hc : cap < 2 ^ 31) : vp_in i cap := by
  obtain ⟨j, hj, rfl⟩ := nI_of h0
  refine vp_in_nI ?_ hc
  rcases Nat.lt_or_ge j n with z | z
  · omega
  · exact absurd (nI_le z hj) h1
theorem clampI_eq {k : Int32} {cap : Nat} (hc : cap < 2 ^ 31) : (if (0 : Int32) < (if nI cap < k then nI cap else k) then (if nI cap < k then nI cap else k) else 0) = nI (clampI k cap) := by
  unfold clampI
  by_cases h0 : k < 0
  · rw [if_pos h0]
    have h1 : ¬ nI cap < k := fun z => by
      have a := (Int32.lt_iff_toInt_lt.mp z)
      have b := (Int32.lt_iff_toInt_lt.mp h0)
      rw [nI_toInt hc] at a
      simp at b
      omega
    rw [if_neg h1, if_neg]
    · rfl
    · intro z
      have a := (Int32.lt_iff_toInt_lt.mp z)
      have b := (Int32.lt_iff_toInt_lt.mp h0)
      simp at a b
      omega
  · rw [if_neg h0]
    obtain ⟨j, hj, rfl⟩ := nI_of h0
    rw [nI_clamp hj]
    by_cases h1 : nI cap < nI j
    · have h2 := (nI_ltI hc hj).mp h1
      rw [if_pos h1, Nat.min_eq_right (by omega)]
      by_cases h3 : cap = 0
      · subst h3; rfl
      · rw [if_pos (by rw [← nI_0]; exact (nI_ltI (by decide) hc).mpr (by omega))]
    · have h2 : ¬ cap < j := fun z => h1 ((nI_ltI hc hj).mpr z)
      rw [if_neg h1, Nat.min_eq_left (by omega)]
      by_cases h3 : j = 0
      · subst h3; rfl
      · rw [if_pos (by rw [← nI_0]; exact (nI_ltI (by decide) hj).mpr (by omega))]
set_option maxHeartbeats 4000000 in
set_option maxRecDepth 100000 in
theorem c_Row_size {E : Env3} {h a cap n : Nat} {f : Nat → Int32}  : Cd E none 0 yX4_size cX4_size 1 (some .int) [.ref h] [rowW E.2.2 h a cap f n] (some (.int (nI n))) [rowW E.2.2 h a cap f n] := by
  refine Ct.of [some (.ref h)] (by decide +kernel) rfl (Nat.le_of_ble_eq_true rfl) (fun F hE hF hR hN => ?_)
  subst hE
  refine g_regroup (gs' := [[(h, .inr (4, [.ref a, .int (nI n)]))], [(a, .inl (F.1.2.2 0, cap, .inl f))]]) rfl ?_
  refine g_aload_n hF dX4_size_0 rfl ?_
  refine g_get (j := 1) hF 0 rfl rfl (by decide) rfl m_42 rfl dX4_size_1 ?_
  refine g_regroup (gs' := [rowW F.1.2.2 h a cap f n]) (rfl) ?_
  exact g_iret hF hR dX4_size_4 ⟨rfl, rfl⟩
set_option maxHeartbeats 4000000 in
set_option maxRecDepth 100000 in
theorem c_Row_isFull {E : Env3} {h a cap n : Nat} {f : Nat → Int32} (hn : n ≤ cap) (hc : cap < 2 ^ 31) : Cd E none 0 yX4_isFull cX4_isFull 1 (some .boolean) [.ref h] [rowW E.2.2 h a cap f n] (some (.int (bI (decide (cap ≤ n))))) [rowW E.2.2 h a cap f n] := by
  refine Ct.of [some (.ref h)] (by decide +kernel) rfl (Nat.le_of_ble_eq_true rfl) (fun F hE hF hR hN => ?_)
  subst hE
  refine g_regroup (gs' := [[(h, .inr (4, [.ref a, .int (nI n)]))], [(a, .inl (F.1.2.2 0, cap, .inl f))]]) rfl ?_
  refine g_aload_n hF dX4_isFull_0 rfl ?_
  refine g_get (j := 1) hF 0 rfl rfl (by decide) rfl m_42 rfl dX4_isFull_1 ?_
  refine g_aload_n hF dX4_isFull_4 rfl ?_
  refine g_get (j := 0) hF 0 rfl rfl (by decide) rfl m_41 rfl dX4_isFull_5 ?_
  refine g_alen hF rfl 1 0 rfl rfl rfl dX4_isFull_8 ?_
  refine g_icmp_lt (tgt := 16) hF dX4_isFull_9 (by decide) (fun c_9 => ?_) (fun c_9 => ?_)
  · refine g_iconst (v := (0)) hF dX4_isFull_16 rfl ?_
    refine g_regroup (gs' := [rowW F.1.2.2 h a cap f n]) (rfl) ?_
    exact g_zret hF hR dX4_isFull_17 rfl ⟨(by have z := nI_leI (a := cap) (b := n) hc (by omega); have z2 := nI_ltI (a := n) (b := cap) (by omega) hc; first | (have q := z2.mp c_9; simp [bI, show ¬ cap ≤ n by omega]) | (have q : ¬ n < cap := fun y => c_9 (z2.mpr y); simp [bI, show cap ≤ n by omega])), rfl⟩
  · refine g_iconst (v := (1)) hF dX4_isFull_12 rfl ?_
    refine g_goto (tgt := 17) hF dX4_isFull_13 (by decide) ?_
    refine g_regroup (gs' := [rowW F.1.2.2 h a cap f n]) (rfl) ?_
    exact g_zret hF hR dX4_isFull_17 rfl ⟨(by have z := nI_leI (a := cap) (b := n) hc (by omega); have z2 := nI_ltI (a := n) (b := cap) (by omega) hc; first | (have q := z2.mp c_9; simp [bI, show ¬ cap ≤ n by omega]) | (have q : ¬ n < cap := fun y => c_9 (z2.mpr y); simp [bI, show cap ≤ n by omega])), rfl⟩
set_option maxHeartbeats 4000000 in
set_option maxRecDepth 100000 in
theorem c_Row_has {E : Env3} {h a cap n : Nat} {f : Nat → Int32} {i : Int32} : Cd E none 0 yX4_has cX4_has 2 (some .boolean) [.ref h, .int i] [rowW E.2.2 h a cap f n] (some (.int (bI (rowHas n i)))) [rowW E.2.2 h a cap f n] := by
  refine Ct.of [some (.ref h), some (.int i)] (by decide +kernel) rfl (Nat.le_of_ble_eq_true rfl) (fun F hE hF hR hN => ?_)
  subst hE
  refine g_regroup (gs' := [[(h, .inr (4, [.ref a, .int (nI n)]))], [(a, .inl (F.1.2.2 0, cap, .inl f))]]) rfl ?_
  refine g_iload_n hF dX4_has_0 rfl ?_
  refine g_if_lt (tgt := 16) hF dX4_has_1 (by decide) (fun c_1 => ?_) (fun c_1 => ?_)
  · refine g_iconst (v := (0)) hF dX4_has_16 rfl ?_
    refine g_regroup (gs' := [rowW F.1.2.2 h a cap f n]) (rfl) ?_
    exact g_zret hF hR dX4_has_17 rfl ⟨(by simp [bI, rowHas, c_1]), rfl⟩
  · refine g_iload_n hF dX4_has_4 rfl ?_
    refine g_aload_n hF dX4_has_5 rfl ?_
    refine g_get (j := 1) hF 0 rfl rfl (by decide) rfl m_42 rfl dX4_has_6 ?_
    refine g_icmp_ge (tgt := 16) hF dX4_has_9 (by decide) (fun c_9 => ?_) (fun c_9 => ?_)
    · refine g_iconst (v := (0)) hF dX4_has_16 rfl ?_
      refine g_regroup (gs' := [rowW F.1.2.2 h a cap f n]) (rfl) ?_
      exact g_zret hF hR dX4_has_17 rfl ⟨(by simp [bI, rowHas, c_1, c_9]), rfl⟩
    · refine g_iconst (v := (1)) hF dX4_has_12 rfl ?_
      refine g_goto (tgt := 17) hF dX4_has_13 (by decide) ?_
      refine g_regroup (gs' := [rowW F.1.2.2 h a cap f n]) (rfl) ?_
      exact g_zret hF hR dX4_has_17 rfl ⟨(by simp [bI, rowHas, c_1, c_9]), rfl⟩
set_option maxHeartbeats 4000000 in
set_option maxRecDepth 100000 in
theorem c_Row_get {E : Env3} {h a cap n : Nat} {f : Nat → Int32} {i : Int32} (hn : n ≤ cap) (hc : cap < 2 ^ 31) : Cd E none 0 yX4_get cX4_get 2 (some .int) [.ref h, .int i] [rowW E.2.2 h a cap f n] (some (.int (rowGet f n i))) [rowW E.2.2 h a cap f n] := by
  refine Ct.of [some (.ref h), some (.int i)] (by decide +kernel) rfl (Nat.le_of_ble_eq_true rfl) (fun F hE hF hR hN => ?_)
  subst hE
  refine g_regroup (gs' := [[(h, .inr (4, [.ref a, .int (nI n)]))], [(a, .inl (F.1.2.2 0, cap, .inl f))]]) rfl ?_
  refine g_iload_n hF dX4_get_0 rfl ?_
  refine g_if_lt (tgt := 21) hF dX4_get_1 (by decide) (fun c_1 => ?_) (fun c_1 => ?_)
  · refine g_iconst (v := (0)) hF dX4_get_21 rfl ?_
    refine g_regroup (gs' := [rowW F.1.2.2 h a cap f n]) (rfl) ?_
    exact g_iret hF hR dX4_get_22 ⟨(by simp [rowGet, c_1]), rfl⟩
  · refine g_iload_n hF dX4_get_4 rfl ?_
    refine g_aload_n hF dX4_get_5 rfl ?_
    refine g_get (j := 1) hF 0 rfl rfl (by decide) rfl m_42 rfl dX4_get_6 ?_
    refine g_icmp_ge (tgt := 21) hF dX4_get_9 (by decide) (fun c_9 => ?_) (fun c_9 => ?_)
    · refine g_iconst (v := (0)) hF dX4_get_21 rfl ?_
      refine g_regroup (gs' := [rowW F.1.2.2 h a cap f n]) (rfl) ?_
      exact g_iret hF hR dX4_get_22 ⟨(by simp [rowGet, c_1, c_9]), rfl⟩
    · refine g_aload_n hF dX4_get_12 rfl ?_
      refine g_get (j := 0) hF 0 rfl rfl (by decide) rfl m_41 rfl dX4_get_13 ?_
      refine g_iload_n hF dX4_get_16 rfl ?_
      refine g_iald hF rfl 1 rfl (in_of c_1 c_9 hn hc) rfl dX4_get_17 ?_
      refine g_goto (tgt := 22) hF dX4_get_18 (by decide) ?_
      refine g_regroup (gs' := [rowW F.1.2.2 h a cap f n]) (rfl) ?_
      exact g_iret hF hR dX4_get_22 ⟨(by simp [rowGet, c_1, c_9]), rfl⟩
set_option maxHeartbeats 4000000 in
set_option maxRecDepth 100000 in
theorem c_Row_put {E : Env3} {h a cap n : Nat} {f : Nat → Int32} {i x : Int32} (hn : n ≤ cap) (hc : cap < 2 ^ 31) : Cd E none 0 yX4_put cX4_put 3 none [.ref h, .int i, .int x] [rowW E.2.2 h a cap f n] none [rowW E.2.2 h a cap (rowPut f n i x) n] := by
  refine Ct.of [some (.ref h), some (.int i), some (.int x)] (by decide +kernel) rfl (Nat.le_of_ble_eq_true rfl) (fun F hE hF hR hN => ?_)
  subst hE
  refine g_regroup (gs' := [[(h, .inr (4, [.ref a, .int (nI n)]))], [(a, .inl (F.1.2.2 0, cap, .inl f))]]) rfl ?_
  refine g_iload_n hF dX4_put_0 rfl ?_
  refine g_if_lt (tgt := 19) hF dX4_put_1 (by decide) (fun c_1 => ?_) (fun c_1 => ?_)
  · refine g_regroup (gs' := [rowW F.1.2.2 h a cap (rowPut f n i x) n]) (by simp [rowW, rowPut, c_1]) ?_
    exact g_vret hF hR dX4_put_19 ⟨rfl, rfl⟩
  · refine g_iload_n hF dX4_put_4 rfl ?_
    refine g_aload_n hF dX4_put_5 rfl ?_
    refine g_get (j := 1) hF 0 rfl rfl (by decide) rfl m_42 rfl dX4_put_6 ?_
    refine g_icmp_ge (tgt := 19) hF dX4_put_9 (by decide) (fun c_9 => ?_) (fun c_9 => ?_)
    · refine g_regroup (gs' := [rowW F.1.2.2 h a cap (rowPut f n i x) n]) (by simp [rowW, rowPut, c_1, c_9]) ?_
      exact g_vret hF hR dX4_put_19 ⟨rfl, rfl⟩
    · refine g_aload_n hF dX4_put_12 rfl ?_
      refine g_get (j := 0) hF 0 rfl rfl (by decide) rfl m_41 rfl dX4_put_13 ?_
      refine g_iload_n hF dX4_put_16 rfl ?_
      refine g_iload_n hF dX4_put_17 rfl ?_
      refine g_iast hF rfl 1 i.toNatClampNeg rfl (in_of c_1 c_9 hn hc) rfl dX4_put_18 ?_
      refine g_regroup (gs' := [rowW F.1.2.2 h a cap (rowPut f n i x) n]) (by simp [rowW, rowPut, c_1, c_9]) ?_
      exact g_vret hF hR dX4_put_19 ⟨rfl, rfl⟩
set_option maxHeartbeats 4000000 in
set_option maxRecDepth 100000 in
theorem c_Row_push {E : Env3} {h a cap n : Nat} {f : Nat → Int32} {x : Int32} (hn : n ≤ cap) (hc : cap < 2 ^ 31) : Cd E none 0 yX4_push cX4_push 2 none [.ref h, .int x] [rowW E.2.2 h a cap f n] none [rowW E.2.2 h a cap (if n < cap then upd f n x else f) (if n < cap then n + 1 else n)] := by
  refine Ct.of [some (.ref h), some (.int x)] (by decide +kernel) rfl (Nat.le_of_ble_eq_true rfl) (fun F hE hF hR hN => ?_)
  subst hE
  refine g_regroup (gs' := [[(h, .inr (4, [.ref a, .int (nI n)]))], [(a, .inl (F.1.2.2 0, cap, .inl f))]]) rfl ?_
  refine g_aload_n hF dX4_push_0 rfl ?_
  refine g_get (j := 1) hF 0 rfl rfl (by decide) rfl m_42 rfl dX4_push_1 ?_
  refine g_aload_n hF dX4_push_4 rfl ?_
  refine g_get (j := 0) hF 0 rfl rfl (by decide) rfl m_41 rfl dX4_push_5 ?_
  refine g_alen hF rfl 1 0 rfl rfl rfl dX4_push_8 ?_
  refine g_icmp_ge (tgt := 32) hF dX4_push_9 (by decide) (fun c_9 => ?_) (fun c_9 => ?_)
  · refine g_regroup (gs' := [rowW F.1.2.2 h a cap (if n < cap then upd f n x else f) (if n < cap then n + 1 else n)]) (by have z : ¬ n < cap := fun y => nI_ge y hc c_9; simp [rowW, z, nI_succ]) ?_
    exact g_vret hF hR dX4_push_32 ⟨rfl, rfl⟩
  · refine g_aload_n hF dX4_push_12 rfl ?_
    refine g_get (j := 0) hF 0 rfl rfl (by decide) rfl m_41 rfl dX4_push_13 ?_
    refine g_aload_n hF dX4_push_16 rfl ?_
    refine g_get (j := 1) hF 0 rfl rfl (by decide) rfl m_42 rfl dX4_push_17 ?_
    refine g_iload_n hF dX4_push_20 rfl ?_
    refine g_iast hF rfl 1 n rfl (vp_in_nI (Nat.not_le.mp (fun y => c_9 (nI_le y (by omega)))) hc) (nI_clamp (by omega)) dX4_push_21 ?_
    refine g_aload_n hF dX4_push_22 rfl ?_
    refine g_dup hF dX4_push_23 rfl ?_
    refine g_get (j := 1) hF 0 rfl rfl (by decide) rfl m_42 rfl dX4_push_24 ?_
    refine g_iconst (v := (1)) hF dX4_push_27 rfl ?_
    refine g_iadd hF dX4_push_28 ?_
    refine g_put (j := 1) hF 0 rfl rfl (by decide) rfl m_42 rfl (tyX4_ok 1 (by decide)) rfl rfl (Nat.le_of_ble_eq_true rfl) dX4_push_29 ?_
    try dsimp only [gput, gputA, List.set, stGs, List.cons_append, List.nil_append]
    refine g_regroup (gs' := [rowW F.1.2.2 h a cap (if n < cap then upd f n x else f) (if n < cap then n + 1 else n)]) (by have z : n < cap := Nat.not_le.mp (fun y => c_9 (nI_le y (by omega))); simp [rowW, z, nI_succ]) ?_
    exact g_vret hF hR dX4_push_32 ⟨rfl, rfl⟩
set_option maxHeartbeats 4000000 in
set_option maxRecDepth 100000 in
theorem c_Row_pop {E : Env3} {h a cap n : Nat} {f : Nat → Int32} (hn : n ≤ cap) (hc : cap < 2 ^ 31) : Cd E none 0 yX4_pop cX4_pop 1 (some .int) [.ref h] [rowW E.2.2 h a cap f n] (some (.int (if n = 0 then 0 else f (n - 1)))) [rowW E.2.2 h a cap f (n - 1)] := by
  refine Ct.of [some (.ref h)] (by decide +kernel) rfl (Nat.le_of_ble_eq_true rfl) (fun F hE hF hR hN => ?_)
  subst hE
  refine g_regroup (gs' := [[(h, .inr (4, [.ref a, .int (nI n)]))], [(a, .inl (F.1.2.2 0, cap, .inl f))]]) rfl ?_
  refine g_aload_n hF dX4_pop_0 rfl ?_
  refine g_get (j := 1) hF 0 rfl rfl (by decide) rfl m_42 rfl dX4_pop_1 ?_
  refine g_if_gt (tgt := 9) hF dX4_pop_4 (by decide) (fun c_4 => ?_) (fun c_4 => ?_)
  · have z : ¬ n = 0 := fun y => absurd c_4 (by subst y; decide)
    have e : nI n - 1 = nI (n - 1) := by
      obtain ⟨q, rfl⟩ : ∃ q, n = q + 1 := ⟨n - 1, by omega⟩
      exact nI_pred q
    refine g_aload_n hF dX4_pop_9 rfl ?_
    refine g_dup hF dX4_pop_10 rfl ?_
    refine g_get (j := 1) hF 0 rfl rfl (by decide) rfl m_42 rfl dX4_pop_11 ?_
    refine g_iconst (v := (1)) hF dX4_pop_14 rfl ?_
    refine g_isub hF dX4_pop_15 ?_
    refine g_put (j := 1) hF 0 rfl rfl (by decide) rfl m_42 rfl (tyX4_ok 1 (by decide)) rfl rfl (Nat.le_of_ble_eq_true rfl) dX4_pop_16 ?_
    try dsimp only [gput, gputA, List.set, stGs, List.cons_append, List.nil_append]
    refine g_aload_n hF dX4_pop_19 rfl ?_
    refine g_get (j := 0) hF 0 rfl rfl (by decide) rfl m_41 rfl dX4_pop_20 ?_
    refine g_aload_n hF dX4_pop_23 rfl ?_
    refine g_get (j := 1) hF 0 rfl rfl (by decide) rfl m_42 rfl dX4_pop_24 ?_
    refine g_iald hF rfl 1 rfl (by rw [e]; exact vp_in_nI (by omega) hc) (v := f (n - 1)) (by rw [e, nI_clamp (by omega)]) dX4_pop_27 ?_
    refine g_regroup (gs' := [rowW F.1.2.2 h a cap f (n - 1)]) (by simp [rowW, e]) ?_
    exact g_iret hF hR dX4_pop_28 ⟨(by simp [z]), rfl⟩
  · have z : n = 0 := by
      rcases Nat.eq_zero_or_pos n with y | y
      · exact y
      · exact absurd (by rw [← nI_0]; exact (nI_ltI (by decide) (by omega)).mpr y) c_4
    refine g_iconst (v := (0)) hF dX4_pop_7 rfl ?_
    refine g_regroup (gs' := [rowW F.1.2.2 h a cap f (n - 1)]) (by simp [rowW, z]) ?_
    exact g_iret hF hR dX4_pop_8 ⟨(by simp [z]), rfl⟩
set_option maxHeartbeats 4000000 in
set_option maxRecDepth 100000 in
theorem c_Row_resize {E : Env3} {h a cap n : Nat} {f : Nat → Int32} {k : Int32} (hc : cap < 2 ^ 31) : Cd E none 1 yX4_resize cX4_resize 2 none [.ref h, .int k] [rowW E.2.2 h a cap f n] none [rowW E.2.2 h a cap f (clampI k cap)] := by
  refine Ct.of [some (.ref h), some (.int k)] (by decide +kernel) rfl (Nat.le_of_ble_eq_true rfl) (fun F hE hF hR hN => ?_)
  subst hE
  refine g_regroup (gs' := [[(h, .inr (4, [.ref a, .int (nI n)]))], [(a, .inl (F.1.2.2 0, cap, .inl f))]]) rfl ?_
  refine g_aload_n hF dX4_resize_0 rfl ?_
  refine g_iconst (v := (0)) hF dX4_resize_1 rfl ?_
  refine g_iload_n hF dX4_resize_2 rfl ?_
  refine g_aload_n hF dX4_resize_3 rfl ?_
  refine g_get (j := 0) hF 0 rfl rfl (by decide) rfl m_41 rfl dX4_resize_4 ?_
  refine g_alen hF rfl 1 0 rfl rfl rfl dX4_resize_7 ?_
  refine g_min hF m_387 m_388 m_4 m_389 (by decide) (Nat.zero_le _) (Nat.zero_le _) (Nat.le_of_ble_eq_true rfl) dX4_resize_8 ?_
  refine g_max hF m_38 m_39 m_4 m_40 (by decide) (Nat.zero_le _) (Nat.zero_le _) (Nat.le_of_ble_eq_true rfl) dX4_resize_11 ?_
  refine g_put (j := 1) hF 0 rfl rfl (by decide) rfl m_42 rfl (tyX4_ok 1 (by decide)) rfl rfl (Nat.le_of_ble_eq_true rfl) dX4_resize_14 ?_
  try dsimp only [gput, gputA, List.set, stGs, List.cons_append, List.nil_append]
  refine g_regroup (gs' := [rowW F.1.2.2 h a cap f (clampI k cap)]) (by simp only [rowW]; rw [← clampI_eq hc]; rfl) ?_
  exact g_vret hF hR dX4_resize_17 ⟨rfl, rfl⟩
