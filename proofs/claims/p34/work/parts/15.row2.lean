set_option maxHeartbeats 4000000 in
set_option maxRecDepth 100000 in
theorem c_Row_fromTop {E : Env3} {h a cap n : Nat} {f : Nat → Int32} {i : Int32} (hn : n ≤ cap) (hc : cap < 2 ^ 31) : Cd E none 1 yX4_fromTop cX4_fromTop 2 (some .int) [.ref h, .int i] [rowW E.2.2 h a cap f n] (some (.int (rowGet f n (nI n - 1 - i)))) [rowW E.2.2 h a cap f n] := by
  refine Ct.of [some (.ref h), some (.int i)] (by decide +kernel) rfl (Nat.le_of_ble_eq_true rfl) (fun F hE hF hR hN => ?_)
  subst hE
  refine g_aload_n hF dX4_fromTop_0 rfl ?_
  refine g_aload_n hF dX4_fromTop_1 rfl ?_
  refine g_get (j := 1) hF 0 rfl rfl (by decide) rfl m_42 rfl dX4_fromTop_2 ?_
  refine g_iconst (v := (1)) hF dX4_fromTop_5 rfl ?_
  refine g_isub hF dX4_fromTop_6 ?_
  refine g_iload_n hF dX4_fromTop_7 rfl ?_
  refine g_isub hF dX4_fromTop_8 ?_
  refine g_callVq hF (c_Row_get (by first | omega | exact clampI_le | (split <;> omega)) (by omega)) cal_X4_get rfl m_487 (by decide) (Or.inl rfl) (Nat.zero_le _) (Nat.zero_le _) 0 rfl rfl [0] rfl rfl rfl (Nat.le_of_ble_eq_true rfl) dX4_fromTop_9 ?_
  exact g_iret hF hR dX4_fromTop_12 ⟨rfl, rfl⟩
set_option maxHeartbeats 4000000 in
set_option maxRecDepth 100000 in
theorem c_Row_putFromTop {E : Env3} {h a cap n : Nat} {f : Nat → Int32} {i x : Int32} (hn : n ≤ cap) (hc : cap < 2 ^ 31) : Cd E none 1 yX4_putFromTop cX4_putFromTop 3 none [.ref h, .int i, .int x] [rowW E.2.2 h a cap f n] none [rowW E.2.2 h a cap (rowPut f n (nI n - 1 - i) x) n] := by
  refine Ct.of [some (.ref h), some (.int i), some (.int x)] (by decide +kernel) rfl (Nat.le_of_ble_eq_true rfl) (fun F hE hF hR hN => ?_)
  subst hE
  refine g_aload_n hF dX4_putFromTop_0 rfl ?_
  refine g_aload_n hF dX4_putFromTop_1 rfl ?_
  refine g_get (j := 1) hF 0 rfl rfl (by decide) rfl m_42 rfl dX4_putFromTop_2 ?_
  refine g_iconst (v := (1)) hF dX4_putFromTop_5 rfl ?_
  refine g_isub hF dX4_putFromTop_6 ?_
  refine g_iload_n hF dX4_putFromTop_7 rfl ?_
  refine g_isub hF dX4_putFromTop_8 ?_
  refine g_iload_n hF dX4_putFromTop_9 rfl ?_
  refine g_callVd hF (c_Row_put (by first | omega | exact clampI_le | (split <;> omega)) (by omega)) cal_X4_put rfl m_612 (by decide) (Or.inl rfl) (Nat.zero_le _) (Nat.zero_le _) 0 rfl rfl [0] rfl rfl (Nat.le_of_ble_eq_true rfl) rfl (Nat.le_of_ble_eq_true rfl) dX4_putFromTop_10 ?_
  try dsimp only [gput, gputA, List.set, stGs, List.cons_append, List.nil_append]
  exact g_vret hF hR dX4_putFromTop_13 ⟨rfl, rfl⟩
theorem c_mixed {E : Env3} {dd : Int64} {x : Int32} : Cd E none 0 yX8_mixed cX8_mixed 3 (some .long) [.long dd, .int x] [] (some (.long (dd * 31 + x.toInt64))) [] := by
  refine Ct.of [some (.long dd), none, some (.int x)] (by decide +kernel) rfl (Nat.le_of_ble_eq_true rfl) (fun F hE hF hR hN => ?_)
  subst hE
  refine g_lload_n hF dX8_mixed_0 rfl ?_
  refine g_ldc2 hF m_781 dX8_mixed_1 ?_
  refine g_lmul hF dX8_mixed_4 ?_
  refine g_iload_n hF dX8_mixed_5 rfl ?_
  refine g_i2l hF dX8_mixed_6 ?_
  refine g_ladd hF dX8_mixed_7 ?_
  exact g_lret hF hR dX8_mixed_8 ⟨rfl, rfl⟩
theorem g_iast2 {F : Fix} {cc : ByteArray} {own : String} {dd kM nM k n pc : Nat} {gs : List va_W} {lv : List (Option Value)} {st : List Value} {cy : Nat → ClassId} (hF : Ok F cc own dd kM nM) (hcy : F.1.2.2 = cy) (kg : Nat) {a N : Nat} {f g : Nat → Int32} {t : va_W} {i x : Int32} (j : Nat) (hg : gs[kg]? = some ((a, .inl (cy 0, N, .inl f)) :: t)) (hin : vp_in i N) (hj : i.toNatClampNeg = j) (hf : upd f j x = g) (d : decode cc pc = .ok (.iastore, 1)) (kk : G F k n (gs.set kg ((a, .inl (cy 0, N, .inl g)) :: t)) (pc + 1) lv st) : G F k n gs pc lv (.int x :: .int i :: .ref a :: st) := by
  subst hf
  exact g_iast hF hcy kg j hg hin hj d kk
theorem zeroTo_succ (f : Nat → Int32) (i : Nat) : upd (zeroTo f i) i 0 = zeroTo f (i + 1) := by
  funext j
  unfold upd zeroTo
  by_cases h : j = i
  · simp [h]
  · by_cases h2 : j < i
    · simp [h, h2, show j < i + 1 by omega]
    · simp [h, h2, show ¬ j < i + 1 by omega]
theorem clampI_le {k : Int32} {cap : Nat} : clampI k cap ≤ cap := by
  unfold clampI
  by_cases h : k < 0
  · simp [h]
  · simp only [h, if_false]; omega
theorem clampI_nI {n cap : Nat} (h : n < 2 ^ 31) : clampI (nI n) cap = min n cap := by
  unfold clampI
  rw [if_neg (nI_pos h), nI_clamp h]
theorem zeroTo_0 (f : Nat → Int32) : zeroTo f 0 = f := by funext j; simp [zeroTo]
set_option maxHeartbeats 4000000 in
set_option maxRecDepth 100000 in
theorem c_Row_fillWithZeros {E : Env3} {h a cap n : Nat} {f : Nat → Int32} (hc : cap < 2 ^ 31) : Cd E none 0 yX4_fillWithZeros cX4_fillWithZeros 2 none [.ref h] [rowW E.2.2 h a cap f n] none [rowW E.2.2 h a cap (zeroTo f cap) cap] := by
  refine Ct.of [some (.ref h), none] (by decide +kernel) rfl (Nat.le_of_ble_eq_true rfl) (fun F hE hF hR hN => ?_)
  subst hE
  refine g_regroup (gs' := [[(h, .inr (4, [.ref a, .int (nI n)]))], [(a, .inl (F.1.2.2 0, cap, .inl (zeroTo f 0)))]]) (by rw [zeroTo_0]; rfl) ?_
  have loop : ∀ i, i ≤ cap → G F 0 0 [[(h, .inr (4, [.ref a, .int (nI cap)]))], [(a, .inl (F.1.2.2 0, cap, .inl (zeroTo f i)))]] 11 [some (.ref h), some (.int (nI i))] [] := by
    refine up_loop (Q := fun i => G F 0 0 [[(h, .inr (4, [.ref a, .int (nI cap)]))], [(a, .inl (F.1.2.2 0, cap, .inl (zeroTo f i)))]] 11 [some (.ref h), some (.int (nI i))] []) ?_ (fun i hi ih => ?_)
    · refine g_iload_n hF dX4_fillWithZeros_11 rfl ?_
      refine g_aload_n hF dX4_fillWithZeros_12 rfl ?_
      refine g_get (j := 0) hF 0 rfl rfl (by decide) rfl m_41 rfl dX4_fillWithZeros_13 ?_
      refine g_alen hF rfl 1 0 rfl rfl rfl dX4_fillWithZeros_16 ?_
      refine g_icmp_ge (tgt := 33) hF dX4_fillWithZeros_17 (by decide) (fun c_17 => ?_) (fun c_17 => absurd (nI_le (Nat.le_refl cap) hc) c_17)
      refine g_regroup (gs' := [rowW F.1.2.2 h a cap (zeroTo f cap) cap]) (rfl) ?_
      exact g_vret hF hR dX4_fillWithZeros_33 ⟨rfl, rfl⟩
    · refine g_iload_n hF dX4_fillWithZeros_11 rfl ?_
      refine g_aload_n hF dX4_fillWithZeros_12 rfl ?_
      refine g_get (j := 0) hF 0 rfl rfl (by decide) rfl m_41 rfl dX4_fillWithZeros_13 ?_
      refine g_alen hF rfl 1 0 rfl rfl rfl dX4_fillWithZeros_16 ?_
      refine g_icmp_ge (tgt := 33) hF dX4_fillWithZeros_17 (by decide) (fun c_17 => absurd c_17 (nI_ge hi hc)) (fun c_17 => ?_)
      refine g_aload_n hF dX4_fillWithZeros_20 rfl ?_
      refine g_get (j := 0) hF 0 rfl rfl (by decide) rfl m_41 rfl dX4_fillWithZeros_21 ?_
      refine g_iload_n hF dX4_fillWithZeros_24 rfl ?_
      refine g_iconst (v := (0)) hF dX4_fillWithZeros_25 rfl ?_
      refine g_iast2 hF rfl 1 (g := zeroTo f (i + 1)) i rfl (vp_in_nI hi hc) (nI_clamp (by omega)) (zeroTo_succ f i) dX4_fillWithZeros_26 ?_
      refine g_iinc (v := nI (i + 1)) hF dX4_fillWithZeros_27 rfl (nI_1 i) rfl ?_
      refine g_goto (tgt := 11) hF dX4_fillWithZeros_30 (by decide) ?_
      exact ih
  refine g_aload_n hF dX4_fillWithZeros_0 rfl ?_
  refine g_aload_n hF dX4_fillWithZeros_1 rfl ?_
  refine g_get (j := 0) hF 0 rfl rfl (by decide) rfl m_41 rfl dX4_fillWithZeros_2 ?_
  refine g_alen hF rfl 1 0 rfl rfl rfl dX4_fillWithZeros_5 ?_
  refine g_put (j := 1) hF 0 rfl rfl (by decide) rfl m_42 rfl (tyX4_ok 1 (by decide)) rfl rfl (Nat.le_of_ble_eq_true rfl) dX4_fillWithZeros_6 ?_
  try dsimp only [gput, gputA, List.set, stGs, List.cons_append, List.nil_append]
  refine g_iconst (v := (0)) hF dX4_fillWithZeros_9 rfl ?_
  refine g_istore_n hF dX4_fillWithZeros_10 (Nat.le_of_ble_eq_true rfl) rfl ?_
  exact loop 0 (Nat.zero_le _)
set_option maxHeartbeats 4000000 in
set_option maxRecDepth 100000 in
theorem c_Row_copyFrom {E : Env3} {h a cap n : Nat} {f : Nat → Int32} {h2 a2 cap2 n2 : Nat} {f2 : Nat → Int32} (hn : n ≤ cap) (hc : cap < 2 ^ 31) (hn2 : n2 ≤ cap2) (hc2 : cap2 < 2 ^ 31) : Cd E none 2 yX4_copyFrom cX4_copyFrom 2 none [.ref h, .ref h2] [rowW E.2.2 h a cap f n, rowW E.2.2 h2 a2 cap2 f2 n2] none [rowW E.2.2 h a cap (va_cpy f2 f 0 0 (min n2 cap)) (min n2 cap), rowW E.2.2 h2 a2 cap2 f2 n2] := by
  refine Ct.of [some (.ref h), some (.ref h2)] (by decide +kernel) rfl (Nat.le_of_ble_eq_true rfl) (fun F hE hF hR hN => ?_)
  subst hE
  refine g_aload_n hF dX4_copyFrom_0 rfl ?_
  refine g_aload_n hF dX4_copyFrom_1 rfl ?_
  refine g_get (j := 1) hF 1 rfl rfl (by decide) rfl m_42 rfl dX4_copyFrom_2 ?_
  refine g_callVd hF (c_Row_resize (by omega)) cal_X4_resize rfl m_720 (by decide) (Or.inl rfl) (Nat.zero_le _) (Nat.zero_le _) 0 rfl rfl [0] rfl rfl (Nat.le_of_ble_eq_true rfl) rfl (Nat.le_of_ble_eq_true rfl) dX4_copyFrom_5 ?_
  try dsimp only [gput, gputA, List.set, stGs, List.cons_append, List.nil_append]
  rw [clampI_nI (show n2 < 2 ^ 31 by omega)]
  refine g_regroup (gs' := [[(h, .inr (4, [.ref a, .int (nI (min n2 cap))]))], [(a, .inl (F.1.2.2 0, cap, .inl f))], [(h2, .inr (4, [.ref a2, .int (nI n2)]))], [(a2, .inl (F.1.2.2 0, cap2, .inl f2))]]) rfl ?_
  refine g_aload_n hF dX4_copyFrom_8 rfl ?_
  refine g_get (j := 0) hF 2 rfl rfl (by decide) rfl m_41 rfl dX4_copyFrom_9 ?_
  refine g_iconst (v := (0)) hF dX4_copyFrom_12 rfl ?_
  refine g_aload_n hF dX4_copyFrom_13 rfl ?_
  refine g_get (j := 0) hF 0 rfl rfl (by decide) rfl m_41 rfl dX4_copyFrom_14 ?_
  refine g_iconst (v := (0)) hF dX4_copyFrom_17 rfl ?_
  refine g_aload_n hF dX4_copyFrom_18 rfl ?_
  refine g_get (j := 1) hF 0 rfl rfl (by decide) rfl m_42 rfl dX4_copyFrom_19 ?_
  refine g_copy hF rfl 3 1 0 0 (min n2 cap) m_721 m_723 m_722 m_16 (by decide) rfl rfl (by decide) (by decide) (nI_pos (by omega)) (by decide) (by decide) (nI_clamp (by omega)) (by omega) (by omega) (Nat.le_of_ble_eq_true rfl) dX4_copyFrom_22 ?_
  refine g_regroup (gs' := [rowW F.1.2.2 h a cap (va_cpy f2 f 0 0 (min n2 cap)) (min n2 cap), rowW F.1.2.2 h2 a2 cap2 f2 n2]) (rfl) ?_
  exact g_vret hF hR dX4_copyFrom_25 ⟨rfl, rfl⟩
set_option maxHeartbeats 4000000 in
set_option maxRecDepth 100000 in
theorem c_Row_mixedInto {E : Env3} {h a cap n : Nat} {f : Nat → Int32} {d0 : Int64} (hn : n ≤ cap) (hc : cap < 2 ^ 31) : Cd E none 1 yX4_mixedInto cX4_mixedInto 6 (some .long) [.ref h, .long d0] [rowW E.2.2 h a cap f n] (some (.long (mixS f n d0))) [rowW E.2.2 h a cap f n] := by
  refine Ct.of [some (.ref h), some (.long d0), none, none, none, none] (by decide +kernel) rfl (Nat.le_of_ble_eq_true rfl) (fun F hE hF hR hN => ?_)
  subst hE
  refine g_regroup (gs' := [[(h, .inr (4, [.ref a, .int (nI n)]))], [(a, .inl (F.1.2.2 0, cap, .inl f))]]) rfl ?_
  have loop : ∀ i, i ≤ n → G F 0 0 [[(h, .inr (4, [.ref a, .int (nI n)]))], [(a, .inl (F.1.2.2 0, cap, .inl (f)))]] 5 [some (.ref h), some (.long d0), none, some (.long (mixS f i d0)), none, some (.int (nI i))] [] := by
    refine up_loop (Q := fun i => G F 0 0 [[(h, .inr (4, [.ref a, .int (nI n)]))], [(a, .inl (F.1.2.2 0, cap, .inl (f)))]] 5 [some (.ref h), some (.long d0), none, some (.long (mixS f i d0)), none, some (.int (nI i))] []) ?_ (fun i hi ih => ?_)
    · refine g_iload hF dX4_mixedInto_5 rfl ?_
      refine g_aload_n hF dX4_mixedInto_7 rfl ?_
      refine g_get (j := 1) hF 0 rfl rfl (by decide) rfl m_42 rfl dX4_mixedInto_8 ?_
      refine g_icmp_ge (tgt := 32) hF dX4_mixedInto_11 (by decide) (fun c_11 => ?_) (fun c_11 => absurd (nI_le (Nat.le_refl n) (by omega)) c_11)
      refine g_lload_n hF dX4_mixedInto_32 rfl ?_
      refine g_regroup (gs' := [rowW F.1.2.2 h a cap f n]) (rfl) ?_
      exact g_lret hF hR dX4_mixedInto_33 ⟨rfl, rfl⟩
    · refine g_iload hF dX4_mixedInto_5 rfl ?_
      refine g_aload_n hF dX4_mixedInto_7 rfl ?_
      refine g_get (j := 1) hF 0 rfl rfl (by decide) rfl m_42 rfl dX4_mixedInto_8 ?_
      refine g_icmp_ge (tgt := 32) hF dX4_mixedInto_11 (by decide) (fun c_11 => absurd c_11 (nI_ge hi (by omega))) (fun c_11 => ?_)
      refine g_lload_n hF dX4_mixedInto_14 rfl ?_
      refine g_aload_n hF dX4_mixedInto_15 rfl ?_
      refine g_get (j := 0) hF 0 rfl rfl (by decide) rfl m_41 rfl dX4_mixedInto_16 ?_
      refine g_iload hF dX4_mixedInto_19 rfl ?_
      refine g_iald hF rfl 1 rfl (vp_in_nI (by omega) hc) (v := f i) (by rw [nI_clamp (by omega)]) dX4_mixedInto_21 ?_
      refine g_callSNq hF (c_mixed) cal_X8_mixed rfl m_791 (by decide) (Or.inl rfl) (Nat.zero_le _) (Nat.zero_le _) [] rfl rfl rfl (Nat.le_of_ble_eq_true rfl) dX4_mixedInto_22 ?_
      refine g_lstore_n hF dX4_mixedInto_25 (Nat.le_of_ble_eq_true rfl) rfl ?_
      refine g_iinc (v := nI (i + 1)) hF dX4_mixedInto_26 rfl (nI_1 i) rfl ?_
      refine g_goto (tgt := 5) hF dX4_mixedInto_29 (by decide) ?_
      exact ih
  refine g_lload_n hF dX4_mixedInto_0 rfl ?_
  refine g_lstore_n hF dX4_mixedInto_1 (Nat.le_of_ble_eq_true rfl) rfl ?_
  refine g_iconst (v := (0)) hF dX4_mixedInto_2 rfl ?_
  refine g_istore hF dX4_mixedInto_3 (Nat.le_of_ble_eq_true rfl) rfl ?_
  exact loop 0 (Nat.zero_le _)
set_option maxHeartbeats 4000000 in
set_option maxRecDepth 100000 in
theorem c_Row_mixedFromTopInto {E : Env3} {h a cap n : Nat} {f : Nat → Int32} {d0 : Int64} (hn : n ≤ cap) (hc : cap < 2 ^ 31) : Cd E none 2 yX4_mixedFromTopInto cX4_mixedFromTopInto 6 (some .long) [.ref h, .long d0] [rowW E.2.2 h a cap f n] (some (.long (mixS (fun k => rowGet f n (nI n - 1 - nI k)) n d0))) [rowW E.2.2 h a cap f n] := by
  refine Ct.of [some (.ref h), some (.long d0), none, none, none, none] (by decide +kernel) rfl (Nat.le_of_ble_eq_true rfl) (fun F hE hF hR hN => ?_)
  subst hE
  have loop : ∀ i, i ≤ n → G F 0 0 [rowW F.1.2.2 h a cap f n] 5 [some (.ref h), some (.long d0), none, some (.long (mixS (fun k => rowGet f n (nI n - 1 - nI k)) i d0)), none, some (.int (nI i))] [] := by
    refine up_loop (Q := fun i => G F 0 0 [rowW F.1.2.2 h a cap f n] 5 [some (.ref h), some (.long d0), none, some (.long (mixS (fun k => rowGet f n (nI n - 1 - nI k)) i d0)), none, some (.int (nI i))] []) ?_ (fun i hi ih => ?_)
    · refine g_iload hF dX4_mixedFromTopInto_5 rfl ?_
      refine g_aload_n hF dX4_mixedFromTopInto_7 rfl ?_
      refine g_get (j := 1) hF 0 rfl rfl (by decide) rfl m_42 rfl dX4_mixedFromTopInto_8 ?_
      refine g_icmp_ge (tgt := 31) hF dX4_mixedFromTopInto_11 (by decide) (fun c_11 => ?_) (fun c_11 => absurd (nI_le (Nat.le_refl n) (by omega)) c_11)
      refine g_lload_n hF dX4_mixedFromTopInto_31 rfl ?_
      exact g_lret hF hR dX4_mixedFromTopInto_32 ⟨rfl, rfl⟩
    · refine g_iload hF dX4_mixedFromTopInto_5 rfl ?_
      refine g_aload_n hF dX4_mixedFromTopInto_7 rfl ?_
      refine g_get (j := 1) hF 0 rfl rfl (by decide) rfl m_42 rfl dX4_mixedFromTopInto_8 ?_
      refine g_icmp_ge (tgt := 31) hF dX4_mixedFromTopInto_11 (by decide) (fun c_11 => absurd c_11 (nI_ge hi (by omega))) (fun c_11 => ?_)
      refine g_lload_n hF dX4_mixedFromTopInto_14 rfl ?_
      refine g_aload_n hF dX4_mixedFromTopInto_15 rfl ?_
      refine g_iload hF dX4_mixedFromTopInto_16 rfl ?_
      refine g_callVq hF (c_Row_fromTop (by first | omega | exact clampI_le | (split <;> omega)) (by omega)) cal_X4_fromTop rfl m_790 (by decide) (Or.inl rfl) (Nat.zero_le _) (Nat.zero_le _) 0 rfl rfl [0] rfl rfl rfl (Nat.le_of_ble_eq_true rfl) dX4_mixedFromTopInto_18 ?_
      refine g_callSNq hF (c_mixed) cal_X8_mixed rfl m_791 (by decide) (Or.inl rfl) (Nat.zero_le _) (Nat.zero_le _) [] rfl rfl rfl (Nat.le_of_ble_eq_true rfl) dX4_mixedFromTopInto_21 ?_
      refine g_lstore_n hF dX4_mixedFromTopInto_24 (Nat.le_of_ble_eq_true rfl) rfl ?_
      refine g_iinc (v := nI (i + 1)) hF dX4_mixedFromTopInto_25 rfl (nI_1 i) rfl ?_
      refine g_goto (tgt := 5) hF dX4_mixedFromTopInto_28 (by decide) ?_
      exact ih
  refine g_lload_n hF dX4_mixedFromTopInto_0 rfl ?_
  refine g_lstore_n hF dX4_mixedFromTopInto_1 (Nat.le_of_ble_eq_true rfl) rfl ?_
  refine g_iconst (v := (0)) hF dX4_mixedFromTopInto_2 rfl ?_
  refine g_istore hF dX4_mixedFromTopInto_3 (Nat.le_of_ble_eq_true rfl) rfl ?_
  exact loop 0 (Nat.zero_le _)
set_option maxHeartbeats 4000000 in
set_option maxRecDepth 100000 in
theorem c_Row_init {E : Env3} {h cap : Nat} (hc : cap < 2 ^ 27) : Ct E none 1 1 cap yX4_init cX4_init 2 none [.ref h, .int (nI cap)] [[(h, .inr (4, [.null, .int 0]))]] (fun r g => ∃ a : Nat, r = none ∧ g = [rowW E.2.2 h a cap (fun _ => 0) 0]) := by
  refine Ct.of [some (.ref h), some (.int (nI cap))] (by decide +kernel) rfl (Nat.le_of_ble_eq_true rfl) (fun F hE hF hR hN => ?_)
  subst hE
  refine g_aload_n hF dX4_init_0 rfl ?_
  refine g_objInit hF m_37 m_24 m_25 (by decide) (Nat.le_of_ble_eq_true rfl) dX4_init_1 ?_
  refine g_aload_n hF dX4_init_4 rfl ?_
  refine g_iload_n hF dX4_init_5 rfl ?_
  refine g_iconst (v := 0) hF dX4_init_6 rfl ?_
  refine g_max hF m_38 m_39 m_4 m_40 (by decide) (Nat.zero_le _) (Nat.zero_le _) (Nat.le_of_ble_eq_true rfl) dX4_init_7 ?_
  rw [if_neg (nI_pos (show cap < 2 ^ 31 by omega))]
  refine g_newi hF rfl m_48 (nI_pos (by omega)) (nI_clamp (by omega)) (by omega) (Nat.le_refl _) (by omega) dX4_init_10 (fun q => ?_)
  refine g_putF (j := 0) hF hN 0 rfl rfl (by decide) rfl m_41 rfl (tyX4_ok 0 (by decide)) rfl rfl (Nat.le_of_ble_eq_true rfl) dX4_init_12 ?_
  refine g_regroup (gs' := [rowW F.1.2.2 h q cap (fun _ => 0) 0]) rfl ?_
  refine g_widen (k' := 1) (n' := cap) (by omega) (by omega) ?_
  exact g_vret hF hR dX4_init_15 ⟨q, rfl, rfl⟩
