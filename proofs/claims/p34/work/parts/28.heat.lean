/-! the mean, the checksum, points -/
def foldI (d : Int64) (l : List Int32) : Int64 := l.foldl (fun d x => d * 31 + x.toInt64) d
def mixP (fc fn ft : Nat → Int32) : Nat → Int64 → Int64
  | 0, d => d
  | k + 1, d => foldI (mixP fc fn ft k d) [fc k, fn k, ft k]
def heatA (ft : Nat → Int32) : Nat → Int32 × Int32
  | 0 => (0, 0)
  | k + 1 => if ft k ≤ 0 then heatA ft k else ((heatA ft k).1 + 1, (heatA ft k).2 + ft k)
def heatF (a : Int32 × Int32) : UInt64 := if a.1 = 0 then 0 else FP.ddiv (FP.i2d a.2) (FP.i2d a.1)
theorem rowGet_one {f : Nat → Int32} {n i : Nat} (hi : i < n) (hn : n ≤ 80) : rowGet f n (nI i) = f i := rowGet_nI hi (by omega)
theorem heatA_no {ft : Nat → Int32} {i : Nat} (h : ft i ≤ 0) : heatA ft (i + 1) = heatA ft i := by
  show (if _ then _ else _) = _
  rw [if_pos h]
theorem heatA_yes {ft : Nat → Int32} {i : Nat} (h : ¬ ft i ≤ 0) : heatA ft (i + 1) = ((heatA ft i).1 + 1, (heatA ft i).2 + ft i) := by
  show (if _ then _ else _) = _
  rw [if_neg h]
set_option maxHeartbeats 4000000 in
set_option maxRecDepth 100000 in
theorem c_heat {E : Env3} {h p ri hp pts wts tps ti rc rn rt ac at0 np : Nat} {A : AV} {B : AV} {fc : Nat → Int32} {ft : Nat → Int32} {reason : Int32} {cause : Int32} {pc : Int32} (hnp : np ≤ 80) (hnan : ¬ (heatA ft np).1 = 0 → vf_n64 (FP.ddiv (FP.i2d (heatA ft np).2) (FP.i2d (heatA ft np).1)))  : Cd E none 2 yX8_heat cX8_heat 4 (some .double) [.ref h] [lanO h p ri A.1 hp pts pc wts tps reason cause B.1 ti, progO p rc rn rt, rowW E.2.2 rc ac 80 fc np, rowW E.2.2 rt at0 80 ft np] (some (.double (heatF (heatA ft np)))) [lanO h p ri A.1 hp pts pc wts tps reason cause B.1 ti, progO p rc rn rt, rowW E.2.2 rc ac 80 fc np, rowW E.2.2 rt at0 80 ft np] := by
  refine Ct.of [some (.ref h), none, none, none] (by decide +kernel) rfl (Nat.le_of_ble_eq_true rfl) (fun F hE hF hR hN => ?_)
  subst hE
  have loop : ∀ i, i ≤ np → G F 0 0 [lanO h p ri A.1 hp pts pc wts tps reason cause B.1 ti, progO p rc rn rt, rowW F.1.2.2 rc ac 80 fc np, rowW F.1.2.2 rt at0 80 ft np] 6 [some (.ref h), some (.int (heatA ft i).1), some (.int (heatA ft i).2), some (.int (nI i))] [] := by
    refine up_loop (Q := fun i => G F 0 0 [lanO h p ri A.1 hp pts pc wts tps reason cause B.1 ti, progO p rc rn rt, rowW F.1.2.2 rc ac 80 fc np, rowW F.1.2.2 rt at0 80 ft np] 6 [some (.ref h), some (.int (heatA ft i).1), some (.int (heatA ft i).2), some (.int (nI i))] []) ?_ (fun i hi ih => ?_)
    · refine g_iload_n hF dX8_heat_6 rfl ?_
      refine g_aload_n hF dX8_heat_7 rfl ?_
      refine g_get (j := 0) hF 0 rfl rfl (by decide) rfl m_247 rfl dX8_heat_8 ?_
      refine g_callVq hF (c_Prog_size) cal_X3_size rfl m_407 (by decide) (Or.inl rfl) (Nat.zero_le _) (Nat.zero_le _) 1 rfl rfl [1, 2] rfl rfl rfl (Nat.le_of_ble_eq_true rfl) dX8_heat_11 ?_
      refine g_icmp_ge (tgt := 48) hF dX8_heat_14 (by decide) (fun c_14 => ?_) (fun c_14 => absurd (nI_le (Nat.le_refl np) (by omega)) c_14)
      refine g_iload_n hF dX8_heat_48 rfl ?_
      refine g_if_ne (tgt := 56) hF dX8_heat_49 (by decide) (fun c_49 => ?_) (fun c_49 => ?_)
      · refine g_iload_n hF dX8_heat_56 rfl ?_
        refine g_i2d hF dX8_heat_57 ?_
        refine g_iload_n hF dX8_heat_58 rfl ?_
        refine g_i2d hF dX8_heat_59 ?_
        refine g_ddiv hF dX8_heat_60 (hnan c_49) ?_
        exact g_dret hF hR dX8_heat_61 ⟨(by unfold heatF; rw [if_neg c_49]), rfl⟩
      · refine g_dconst0 hF dX8_heat_52 ?_
        refine g_goto (tgt := 61) hF dX8_heat_53 (by decide) ?_
        exact g_dret hF hR dX8_heat_61 ⟨(by unfold heatF; rw [if_pos c_49]), rfl⟩
    · refine g_iload_n hF dX8_heat_6 rfl ?_
      refine g_aload_n hF dX8_heat_7 rfl ?_
      refine g_get (j := 0) hF 0 rfl rfl (by decide) rfl m_247 rfl dX8_heat_8 ?_
      refine g_callVq hF (c_Prog_size) cal_X3_size rfl m_407 (by decide) (Or.inl rfl) (Nat.zero_le _) (Nat.zero_le _) 1 rfl rfl [1, 2] rfl rfl rfl (Nat.le_of_ble_eq_true rfl) dX8_heat_11 ?_
      refine g_icmp_ge (tgt := 48) hF dX8_heat_14 (by decide) (fun c_14 => absurd c_14 (nI_ge hi (by omega))) (fun c_14 => ?_)
      refine g_aload_n hF dX8_heat_17 rfl ?_
      refine g_get (j := 0) hF 0 rfl rfl (by decide) rfl m_247 rfl dX8_heat_18 ?_
      refine g_iload_n hF dX8_heat_21 rfl ?_
      refine g_callVq hF (c_Prog_timesAt (by omega)) cal_X3_timesAt rfl m_663 (by decide) (Or.inl rfl) (Nat.zero_le _) (Nat.zero_le _) 1 rfl rfl [1, 3] rfl rfl rfl (Nat.le_of_ble_eq_true rfl) dX8_heat_22 ?_
      rw [rowGet_one hi hnp]
      refine g_if_le (tgt := 42) hF dX8_heat_25 (by decide) (fun c_25 => ?_) (fun c_25 => ?_)
      · refine g_iinc (v := nI (i + 1)) hF dX8_heat_42 rfl (nI_1 i) rfl ?_
        refine g_goto (tgt := 6) hF dX8_heat_45 (by decide) ?_
        rw [heatA_no c_25] at ih
        exact ih
      · refine g_iinc hF dX8_heat_28 rfl rfl rfl ?_
        refine g_iload_n hF dX8_heat_31 rfl ?_
        refine g_aload_n hF dX8_heat_32 rfl ?_
        refine g_get (j := 0) hF 0 rfl rfl (by decide) rfl m_247 rfl dX8_heat_33 ?_
        refine g_iload_n hF dX8_heat_36 rfl ?_
        refine g_callVq hF (c_Prog_timesAt (by omega)) cal_X3_timesAt rfl m_663 (by decide) (Or.inl rfl) (Nat.zero_le _) (Nat.zero_le _) 1 rfl rfl [1, 3] rfl rfl rfl (Nat.le_of_ble_eq_true rfl) dX8_heat_37 ?_
        rw [rowGet_one hi hnp]
        refine g_iadd hF dX8_heat_40 ?_
        refine g_istore_n hF dX8_heat_41 (Nat.le_of_ble_eq_true rfl) rfl ?_
        refine g_iinc (v := nI (i + 1)) hF dX8_heat_42 rfl (nI_1 i) rfl ?_
        refine g_goto (tgt := 6) hF dX8_heat_45 (by decide) ?_
        rw [heatA_yes c_25] at ih
        exact ih
  refine g_iconst (v := (0)) hF dX8_heat_0 rfl ?_
  refine g_istore_n hF dX8_heat_1 (Nat.le_of_ble_eq_true rfl) rfl ?_
  refine g_iconst (v := (0)) hF dX8_heat_2 rfl ?_
  refine g_istore_n hF dX8_heat_3 (Nat.le_of_ble_eq_true rfl) rfl ?_
  refine g_iconst (v := (0)) hF dX8_heat_4 rfl ?_
  refine g_istore_n hF dX8_heat_5 (Nat.le_of_ble_eq_true rfl) rfl ?_
  exact loop 0 (Nat.zero_le _)
set_option maxHeartbeats 4000000 in
set_option maxRecDepth 100000 in
theorem c_mixedProgram {E : Env3} {h p ri hp pts wts tps ti rc rn rt ac an at0 np : Nat} {A : AV} {B : AV} {fc : Nat → Int32} {fn : Nat → Int32} {ft : Nat → Int32} {reason : Int32} {cause : Int32} {pc : Int32} {d0 : Int64} (hnp : np ≤ 80)  : Cd E none 2 yX8_mixedProgram cX8_mixedProgram 6 (some .long) [.ref h, .long d0] [lanO h p ri A.1 hp pts pc wts tps reason cause B.1 ti, progO p rc rn rt, rowW E.2.2 rc ac 80 fc np, rowW E.2.2 rn an 80 fn np, rowW E.2.2 rt at0 80 ft np] (some (.long (mixP fc fn ft np d0))) [lanO h p ri A.1 hp pts pc wts tps reason cause B.1 ti, progO p rc rn rt, rowW E.2.2 rc ac 80 fc np, rowW E.2.2 rn an 80 fn np, rowW E.2.2 rt at0 80 ft np] := by
  refine Ct.of [some (.ref h), some (.long d0), none, none, none, none] (by decide +kernel) rfl (Nat.le_of_ble_eq_true rfl) (fun F hE hF hR hN => ?_)
  subst hE
  have loop : ∀ i, i ≤ np → G F 0 0 [lanO h p ri A.1 hp pts pc wts tps reason cause B.1 ti, progO p rc rn rt, rowW F.1.2.2 rc ac 80 fc np, rowW F.1.2.2 rn an 80 fn np, rowW F.1.2.2 rt at0 80 ft np] 5 [some (.ref h), some (.long d0), none, some (.long (mixP fc fn ft i d0)), none, some (.int (nI i))] [] := by
    refine up_loop (Q := fun i => G F 0 0 [lanO h p ri A.1 hp pts pc wts tps reason cause B.1 ti, progO p rc rn rt, rowW F.1.2.2 rc ac 80 fc np, rowW F.1.2.2 rn an 80 fn np, rowW F.1.2.2 rt at0 80 ft np] 5 [some (.ref h), some (.long d0), none, some (.long (mixP fc fn ft i d0)), none, some (.int (nI i))] []) ?_ (fun i hi ih => ?_)
    · refine g_iload hF dX8_mixedProgram_5 rfl ?_
      refine g_aload_n hF dX8_mixedProgram_7 rfl ?_
      refine g_get (j := 0) hF 0 rfl rfl (by decide) rfl m_247 rfl dX8_mixedProgram_8 ?_
      refine g_callVq hF (c_Prog_size) cal_X3_size rfl m_407 (by decide) (Or.inl rfl) (Nat.zero_le _) (Nat.zero_le _) 1 rfl rfl [1, 2] rfl rfl rfl (Nat.le_of_ble_eq_true rfl) dX8_mixedProgram_11 ?_
      refine g_icmp_ge (tgt := 65) hF dX8_mixedProgram_14 (by decide) (fun c_14 => ?_) (fun c_14 => absurd (nI_le (Nat.le_refl np) (by omega)) c_14)
      refine g_lload_n hF dX8_mixedProgram_65 rfl ?_
      exact g_lret hF hR dX8_mixedProgram_66 ⟨rfl, rfl⟩
    · refine g_iload hF dX8_mixedProgram_5 rfl ?_
      refine g_aload_n hF dX8_mixedProgram_7 rfl ?_
      refine g_get (j := 0) hF 0 rfl rfl (by decide) rfl m_247 rfl dX8_mixedProgram_8 ?_
      refine g_callVq hF (c_Prog_size) cal_X3_size rfl m_407 (by decide) (Or.inl rfl) (Nat.zero_le _) (Nat.zero_le _) 1 rfl rfl [1, 2] rfl rfl rfl (Nat.le_of_ble_eq_true rfl) dX8_mixedProgram_11 ?_
      refine g_icmp_ge (tgt := 65) hF dX8_mixedProgram_14 (by decide) (fun c_14 => absurd c_14 (nI_ge hi (by omega))) (fun c_14 => ?_)
      refine g_lload_n hF dX8_mixedProgram_17 rfl ?_
      refine g_aload_n hF dX8_mixedProgram_18 rfl ?_
      refine g_get (j := 0) hF 0 rfl rfl (by decide) rfl m_247 rfl dX8_mixedProgram_19 ?_
      refine g_iload hF dX8_mixedProgram_22 rfl ?_
      refine g_callVq hF (c_Prog_codeAt (by omega)) cal_X3_codeAt rfl m_661 (by decide) (Or.inl rfl) (Nat.zero_le _) (Nat.zero_le _) 1 rfl rfl [1, 2] rfl rfl rfl (Nat.le_of_ble_eq_true rfl) dX8_mixedProgram_24 ?_
      rw [rowGet_one hi hnp]
      refine g_callSq hF (c_mixed) cal_X8_mixed rfl m_778 (by decide) (Or.inl rfl) (Nat.zero_le _) (Nat.zero_le _) [] rfl rfl rfl (Nat.le_of_ble_eq_true rfl) dX8_mixedProgram_27 ?_
      refine g_lstore_n hF dX8_mixedProgram_30 (Nat.le_of_ble_eq_true rfl) rfl ?_
      refine g_lload_n hF dX8_mixedProgram_31 rfl ?_
      refine g_aload_n hF dX8_mixedProgram_32 rfl ?_
      refine g_get (j := 0) hF 0 rfl rfl (by decide) rfl m_247 rfl dX8_mixedProgram_33 ?_
      refine g_iload hF dX8_mixedProgram_36 rfl ?_
      refine g_callVq hF (c_Prog_numberAt (by omega)) cal_X3_numberAt rfl m_662 (by decide) (Or.inl rfl) (Nat.zero_le _) (Nat.zero_le _) 1 rfl rfl [1, 3] rfl rfl rfl (Nat.le_of_ble_eq_true rfl) dX8_mixedProgram_38 ?_
      rw [rowGet_one hi hnp]
      refine g_callSq hF (c_mixed) cal_X8_mixed rfl m_778 (by decide) (Or.inl rfl) (Nat.zero_le _) (Nat.zero_le _) [] rfl rfl rfl (Nat.le_of_ble_eq_true rfl) dX8_mixedProgram_41 ?_
      refine g_lstore_n hF dX8_mixedProgram_44 (Nat.le_of_ble_eq_true rfl) rfl ?_
      refine g_lload_n hF dX8_mixedProgram_45 rfl ?_
      refine g_aload_n hF dX8_mixedProgram_46 rfl ?_
      refine g_get (j := 0) hF 0 rfl rfl (by decide) rfl m_247 rfl dX8_mixedProgram_47 ?_
      refine g_iload hF dX8_mixedProgram_50 rfl ?_
      refine g_callVq hF (c_Prog_timesAt (by omega)) cal_X3_timesAt rfl m_663 (by decide) (Or.inl rfl) (Nat.zero_le _) (Nat.zero_le _) 1 rfl rfl [1, 4] rfl rfl rfl (Nat.le_of_ble_eq_true rfl) dX8_mixedProgram_52 ?_
      rw [rowGet_one hi hnp]
      refine g_callSq hF (c_mixed) cal_X8_mixed rfl m_778 (by decide) (Or.inl rfl) (Nat.zero_le _) (Nat.zero_le _) [] rfl rfl rfl (Nat.le_of_ble_eq_true rfl) dX8_mixedProgram_55 ?_
      refine g_lstore_n hF dX8_mixedProgram_58 (Nat.le_of_ble_eq_true rfl) rfl ?_
      refine g_iinc (v := nI (i + 1)) hF dX8_mixedProgram_59 rfl (nI_1 i) rfl ?_
      refine g_goto (tgt := 5) hF dX8_mixedProgram_62 (by decide) ?_
      exact ih
  refine g_lload_n hF dX8_mixedProgram_0 rfl ?_
  refine g_lstore_n hF dX8_mixedProgram_1 (Nat.le_of_ble_eq_true rfl) rfl ?_
  refine g_iconst (v := (0)) hF dX8_mixedProgram_2 rfl ?_
  refine g_istore hF dX8_mixedProgram_3 (Nat.le_of_ble_eq_true rfl) rfl ?_
  exact loop 0 (Nat.zero_le _)
set_option maxHeartbeats 4000000 in
set_option maxRecDepth 100000 in
theorem c_mixedPoints_0 {E : Env3} {h p ri hp pts wts tps ti : Nat} {A : AV} {B : AV} {reason : Int32} {cause : Int32} {d0 : Int64}  : Cd E none 1 yX8_mixedPoints cX8_mixedPoints 7 (some .long) [.ref h, .long d0] [lanO h p ri A.1 hp pts 0 wts tps reason cause B.1 ti] (some (.long d0)) [lanO h p ri A.1 hp pts 0 wts tps reason cause B.1 ti] := by
  refine Ct.of [some (.ref h), some (.long d0), none, none, none, none, none] (by decide +kernel) rfl (Nat.le_of_ble_eq_true rfl) (fun F hE hF hR hN => ?_)
  subst hE
  refine g_lload_n hF dX8_mixedPoints_0 rfl ?_
  refine g_lstore_n hF dX8_mixedPoints_1 (Nat.le_of_ble_eq_true rfl) rfl ?_
  refine g_iconst (v := (0)) hF dX8_mixedPoints_2 rfl ?_
  refine g_istore hF dX8_mixedPoints_3 (Nat.le_of_ble_eq_true rfl) rfl ?_
  refine g_iload hF dX8_mixedPoints_5 rfl ?_
  refine g_aload_n hF dX8_mixedPoints_7 rfl ?_
  refine g_get (j := 5) hF 0 rfl rfl (by decide) rfl m_252 rfl dX8_mixedPoints_8 ?_
  refine g_icmp_ge (tgt := 76) hF dX8_mixedPoints_11 (by decide) (fun c_11 => ?_) (fun c_11 => absurd (show (0 : Int32) ≤ 0 by decide) c_11)
  refine g_lload_n hF dX8_mixedPoints_76 rfl ?_
  exact g_lret hF hR dX8_mixedPoints_77 ⟨rfl, rfl⟩
set_option maxHeartbeats 4000000 in
set_option maxRecDepth 100000 in
theorem c_mixedThen_no {E : Env3} {h p ri hp pts wts tps ti ma cnt : Nat} {A : AV} {B : AV} {v : SV} {ad : Nat → Nat} {M : Nat → Nat → Int32} {reason : Int32} {cause : Int32} {pc : Int32} {d0 : Int64} {j : Nat} (hc : cnt ≤ 200) (hj : j < 2 ^ 31) (hj2 : cnt < j)  : Cd E none 4 yX8_mixedThen cX8_mixedThen 7 (some .long) [.ref h, .long d0, .int (nI j)] [lanO h p ri A.1 hp pts pc wts tps reason cause B.1 ti, stOv A v, rw1 E.2.2 A v, rw2 E.2.2 A v, rw3 E.2.2 A v, pastO hp ma cnt, arrM E.2.2 ma ad, momsW ad M] (some (.long d0)) [lanO h p ri A.1 hp pts pc wts tps reason cause B.1 ti, stOv A v, rw1 E.2.2 A v, rw2 E.2.2 A v, rw3 E.2.2 A v, pastO hp ma cnt, arrM E.2.2 ma ad, momsW ad M] := by
  refine Ct.of [some (.ref h), some (.long d0), none, some (.int (nI j)), none, none, none] (by decide +kernel) rfl (Nat.le_of_ble_eq_true rfl) (fun F hE hF hR hN => ?_)
  subst hE
  refine g_iload_n hF dX8_mixedThen_0 rfl ?_
  refine g_aload_n hF dX8_mixedThen_1 rfl ?_
  refine g_get (j := 3) hF 0 rfl rfl (by decide) rfl m_250 rfl dX8_mixedThen_2 ?_
  refine g_callVq hF (c_Past_size) cal_X1_size rfl m_621 (by decide) (Or.inl rfl) (Nat.zero_le _) (Nat.zero_le _) 5 rfl rfl [5] rfl rfl rfl (Nat.le_of_ble_eq_true rfl) dX8_mixedThen_5 ?_
  refine g_icmp_le (tgt := 13) hF dX8_mixedThen_8 (by decide) (fun c_8 => absurd c_8 (nI_ge hj2 hj)) (fun c_8 => ?_)
  refine g_lload_n hF dX8_mixedThen_11 rfl ?_
  exact g_lret hF hR dX8_mixedThen_12 ⟨rfl, rfl⟩
set_option maxHeartbeats 4000000 in
set_option maxRecDepth 100000 in
theorem c_mixedThen_yes {E : Env3} {h p ri hp pts wts tps ti ma cnt : Nat} {A : AV} {B : AV} {v : SV} {ad : Nat → Nat} {M : Nat → Nat → Int32} {reason : Int32} {cause : Int32} {pc : Int32} {d0 : Int64} {j : Nat} (hc : cnt ≤ 200) (hj : 1 ≤ j) (hj2 : j ≤ cnt) (h2 : v.2.1.2 ≤ 12)  : Cd E none 4 yX8_mixedThen cX8_mixedThen 7 (some .long) [.ref h, .long d0, .int (nI j)] [lanO h p ri A.1 hp pts pc wts tps reason cause B.1 ti, stOv A v, rw1 E.2.2 A v, rw2 E.2.2 A v, rw3 E.2.2 A v, pastO hp ma cnt, arrM E.2.2 ma ad, momsW ad M] (some (.long (foldI d0 [tellM (M (cnt - j)) 0, tellM (M (cnt - j)) 2, cellAgoF M cnt 0 j (getR v.2.1 0)]))) [lanO h p ri A.1 hp pts pc wts tps reason cause B.1 ti, stOv A v, rw1 E.2.2 A v, rw2 E.2.2 A v, rw3 E.2.2 A v, pastO hp ma cnt, arrM E.2.2 ma ad, momsW ad M] := by
  refine Ct.of [some (.ref h), some (.long d0), none, some (.int (nI j)), none, none, none] (by decide +kernel) rfl (Nat.le_of_ble_eq_true rfl) (fun F hE hF hR hN => ?_)
  subst hE
  refine g_iload_n hF dX8_mixedThen_0 rfl ?_
  refine g_aload_n hF dX8_mixedThen_1 rfl ?_
  refine g_get (j := 3) hF 0 rfl rfl (by decide) rfl m_250 rfl dX8_mixedThen_2 ?_
  refine g_callVq hF (c_Past_size) cal_X1_size rfl m_621 (by decide) (Or.inl rfl) (Nat.zero_le _) (Nat.zero_le _) 5 rfl rfl [5] rfl rfl rfl (Nat.le_of_ble_eq_true rfl) dX8_mixedThen_5 ?_
  refine g_icmp_le (tgt := 13) hF dX8_mixedThen_8 (by decide) (fun c_8 => ?_) (fun c_8 => absurd (nI_le (show j ≤ cnt by omega) (by omega)) c_8)
  refine g_lload_n hF dX8_mixedThen_13 rfl ?_
  refine g_lstore hF dX8_mixedThen_14 (Nat.le_of_ble_eq_true rfl) rfl ?_
  refine g_iconst (v := (0)) hF dX8_mixedThen_16 rfl ?_
  refine g_istore hF dX8_mixedThen_17 (Nat.le_of_ble_eq_true rfl) rfl ?_
  refine g_iload hF dX8_mixedThen_19 rfl ?_
  refine g_iconst (v := (4)) hF dX8_mixedThen_21 rfl ?_
  refine g_icmp_gt (tgt := 45) hF dX8_mixedThen_22 (by decide) (fun c_22 => absurd c_22 (show ¬ (((4) : Int32) < (0)) by decide)) (fun c_22 => ?_)
  refine g_lload hF dX8_mixedThen_25 rfl ?_
  refine g_aload_n hF dX8_mixedThen_27 rfl ?_
  refine g_iload_n hF dX8_mixedThen_28 rfl ?_
  refine g_iload hF dX8_mixedThen_29 rfl ?_
  refine g_callVq hF (c_then_m (j := j) (k := 0) (by omega) (by omega) (by omega) (by decide)) cal_X8_then rfl m_808 (by decide) (Or.inl rfl) (Nat.zero_le _) (Nat.zero_le _) 0 rfl rfl [0, 1, 2, 3, 4, 5, 6, 7] rfl rfl rfl (Nat.le_of_ble_eq_true rfl) dX8_mixedThen_31 ?_
  refine g_callSq hF (c_mixed) cal_X8_mixed rfl m_778 (by decide) (Or.inl rfl) (Nat.zero_le _) (Nat.zero_le _) [] rfl rfl rfl (Nat.le_of_ble_eq_true rfl) dX8_mixedThen_34 ?_
  refine g_lstore hF dX8_mixedThen_37 (Nat.le_of_ble_eq_true rfl) rfl ?_
  refine g_iinc (v := (2)) hF dX8_mixedThen_39 rfl rfl rfl ?_
  refine g_goto (tgt := 19) hF dX8_mixedThen_42 (by decide) ?_
  refine g_iload hF dX8_mixedThen_19 rfl ?_
  refine g_iconst (v := (4)) hF dX8_mixedThen_21 rfl ?_
  refine g_icmp_gt (tgt := 45) hF dX8_mixedThen_22 (by decide) (fun c_22 => absurd c_22 (show ¬ (((4) : Int32) < (2)) by decide)) (fun c_22 => ?_)
  refine g_lload hF dX8_mixedThen_25 rfl ?_
  refine g_aload_n hF dX8_mixedThen_27 rfl ?_
  refine g_iload_n hF dX8_mixedThen_28 rfl ?_
  refine g_iload hF dX8_mixedThen_29 rfl ?_
  refine g_callVq hF (c_then_m (j := j) (k := 2) (by omega) (by omega) (by omega) (by decide)) cal_X8_then rfl m_808 (by decide) (Or.inl rfl) (Nat.zero_le _) (Nat.zero_le _) 0 rfl rfl [0, 1, 2, 3, 4, 5, 6, 7] rfl rfl rfl (Nat.le_of_ble_eq_true rfl) dX8_mixedThen_31 ?_
  refine g_callSq hF (c_mixed) cal_X8_mixed rfl m_778 (by decide) (Or.inl rfl) (Nat.zero_le _) (Nat.zero_le _) [] rfl rfl rfl (Nat.le_of_ble_eq_true rfl) dX8_mixedThen_34 ?_
  refine g_lstore hF dX8_mixedThen_37 (Nat.le_of_ble_eq_true rfl) rfl ?_
  refine g_iinc (v := (4)) hF dX8_mixedThen_39 rfl rfl rfl ?_
  refine g_goto (tgt := 19) hF dX8_mixedThen_42 (by decide) ?_
  refine g_iload hF dX8_mixedThen_19 rfl ?_
  refine g_iconst (v := (4)) hF dX8_mixedThen_21 rfl ?_
  refine g_icmp_gt (tgt := 45) hF dX8_mixedThen_22 (by decide) (fun c_22 => absurd c_22 (show ¬ (((4) : Int32) < (4)) by decide)) (fun c_22 => ?_)
  refine g_lload hF dX8_mixedThen_25 rfl ?_
  refine g_aload_n hF dX8_mixedThen_27 rfl ?_
  refine g_iload_n hF dX8_mixedThen_28 rfl ?_
  refine g_iload hF dX8_mixedThen_29 rfl ?_
  refine g_callVq hF (c_then_c (j := j) (c := 0) (by omega) (by omega) (by decide) (by omega)) cal_X8_then rfl m_808 (by decide) (Or.inl rfl) (Nat.zero_le _) (Nat.zero_le _) 0 rfl rfl [0, 1, 2, 3, 4, 5, 6, 7] rfl rfl rfl (Nat.le_of_ble_eq_true rfl) dX8_mixedThen_31 ?_
  refine g_callSq hF (c_mixed) cal_X8_mixed rfl m_778 (by decide) (Or.inl rfl) (Nat.zero_le _) (Nat.zero_le _) [] rfl rfl rfl (Nat.le_of_ble_eq_true rfl) dX8_mixedThen_34 ?_
  refine g_lstore hF dX8_mixedThen_37 (Nat.le_of_ble_eq_true rfl) rfl ?_
  refine g_iinc (v := (6)) hF dX8_mixedThen_39 rfl rfl rfl ?_
  refine g_goto (tgt := 19) hF dX8_mixedThen_42 (by decide) ?_
  refine g_iload hF dX8_mixedThen_19 rfl ?_
  refine g_iconst (v := (4)) hF dX8_mixedThen_21 rfl ?_
  refine g_icmp_gt (tgt := 45) hF dX8_mixedThen_22 (by decide) (fun c_22 => ?_) (fun c_22 => absurd (show ((4) : Int32) < (6) by decide) c_22)
  refine g_lload hF dX8_mixedThen_45 rfl ?_
  exact g_lret hF hR dX8_mixedThen_47 ⟨rfl, rfl⟩
