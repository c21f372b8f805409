/-! runs without points, going back, trying out -/
theorem neg1_lt {n : Nat} (h : n < 2 ^ 31) : (-1 : Int32) < nI n := by
  rw [Int32.lt_iff_toInt_lt, nI_toInt h]
  have e : (-1 : Int32).toInt = -1 := by decide
  rw [e]
  omega
theorem runR_stop {pc pn inp : RV} {hit : SV → Bool} {k : Nat} {x : RS} (h : ¬ (readyF pc x.2.1).2.2.2.2.2.1 = 0) : runR pc pn inp hit (k + 1) x = (0, readR pc x, if (readyF pc x.2.1).2.2.2.2.2.1 = 1 then 1 else 2) := by
  show (if _ then _ else _) = _
  rw [if_pos h]
theorem runR_halt {pc pn inp : RV} {hit : SV → Bool} {k : Nat} {x : RS} (h : (readyF pc x.2.1).2.2.2.2.2.1 = 0) (h1 : (stepR pc pn inp x).2.1.2.2.2.2.2.1 = 1) : runR pc pn inp hit (k + 1) x = (1, stepR pc pn inp x, 1) := by
  show (if _ then _ else _) = _
  rw [if_neg (fun y => y h), if_pos h1]
theorem runR_hit {pc pn inp : RV} {hit : SV → Bool} {k : Nat} {x : RS} (h : (readyF pc x.2.1).2.2.2.2.2.1 = 0) (h1 : ¬ (stepR pc pn inp x).2.1.2.2.2.2.2.1 = 1) (h2 : hit (stepR pc pn inp x).2.1 = true) : runR pc pn inp hit (k + 1) x = (1, stepR pc pn inp x, 5) := by
  show (if _ then _ else _) = _
  rw [if_neg (fun y => y h), if_neg h1, if_pos h2]
theorem runR_go {pc pn inp : RV} {hit : SV → Bool} {k : Nat} {x : RS} (h : (readyF pc x.2.1).2.2.2.2.2.1 = 0) (h1 : ¬ (stepR pc pn inp x).2.1.2.2.2.2.2.1 = 1) (h2 : hit (stepR pc pn inp x).2.1 = false) : runR pc pn inp hit (k + 1) x = ((runR pc pn inp hit k (stepR pc pn inp x)).1 + 1, (runR pc pn inp hit k (stepR pc pn inp x)).2) := by
  show (if _ then _ else _) = _
  rw [if_neg (fun y => y h), if_neg h1, if_neg (by rw [h2]; decide)]
theorem tryF_stop {pc pn inp : RV} {k : Nat} {v : SV} (h : ¬ (readyF pc v).2.2.2.2.2.1 = 0) : tryF pc pn inp (k + 1) v = (0, readyF pc v) := by
  show (if _ then _ else _) = _
  rw [if_pos h]
theorem tryF_go {pc pn inp : RV} {k : Nat} {v : SV} (h : (readyF pc v).2.2.2.2.2.1 = 0) : tryF pc pn inp (k + 1) v = ((tryF pc pn inp k (perfF (rowGet pc.1 pc.2 (readyF pc v).2.2.2.2.1) (rowGet pn.1 pn.2 (readyF pc v).2.2.2.2.1) inp (readyF pc v))).1 + 1, (tryF pc pn inp k (perfF (rowGet pc.1 pc.2 (readyF pc v).2.2.2.2.1) (rowGet pn.1 pn.2 (readyF pc v).2.2.2.2.1) inp (readyF pc v))).2) := by
  show (if _ then _ else _) = _
  rw [if_neg (fun y => y h)]
set_option maxHeartbeats 4000000 in
set_option maxRecDepth 100000 in
theorem c_pointStopping_0 {E : Env3} {h p ri hp pts wts tps ti : Nat} {A : AV} {B : AV} {reason : Int32} {cause : Int32}  : Cd E none 0 yX8_pointStopping cX8_pointStopping 4 (some .int) [.ref h] [lanO h p ri A.1 hp pts 0 wts tps reason cause B.1 ti] (some (.int (-1))) [lanO h p ri A.1 hp pts 0 wts tps reason cause B.1 ti] := by
  refine Ct.of [some (.ref h), none, none, none] (by decide +kernel) rfl (Nat.le_of_ble_eq_true rfl) (fun F hE hF hR hN => ?_)
  subst hE
  refine g_iconst (v := (-1)) hF dX8_pointStopping_0 rfl ?_
  refine g_istore_n hF dX8_pointStopping_1 (Nat.le_of_ble_eq_true rfl) rfl ?_
  refine g_iconst (v := (0)) hF dX8_pointStopping_2 rfl ?_
  refine g_istore_n hF dX8_pointStopping_3 (Nat.le_of_ble_eq_true rfl) rfl ?_
  refine g_iload_n hF dX8_pointStopping_4 rfl ?_
  refine g_aload_n hF dX8_pointStopping_5 rfl ?_
  refine g_get (j := 5) hF 0 rfl rfl (by decide) rfl m_252 rfl dX8_pointStopping_6 ?_
  refine g_icmp_ge (tgt := 53) hF dX8_pointStopping_9 (by decide) (fun c_9 => ?_) (fun c_9 => absurd (show (0 : Int32) ≤ 0 by decide) c_9)
  refine g_iload_n hF dX8_pointStopping_53 rfl ?_
  exact g_iret hF hR dX8_pointStopping_54 ⟨rfl, rfl⟩
set_option maxHeartbeats 4000000 in
set_option maxRecDepth 100000 in
theorem c_stopsRun_0y {E : Env3} {h p ri hp pts wts tps ti ma cnt : Nat} {A : AV} {B : AV} {v : SV} {ad : Nat → Nat} {reason : Int32} {cause : Int32} (hs : v.2.2.2.2.2.1 = 1)  : Cd E none 3 yX8_stopsRun cX8_stopsRun 5 (some .boolean) [.ref h, .int (-1)] [lanO h p ri A.1 hp pts 0 wts tps reason cause B.1 ti, stOv A v, rw3 E.2.2 A v, pastO hp ma cnt, arrM E.2.2 ma ad] (some (.int 1)) [lanO h p ri A.1 hp pts 0 wts tps 1 (-1) B.1 ti, stOv A v, rw3 E.2.2 A v, pastO hp ma cnt, arrM E.2.2 ma ad] := by
  refine Ct.of [some (.ref h), some (.int (-1)), none, none, none] (by decide +kernel) rfl (Nat.le_of_ble_eq_true rfl) (fun F hE hF hR hN => ?_)
  subst hE
  refine g_aload_n hF dX8_stopsRun_0 rfl ?_
  refine g_get (j := 2) hF 0 rfl rfl (by decide) rfl m_249 rfl dX8_stopsRun_1 ?_
  refine g_getN (j := 5) hF 1 rfl rfl (by decide) rfl m_87 rfl dX8_stopsRun_4 ?_
  refine g_iconst (v := (1)) hF dX8_stopsRun_7 rfl ?_
  refine g_icmp_ne (tgt := 19) hF dX8_stopsRun_8 (by decide) (fun c_8 => absurd hs c_8) (fun c_8 => ?_)
  refine g_aload_n hF dX8_stopsRun_11 rfl ?_
  refine g_iconst (v := (1)) hF dX8_stopsRun_12 rfl ?_
  refine g_iconst (v := (-1)) hF dX8_stopsRun_13 rfl ?_
  refine g_callVd hF (c_stopBy) cal_X8_stopBy rfl m_403 (by decide) (Or.inl rfl) (Nat.zero_le _) (Nat.zero_le _) 0 rfl rfl [0] rfl rfl (Nat.le_of_ble_eq_true rfl) rfl (Nat.le_of_ble_eq_true rfl) dX8_stopsRun_14 ?_
  try dsimp only [gput, gputA, List.set, stGs, List.cons_append, List.nil_append]
  refine g_iconst (v := (1)) hF dX8_stopsRun_17 rfl ?_
  exact g_zret hF hR dX8_stopsRun_18 rfl ⟨rfl, rfl⟩
set_option maxHeartbeats 4000000 in
set_option maxRecDepth 100000 in
theorem c_stopsRun_0n {E : Env3} {h p ri hp pts wts tps ti ma cnt : Nat} {A : AV} {B : AV} {v : SV} {ad : Nat → Nat} {reason : Int32} {cause : Int32} (hs : ¬ v.2.2.2.2.2.1 = 1) (hc : cnt ≤ 200) (h1 : 1 ≤ cnt) (h3 : v.2.2.1.2 ≤ 8)  : Cd E none 3 yX8_stopsRun cX8_stopsRun 5 (some .boolean) [.ref h, .int (-1)] [lanO h p ri A.1 hp pts 0 wts tps reason cause B.1 ti, stOv A v, rw3 E.2.2 A v, pastO hp ma cnt, arrM E.2.2 ma ad] (some (.int 0)) [lanO h p ri A.1 hp pts 0 wts tps reason cause B.1 ti, stOv A v, rw3 E.2.2 A v, pastO hp ma cnt, arrM E.2.2 ma ad] := by
  refine Ct.of [some (.ref h), some (.int (-1)), none, none, none] (by decide +kernel) rfl (Nat.le_of_ble_eq_true rfl) (fun F hE hF hR hN => ?_)
  subst hE
  refine g_aload_n hF dX8_stopsRun_0 rfl ?_
  refine g_get (j := 2) hF 0 rfl rfl (by decide) rfl m_249 rfl dX8_stopsRun_1 ?_
  refine g_getN (j := 5) hF 1 rfl rfl (by decide) rfl m_87 rfl dX8_stopsRun_4 ?_
  refine g_iconst (v := (1)) hF dX8_stopsRun_7 rfl ?_
  refine g_icmp_ne (tgt := 19) hF dX8_stopsRun_8 (by decide) (fun c_8 => ?_) (fun c_8 => absurd c_8 hs)
  refine g_aload_n hF dX8_stopsRun_19 rfl ?_
  refine g_callVq hF (c_watchMet (by omega) (by omega)) cal_X8_watchMet rfl m_554 (by decide) (Or.inl rfl) (Nat.zero_le _) (Nat.zero_le _) 0 rfl rfl [0, 3, 4] rfl rfl rfl (Nat.le_of_ble_eq_true rfl) dX8_stopsRun_20 ?_
  refine g_istore_n hF dX8_stopsRun_23 (Nat.le_of_ble_eq_true rfl) rfl ?_
  refine g_iload_n hF dX8_stopsRun_24 rfl ?_
  refine g_iconst (v := (-1)) hF dX8_stopsRun_25 rfl ?_
  refine g_icmp_eq (tgt := 37) hF dX8_stopsRun_26 (by decide) (fun c_26 => ?_) (fun c_26 => absurd rfl c_26)
  refine g_aload_n hF dX8_stopsRun_37 rfl ?_
  refine g_get (j := 2) hF 0 rfl rfl (by decide) rfl m_249 rfl dX8_stopsRun_38 ?_
  refine g_getN (j := 2) hF 1 rfl rfl (by decide) rfl m_79 rfl dX8_stopsRun_41 ?_
  refine g_callVq hF (c_Row_size) cal_X4_size rfl m_367 (by decide) (Or.inl rfl) (Nat.zero_le _) (Nat.zero_le _) 2 rfl rfl [2] rfl rfl rfl (Nat.le_of_ble_eq_true rfl) dX8_stopsRun_44 ?_
  refine g_iload_n hF dX8_stopsRun_47 rfl ?_
  refine g_icmp_gt (tgt := 59) hF dX8_stopsRun_48 (by decide) (fun c_48 => ?_) (fun c_48 => absurd (neg1_lt (by omega)) c_48)
  refine g_aload_n hF dX8_stopsRun_59 rfl ?_
  refine g_callVq hF (c_pointStopping_0) cal_X8_pointStopping rfl m_574 (by decide) (Or.inl rfl) (Nat.zero_le _) (Nat.zero_le _) 0 rfl rfl [0] rfl rfl rfl (Nat.le_of_ble_eq_true rfl) dX8_stopsRun_60 ?_
  refine g_istore_n hF dX8_stopsRun_63 (Nat.le_of_ble_eq_true rfl) rfl ?_
  refine g_aload_n hF dX8_stopsRun_64 rfl ?_
  refine g_iload_n hF dX8_stopsRun_65 rfl ?_
  refine g_callVq hF (c_pointNumbered_m1) cal_X8_pointNumbered rfl m_578 (by decide) (Or.inl rfl) (Nat.zero_le _) (Nat.zero_le _) 0 rfl rfl [0] rfl rfl rfl (Nat.le_of_ble_eq_true rfl) dX8_stopsRun_66 ?_
  refine g_astoreN hF dX8_stopsRun_69 (Nat.le_of_ble_eq_true rfl) rfl ?_
  refine g_aloadN hF dX8_stopsRun_71 rfl ?_
  refine g_ifnullN (tgt := 95) hF dX8_stopsRun_73 (by decide) ?_
  refine g_iconst (v := (0)) hF dX8_stopsRun_95 rfl ?_
  exact g_zret hF hR dX8_stopsRun_96 rfl ⟨rfl, rfl⟩
set_option maxHeartbeats 4000000 in
set_option maxRecDepth 100000 in
theorem c_runTill_0 {E : Env3} {h p ri hp pts wts tps ti rc rn rt ac an at0 np ai ni ma cnt : Nat} {A : AV} {B : AV} {v : SV} {ad : Nat → Nat} {fc : Nat → Int32} {fn : Nat → Int32} {ft : Nat → Int32} {fi : Nat → Int32} {M : Nat → Nat → Int32} {reason : Int32} {cause : Int32} (hv : okS v) (hnp : np ≤ 80) (hni : ni ≤ 20) {k : Nat} (hk : k < 2 ^ 31) (hcn : cnt + k ≤ 200)  : Cd E none 5 yX8_runTill cX8_runTill 4 (some .int) [.ref h, .int (nI k), .int (-1)] [lanO h p ri A.1 hp pts 0 wts tps reason cause B.1 ti, progO p rc rn rt, rowW E.2.2 rc ac 80 fc np, rowW E.2.2 rn an 80 fn np, rowW E.2.2 rt at0 80 ft np, rowW E.2.2 ri ai 20 fi ni, stOv A v, rw1 E.2.2 A v, rw2 E.2.2 A v, rw3 E.2.2 A v, rw4 E.2.2 A v, pastO hp ma cnt, arrM E.2.2 ma ad, momsW ad M] (some (.int (nI (runR (fc, np) (fn, np) (fi, ni) (fun _ => false) k (ft, v, cnt, M)).1))) [lanO h p ri A.1 hp pts 0 wts tps (runR (fc, np) (fn, np) (fi, ni) (fun _ => false) k (ft, v, cnt, M)).2.2 (-1) B.1 ti, progO p rc rn rt, rowW E.2.2 rc ac 80 fc np, rowW E.2.2 rn an 80 fn np, rowW E.2.2 rt at0 80 (runR (fc, np) (fn, np) (fi, ni) (fun _ => false) k (ft, v, cnt, M)).2.1.1 np, rowW E.2.2 ri ai 20 fi ni, stOv A ((runR (fc, np) (fn, np) (fi, ni) (fun _ => false) k (ft, v, cnt, M)).2.1.2.1), rw1 E.2.2 A ((runR (fc, np) (fn, np) (fi, ni) (fun _ => false) k (ft, v, cnt, M)).2.1.2.1), rw2 E.2.2 A ((runR (fc, np) (fn, np) (fi, ni) (fun _ => false) k (ft, v, cnt, M)).2.1.2.1), rw3 E.2.2 A ((runR (fc, np) (fn, np) (fi, ni) (fun _ => false) k (ft, v, cnt, M)).2.1.2.1), rw4 E.2.2 A ((runR (fc, np) (fn, np) (fi, ni) (fun _ => false) k (ft, v, cnt, M)).2.1.2.1), pastO hp ma (runR (fc, np) (fn, np) (fi, ni) (fun _ => false) k (ft, v, cnt, M)).2.1.2.2.1, arrM E.2.2 ma ad, momsW ad (runR (fc, np) (fn, np) (fi, ni) (fun _ => false) k (ft, v, cnt, M)).2.1.2.2.2] := by
  refine Ct.of [some (.ref h), some (.int (nI k)), some (.int (-1)), none] (by decide +kernel) rfl (Nat.le_of_ble_eq_true rfl) (fun F hE hF hR hN => ?_)
  subst hE
  generalize hE : runR (fc, np) (fn, np) (fi, ni) (fun _ => false) k (ft, v, cnt, M) = Z at hR
  have loop : ∀ (r i : Nat) (ft : Nat → Int32) (v : SV) (cnt : Nat) (M : Nat → Nat → Int32), i + r = k → okS v → cnt + r ≤ 200 → (i + (runR (fc, np) (fn, np) (fi, ni) (fun _ => false) r (ft, v, cnt, M)).1, (runR (fc, np) (fn, np) (fi, ni) (fun _ => false) r (ft, v, cnt, M)).2) = Z → G F 0 0 [lanO h p ri A.1 hp pts 0 wts tps reason cause B.1 ti, progO p rc rn rt, rowW F.1.2.2 rc ac 80 fc np, rowW F.1.2.2 rn an 80 fn np, rowW F.1.2.2 rt at0 80 ft np, rowW F.1.2.2 ri ai 20 fi ni, stOv A v, rw1 F.1.2.2 A v, rw2 F.1.2.2 A v, rw3 F.1.2.2 A v, rw4 F.1.2.2 A v, pastO hp ma cnt, arrM F.1.2.2 ma ad, momsW ad M] 2 [some (.ref h), some (.int (nI k)), some (.int (-1)), some (.int (nI i))] [] := by
    intro r
    induction r with
    | zero =>
      intro i ft v cnt M hi hv hcn hZ
      refine g_iload_n hF dX8_runTill_2 rfl ?_
      refine g_iload_n hF dX8_runTill_3 rfl ?_
      refine g_icmp_ge (tgt := 55) hF dX8_runTill_4 (by decide) (fun c_4 => ?_) (fun c_4 => absurd (nI_le (show k ≤ i by omega) (by omega)) c_4)
      refine g_aload_n hF dX8_runTill_55 rfl ?_
      refine g_bipush (v := (6)) hF dX8_runTill_56 rfl ?_
      refine g_iconst (v := (-1)) hF dX8_runTill_58 rfl ?_
      refine g_callVd hF (c_stopBy) cal_X8_stopBy rfl m_403 (by decide) (Or.inl rfl) (Nat.zero_le _) (Nat.zero_le _) 0 rfl rfl [0] rfl rfl (Nat.le_of_ble_eq_true rfl) rfl (Nat.le_of_ble_eq_true rfl) dX8_runTill_59 ?_
      try dsimp only [gput, gputA, List.set, stGs, List.cons_append, List.nil_append]
      refine g_iload_n hF dX8_runTill_62 rfl ?_
      subst hZ
      exact g_iret hF hR dX8_runTill_63 ⟨by rw [← hi] <;> rfl, rfl⟩
    | succ r ih =>
      intro i ft v cnt M hi hv hcn hZ
      by_cases hr : (readyF (fc, np) v).2.2.2.2.2.1 = 0
      · refine g_iload_n hF dX8_runTill_2 rfl ?_
        refine g_iload_n hF dX8_runTill_3 rfl ?_
        refine g_icmp_ge (tgt := 55) hF dX8_runTill_4 (by decide) (fun c_4 => absurd c_4 (nI_ge (show i < k by omega) (by omega))) (fun c_4 => ?_)
        refine g_aload_n hF dX8_runTill_7 rfl ?_
        refine g_callVd hF (c_doStep_yes (by assumption) (by assumption) (by assumption) (by omega) hr) cal_X8_doStep rfl m_451 (by decide) (Or.inl rfl) (Nat.zero_le _) (Nat.zero_le _) 0 rfl rfl [0, 1, 2, 3, 4, 5, 6, 7, 8, 9, 10, 11, 12, 13] rfl rfl (Nat.le_of_ble_eq_true rfl) rfl (Nat.le_of_ble_eq_true rfl) dX8_runTill_8 ?_
        try dsimp only [gput, gputA, List.set, stGs, List.cons_append, List.nil_append]
        refine g_if_ne (tgt := 37) hF dX8_runTill_11 (by decide) (fun c_11 => ?_) (fun c_11 => absurd c_11 (by decide))
        have hvy : okS (stepR (fc, np) (fn, np) (fi, ni) (ft, v, cnt, M)).2.1 := okS_perf (okS_ready hv)
        have h3y := hvy.2.2.1
        refine g_regroup (gs' := [lanO h p ri A.1 hp pts 0 wts tps reason cause B.1 ti, progO p rc rn rt, rowW F.1.2.2 rc ac 80 fc np, rowW F.1.2.2 rn an 80 fn np, rowW F.1.2.2 rt at0 80 (stepR (fc, np) (fn, np) (fi, ni) (ft, v, cnt, M)).1 np, rowW F.1.2.2 ri ai 20 fi ni, stOv A ((stepR (fc, np) (fn, np) (fi, ni) (ft, v, cnt, M)).2.1), rw1 F.1.2.2 A ((stepR (fc, np) (fn, np) (fi, ni) (ft, v, cnt, M)).2.1), rw2 F.1.2.2 A ((stepR (fc, np) (fn, np) (fi, ni) (ft, v, cnt, M)).2.1), rw3 F.1.2.2 A ((stepR (fc, np) (fn, np) (fi, ni) (ft, v, cnt, M)).2.1), rw4 F.1.2.2 A ((stepR (fc, np) (fn, np) (fi, ni) (ft, v, cnt, M)).2.1), pastO hp ma (stepR (fc, np) (fn, np) (fi, ni) (ft, v, cnt, M)).2.2.1, arrM F.1.2.2 ma ad, momsW ad (stepR (fc, np) (fn, np) (fi, ni) (ft, v, cnt, M)).2.2.2]) rfl ?_
        by_cases hs : (stepR (fc, np) (fn, np) (fi, ni) (ft, v, cnt, M)).2.1.2.2.2.2.2.1 = 1
        · refine g_aload_n hF dX8_runTill_37 rfl ?_
          refine g_iload_n hF dX8_runTill_38 rfl ?_
          refine g_callVd hF (c_stopsRun_0y hs) cal_X8_stopsRun rfl m_550 (by decide) (Or.inl rfl) (Nat.zero_le _) (Nat.zero_le _) 0 rfl rfl [0, 6, 9, 11, 12] rfl rfl (Nat.le_of_ble_eq_true rfl) rfl (Nat.le_of_ble_eq_true rfl) dX8_runTill_39 ?_
          try dsimp only [gput, gputA, List.set, stGs, List.cons_append, List.nil_append]
          refine g_if_eq (tgt := 49) hF dX8_runTill_42 (by decide) (fun c_42 => absurd c_42 (by decide)) (fun c_42 => ?_)
          refine g_iload_n hF dX8_runTill_45 rfl ?_
          refine g_iconst (v := (1)) hF dX8_runTill_46 rfl ?_
          refine g_iadd hF dX8_runTill_47 ?_
          rw [runR_halt hr hs] at hZ
          subst hZ
          exact g_iret hF hR dX8_runTill_48 ⟨by rw [← nI_1] <;> rfl, rfl⟩
        · refine g_aload_n hF dX8_runTill_37 rfl ?_
          refine g_iload_n hF dX8_runTill_38 rfl ?_
          refine g_callVq hF (c_stopsRun_0n hs (by show cnt + 1 ≤ 200; omega) (by show 1 ≤ cnt + 1; omega) h3y) cal_X8_stopsRun rfl m_550 (by decide) (Or.inl rfl) (Nat.zero_le _) (Nat.zero_le _) 0 rfl rfl [0, 6, 9, 11, 12] rfl rfl rfl (Nat.le_of_ble_eq_true rfl) dX8_runTill_39 ?_
          refine g_if_eq (tgt := 49) hF dX8_runTill_42 (by decide) (fun c_42 => ?_) (fun c_42 => absurd rfl c_42)
          refine g_iinc (v := nI (i + 1)) hF dX8_runTill_49 rfl (nI_1 i) rfl ?_
          refine g_goto (tgt := 2) hF dX8_runTill_52 (by decide) ?_
          refine ih (i + 1) _ _ _ _ (by omega) hvy (by show cnt + 1 + r ≤ 200; omega) ?_
          rw [← hZ, runR_go hr hs rfl, show i + 1 + (runR (fc, np) (fn, np) (fi, ni) (fun _ => false) r (stepR (fc, np) (fn, np) (fi, ni) (ft, v, cnt, M))).1 = i + ((runR (fc, np) (fn, np) (fi, ni) (fun _ => false) r (stepR (fc, np) (fn, np) (fi, ni) (ft, v, cnt, M))).1 + 1) by omega]
      · refine g_iload_n hF dX8_runTill_2 rfl ?_
        refine g_iload_n hF dX8_runTill_3 rfl ?_
        refine g_icmp_ge (tgt := 55) hF dX8_runTill_4 (by decide) (fun c_4 => absurd c_4 (nI_ge (show i < k by omega) (by omega))) (fun c_4 => ?_)
        refine g_aload_n hF dX8_runTill_7 rfl ?_
        refine g_callVd hF (c_doStep_no (by assumption) (by assumption) (by assumption) hr) cal_X8_doStep rfl m_451 (by decide) (Or.inl rfl) (Nat.zero_le _) (Nat.zero_le _) 0 rfl rfl [0, 1, 2, 3, 4, 5, 6, 7, 8, 9, 10, 11, 12, 13] rfl rfl (Nat.le_of_ble_eq_true rfl) rfl (Nat.le_of_ble_eq_true rfl) dX8_runTill_8 ?_
        try dsimp only [gput, gputA, List.set, stGs, List.cons_append, List.nil_append]
        refine g_if_ne (tgt := 37) hF dX8_runTill_11 (by decide) (fun c_11 => absurd c_11 (by decide)) (fun c_11 => ?_)
        refine g_aload_n hF dX8_runTill_14 rfl ?_
        refine g_aload_n hF dX8_runTill_15 rfl ?_
        refine g_get (j := 2) hF 0 rfl rfl (by decide) rfl m_249 rfl dX8_runTill_16 ?_
        refine g_getN (j := 5) hF 6 rfl rfl (by decide) rfl m_87 rfl dX8_runTill_19 ?_
        refine g_iconst (v := (1)) hF dX8_runTill_22 rfl ?_
        refine g_icmp_ne (tgt := 30) hF dX8_runTill_23 (by decide) (fun c_23 => ?_) (fun c_23 => ?_)
        · refine g_iconst (v := (2)) hF dX8_runTill_30 rfl ?_
          refine g_iconst (v := (-1)) hF dX8_runTill_31 rfl ?_
          refine g_callVd hF (c_stopBy) cal_X8_stopBy rfl m_403 (by decide) (Or.inl rfl) (Nat.zero_le _) (Nat.zero_le _) 0 rfl rfl [0] rfl rfl (Nat.le_of_ble_eq_true rfl) rfl (Nat.le_of_ble_eq_true rfl) dX8_runTill_32 ?_
          try dsimp only [gput, gputA, List.set, stGs, List.cons_append, List.nil_append]
          refine g_iload_n hF dX8_runTill_35 rfl ?_
          rw [runR_stop hr] at hZ
          subst hZ
          exact g_iret hF hR dX8_runTill_36 ⟨rfl, by simp only [if_neg c_23]; rfl⟩
        · refine g_iconst (v := (1)) hF dX8_runTill_26 rfl ?_
          refine g_goto (tgt := 31) hF dX8_runTill_27 (by decide) ?_
          refine g_iconst (v := (-1)) hF dX8_runTill_31 rfl ?_
          refine g_callVd hF (c_stopBy) cal_X8_stopBy rfl m_403 (by decide) (Or.inl rfl) (Nat.zero_le _) (Nat.zero_le _) 0 rfl rfl [0] rfl rfl (Nat.le_of_ble_eq_true rfl) rfl (Nat.le_of_ble_eq_true rfl) dX8_runTill_32 ?_
          try dsimp only [gput, gputA, List.set, stGs, List.cons_append, List.nil_append]
          refine g_iload_n hF dX8_runTill_35 rfl ?_
          rw [runR_stop hr] at hZ
          subst hZ
          exact g_iret hF hR dX8_runTill_36 ⟨rfl, by simp only [if_pos c_23]; rfl⟩
  refine g_iconst (v := (0)) hF dX8_runTill_0 rfl ?_
  refine g_istore_n hF dX8_runTill_1 (Nat.le_of_ble_eq_true rfl) rfl ?_
  exact loop k 0 ft v cnt M (by omega) hv hcn (by rw [Nat.zero_add]; exact hE)
