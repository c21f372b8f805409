/-! run without points, going back, trying out, foreseeing -/
def backN (M : Nat → Nat → Int32) (cnt : Nat) (v : SV) : Nat → SV
  | 0 => v
  | i + 1 => backF (M (cnt - (i + 1))) (backN M cnt v i)
theorem okS_backN {M : Nat → Nat → Int32} {cnt : Nat} {v : SV} (h : okS v) : ∀ i, okS (backN M cnt v i)
  | 0 => h
  | i + 1 => okS_back (okS_backN h i)
def endsV (k : Nat) (t : Nat × SV) : Int32 := if nI t.1 < nI k then nI t.1 else if t.2.2.2.2.2.2.1 = 1 then nI t.1 else -1
theorem okS_try {pc pn inp : RV} : ∀ (k : Nat) {v : SV}, okS v → okS (tryF pc pn inp k v).2
  | 0, _, h => h
  | k + 1, v, h => by
    by_cases hr : (readyF pc v).2.2.2.2.2.1 = 0
    · rw [tryF_go hr]; exact okS_try k (okS_perf (okS_ready h))
    · rw [tryF_stop hr]; exact okS_ready h
set_option maxHeartbeats 4000000 in
set_option maxRecDepth 100000 in
theorem c_run_0 {E : Env3} {h p ri hp pts wts tps ti rc rn rt ac an at0 np ai ni ma cnt : Nat} {A : AV} {B : AV} {v : SV} {ad : Nat → Nat} {fc : Nat → Int32} {fn : Nat → Int32} {ft : Nat → Int32} {fi : Nat → Int32} {M : Nat → Nat → Int32} {reason : Int32} {cause : Int32} (hv : okS v) (hnp : np ≤ 80) (hni : ni ≤ 20) {k : Nat} (hl : isLenB (nI k) = true) (hk : k < 2 ^ 31) (hcn : cnt + k ≤ 200)  : Cd E none 6 yX8_run cX8_run 2 (some .int) [.ref h, .int (nI k)] [lanO h p ri A.1 hp pts 0 wts tps reason cause B.1 ti, progO p rc rn rt, rowW E.2.2 rc ac 80 fc np, rowW E.2.2 rn an 80 fn np, rowW E.2.2 rt at0 80 ft np, rowW E.2.2 ri ai 20 fi ni, stOv A v, rw1 E.2.2 A v, rw2 E.2.2 A v, rw3 E.2.2 A v, rw4 E.2.2 A v, pastO hp ma cnt, arrM E.2.2 ma ad, momsW ad M] (some (.int (nI (runR (fc, np) (fn, np) (fi, ni) (fun _ => false) k (ft, v, cnt, M)).1))) [lanO h p ri A.1 hp pts 0 wts tps (runR (fc, np) (fn, np) (fi, ni) (fun _ => false) k (ft, v, cnt, M)).2.2 (-1) B.1 ti, progO p rc rn rt, rowW E.2.2 rc ac 80 fc np, rowW E.2.2 rn an 80 fn np, rowW E.2.2 rt at0 80 (runR (fc, np) (fn, np) (fi, ni) (fun _ => false) k (ft, v, cnt, M)).2.1.1 np, rowW E.2.2 ri ai 20 fi ni, stOv A ((runR (fc, np) (fn, np) (fi, ni) (fun _ => false) k (ft, v, cnt, M)).2.1.2.1), rw1 E.2.2 A ((runR (fc, np) (fn, np) (fi, ni) (fun _ => false) k (ft, v, cnt, M)).2.1.2.1), rw2 E.2.2 A ((runR (fc, np) (fn, np) (fi, ni) (fun _ => false) k (ft, v, cnt, M)).2.1.2.1), rw3 E.2.2 A ((runR (fc, np) (fn, np) (fi, ni) (fun _ => false) k (ft, v, cnt, M)).2.1.2.1), rw4 E.2.2 A ((runR (fc, np) (fn, np) (fi, ni) (fun _ => false) k (ft, v, cnt, M)).2.1.2.1), pastO hp ma (runR (fc, np) (fn, np) (fi, ni) (fun _ => false) k (ft, v, cnt, M)).2.1.2.2.1, arrM E.2.2 ma ad, momsW ad (runR (fc, np) (fn, np) (fi, ni) (fun _ => false) k (ft, v, cnt, M)).2.1.2.2.2] := by
  refine Ct.of [some (.ref h), some (.int (nI k))] (by decide +kernel) rfl (Nat.le_of_ble_eq_true rfl) (fun F hE hF hR hN => ?_)
  subst hE
  refine g_iload_n hF dX8_run_0 rfl ?_
  refine g_callSq hF (c_isRunLength) cal_X8_isRunLength rfl m_443 (by decide) (Or.inl rfl) (Nat.zero_le _) (Nat.zero_le _) [] rfl rfl rfl (Nat.le_of_ble_eq_true rfl) dX8_run_1 ?_
  refine g_if_ne (tgt := 17) hF dX8_run_4 (by decide) (fun c_4 => ?_) (fun c_4 => absurd c_4 (bI_n.mpr hl))
  refine g_aload_n hF dX8_run_17 rfl ?_
  refine g_iload_n hF dX8_run_18 rfl ?_
  refine g_iconst (v := (-1)) hF dX8_run_19 rfl ?_
  refine g_callVd hF (c_runTill_0 (by assumption) (by assumption) (by assumption) (by omega) (by omega)) cal_X8_runTill rfl m_447 (by decide) (Or.inl rfl) (Nat.zero_le _) (Nat.zero_le _) 0 rfl rfl [0, 1, 2, 3, 4, 5, 6, 7, 8, 9, 10, 11, 12, 13] rfl rfl (Nat.le_of_ble_eq_true rfl) rfl (Nat.le_of_ble_eq_true rfl) dX8_run_20 ?_
  try dsimp only [gput, gputA, List.set, stGs, List.cons_append, List.nil_append]
  exact g_iret hF hR dX8_run_23 ⟨rfl, rfl⟩
set_option maxHeartbeats 4000000 in
set_option maxRecDepth 100000 in
theorem c_goBack {E : Env3} {h p ri hp pts wts tps ti ma cnt : Nat} {A : AV} {B : AV} {v : SV} {ad : Nat → Nat} {M : Nat → Nat → Int32} {reason : Int32} {cause : Int32} {pc : Int32} (hv : okS v) (hc : cnt ≤ 200) (h1 : 1 ≤ cnt)  : Cd E none 3 yX8_goBack cX8_goBack 2 (some (.object "Lantern$Moment")) [.ref h] [lanO h p ri A.1 hp pts pc wts tps reason cause B.1 ti, stOv A v, rw1 E.2.2 A v, rw2 E.2.2 A v, rw3 E.2.2 A v, rw4 E.2.2 A v, pastO hp ma cnt, arrM E.2.2 ma ad, momsW ad M] (some (.ref (ad (cnt - 1)))) [lanO h p ri A.1 hp pts pc wts tps reason cause B.1 ti, stOv A (backF (M (cnt - 1)) v), rw1 E.2.2 A (backF (M (cnt - 1)) v), rw2 E.2.2 A (backF (M (cnt - 1)) v), rw3 E.2.2 A (backF (M (cnt - 1)) v), rw4 E.2.2 A (backF (M (cnt - 1)) v), pastO hp ma (cnt - 1), arrM E.2.2 ma ad, momsW ad M] := by
  refine Ct.of [some (.ref h), none] (by decide +kernel) rfl (Nat.le_of_ble_eq_true rfl) (fun F hE hF hR hN => ?_)
  subst hE
  refine g_aload_n hF dX8_goBack_0 rfl ?_
  refine g_get (j := 3) hF 0 rfl rfl (by decide) rfl m_250 rfl dX8_goBack_1 ?_
  refine g_iconst (v := (1)) hF dX8_goBack_4 rfl ?_
  refine g_callVq hF (c_Past_ago (cnt := cnt) (j := 1) (by omega) (by omega) (by omega)) cal_X1_ago rfl m_558 (by decide) (Or.inl rfl) (Nat.zero_le _) (Nat.zero_le _) 6 rfl rfl [6, 7] rfl rfl rfl (Nat.le_of_ble_eq_true rfl) dX8_goBack_5 ?_
  refine g_astore_n hF dX8_goBack_8 (Nat.le_of_ble_eq_true rfl) rfl ?_
  refine g_aload_n hF dX8_goBack_9 rfl ?_
  refine g_ifnull hF dX8_goBack_10 ?_
  refine g_aload_n hF dX8_goBack_13 rfl ?_
  refine g_get (j := 2) hF 0 rfl rfl (by decide) rfl m_249 rfl dX8_goBack_14 ?_
  refine g_aload_n hF dX8_goBack_17 rfl ?_
  refine g_split3 8 rfl (mom_split (k := cnt - 1) (by omega)) ?_
  try dsimp only [List.take, List.drop, List.cons_append, List.nil_append]
  refine g_callVd hF (c_S_goBackTo (by first | assumption | exact okS_ready (by assumption) | exact okS_perf (okS_ready (by assumption)) | exact okS_perf (by assumption) | exact okS_copy | exact okS_clear | exact okS_back (by assumption))) cal_X5_goBackTo rfl m_604 (by decide) (Or.inl rfl) (Nat.zero_le _) (Nat.zero_le _) 1 rfl rfl [1, 2, 3, 4, 5, 9] rfl rfl (Nat.le_of_ble_eq_true rfl) rfl (Nat.le_of_ble_eq_true rfl) dX8_goBack_18 ?_
  try dsimp only [gput, gputA, List.set, stGs, List.cons_append, List.nil_append]
  refine g_join3 8 rfl (mom_split (k := cnt - 1) (by omega)).symm ?_
  try dsimp only [List.take, List.drop, List.cons_append, List.nil_append]
  refine g_aload_n hF dX8_goBack_21 rfl ?_
  refine g_get (j := 3) hF 0 rfl rfl (by decide) rfl m_250 rfl dX8_goBack_22 ?_
  refine g_callVd hF (c_Past_dropLatest (by omega) (by omega)) cal_X1_dropLatest rfl m_613 (by decide) (Or.inl rfl) (Nat.zero_le _) (Nat.zero_le _) 6 rfl rfl [6] rfl rfl (Nat.le_of_ble_eq_true rfl) rfl (Nat.le_of_ble_eq_true rfl) dX8_goBack_25 ?_
  try dsimp only [gput, gputA, List.set, stGs, List.cons_append, List.nil_append]
  refine g_aload_n hF dX8_goBack_28 rfl ?_
  exact g_aret hF hR (Or.inl ⟨_, rfl⟩) (Or.inr ⟨_, rfl⟩) dX8_goBack_29 ⟨rfl, rfl⟩
set_option maxHeartbeats 4000000 in
set_option maxRecDepth 100000 in
theorem c_back {E : Env3} {h p ri hp pts wts tps ti ma cnt : Nat} {A : AV} {B : AV} {v : SV} {ad : Nat → Nat} {M : Nat → Nat → Int32} {reason : Int32} {cause : Int32} {pc : Int32} {b : Nat} (hv : okS v) (hc : cnt ≤ 200) (hb : b ≤ cnt) (hb1 : 1 ≤ b)  : Cd E none 4 yX8_back cX8_back 3 (some .int) [.ref h, .int (nI b)] [lanO h p ri A.1 hp pts pc wts tps reason cause B.1 ti, stOv A v, rw1 E.2.2 A v, rw2 E.2.2 A v, rw3 E.2.2 A v, rw4 E.2.2 A v, pastO hp ma cnt, arrM E.2.2 ma ad, momsW ad M] (some (.int (nI b))) [lanO h p ri A.1 hp pts pc wts tps 7 (-1) B.1 ti, stOv A (backN M cnt v b), rw1 E.2.2 A (backN M cnt v b), rw2 E.2.2 A (backN M cnt v b), rw3 E.2.2 A (backN M cnt v b), rw4 E.2.2 A (backN M cnt v b), pastO hp ma (cnt - b), arrM E.2.2 ma ad, momsW ad M] := by
  refine Ct.of [some (.ref h), some (.int (nI b)), none] (by decide +kernel) rfl (Nat.le_of_ble_eq_true rfl) (fun F hE hF hR hN => ?_)
  subst hE
  have loop : ∀ i, i ≤ b → G F 0 0 [lanO h p ri A.1 hp pts pc wts tps reason cause B.1 ti, stOv A (backN M cnt v i), rw1 F.1.2.2 A (backN M cnt v i), rw2 F.1.2.2 A (backN M cnt v i), rw3 F.1.2.2 A (backN M cnt v i), rw4 F.1.2.2 A (backN M cnt v i), pastO hp ma (cnt - i), arrM F.1.2.2 ma ad, momsW ad M] 24 [some (.ref h), some (.int (nI b)), some (.int (nI i))] [] := by
    refine up_loop (Q := fun i => G F 0 0 [lanO h p ri A.1 hp pts pc wts tps reason cause B.1 ti, stOv A (backN M cnt v i), rw1 F.1.2.2 A (backN M cnt v i), rw2 F.1.2.2 A (backN M cnt v i), rw3 F.1.2.2 A (backN M cnt v i), rw4 F.1.2.2 A (backN M cnt v i), pastO hp ma (cnt - i), arrM F.1.2.2 ma ad, momsW ad M] 24 [some (.ref h), some (.int (nI b)), some (.int (nI i))] []) ?_ (fun i hi ih => ?_)
    · refine g_iload_n hF dX8_back_24 rfl ?_
      refine g_iload_n hF dX8_back_25 rfl ?_
      refine g_icmp_ge (tgt := 42) hF dX8_back_26 (by decide) (fun c_26 => ?_) (fun c_26 => absurd (nI_le (Nat.le_refl b) (by omega)) c_26)
      refine g_aload_n hF dX8_back_42 rfl ?_
      refine g_bipush (v := (7)) hF dX8_back_43 rfl ?_
      refine g_iconst (v := (-1)) hF dX8_back_45 rfl ?_
      refine g_callVd hF (c_stopBy) cal_X8_stopBy rfl m_403 (by decide) (Or.inl rfl) (Nat.zero_le _) (Nat.zero_le _) 0 rfl rfl [0] rfl rfl (Nat.le_of_ble_eq_true rfl) rfl (Nat.le_of_ble_eq_true rfl) dX8_back_46 ?_
      try dsimp only [gput, gputA, List.set, stGs, List.cons_append, List.nil_append]
      refine g_iload_n hF dX8_back_49 rfl ?_
      exact g_iret hF hR dX8_back_50 ⟨rfl, rfl⟩
    · refine g_iload_n hF dX8_back_24 rfl ?_
      refine g_iload_n hF dX8_back_25 rfl ?_
      refine g_icmp_ge (tgt := 42) hF dX8_back_26 (by decide) (fun c_26 => absurd c_26 (nI_ge hi (by omega))) (fun c_26 => ?_)
      refine g_aload_n hF dX8_back_29 rfl ?_
      refine g_callVd hF (c_goBack (okS_backN hv i) (by omega) (by omega)) cal_X8_goBack rfl m_600 (by decide) (Or.inl rfl) (Nat.zero_le _) (Nat.zero_le _) 0 rfl rfl [0, 1, 2, 3, 4, 5, 6, 7, 8] rfl rfl (Nat.le_of_ble_eq_true rfl) rfl (Nat.le_of_ble_eq_true rfl) dX8_back_30 ?_
      try dsimp only [gput, gputA, List.set, stGs, List.cons_append, List.nil_append]
      refine g_ifnull hF dX8_back_33 ?_
      refine g_iinc (v := nI (i + 1)) hF dX8_back_36 rfl (nI_1 i) rfl ?_
      refine g_goto (tgt := 24) hF dX8_back_39 (by decide) ?_
      refine g_regroup (gs' := [lanO h p ri A.1 hp pts pc wts tps reason cause B.1 ti, stOv A (backF (M (cnt - (i + 1))) (backN M cnt v i)), rw1 F.1.2.2 A (backF (M (cnt - (i + 1))) (backN M cnt v i)), rw2 F.1.2.2 A (backF (M (cnt - (i + 1))) (backN M cnt v i)), rw3 F.1.2.2 A (backF (M (cnt - (i + 1))) (backN M cnt v i)), rw4 F.1.2.2 A (backF (M (cnt - (i + 1))) (backN M cnt v i)), pastO hp ma (cnt - (i + 1)), arrM F.1.2.2 ma ad, momsW ad M]) (by show _ = _; rw [show cnt - (i + 1) = cnt - i - 1 by omega] <;> rfl) ?_
      exact ih
  refine g_iload_n hF dX8_back_0 rfl ?_
  refine g_iconst (v := (1)) hF dX8_back_1 rfl ?_
  refine g_icmp_lt (tgt := 12) hF dX8_back_2 (by decide) (fun c_2 => absurd c_2 (fun y => absurd ((nI_ltI (a := b) (b := 1) (by omega) (by decide)).mp y) (by omega))) (fun c_2 => ?_)
  refine g_iload_n hF dX8_back_5 rfl ?_
  refine g_sipush (v := (200)) hF dX8_back_6 rfl ?_
  refine g_icmp_le (tgt := 22) hF dX8_back_9 (by decide) (fun c_9 => ?_) (fun c_9 => absurd (nI_le (show b ≤ 200 by omega) (by decide)) c_9)
  refine g_iconst (v := (0)) hF dX8_back_22 rfl ?_
  refine g_istore_n hF dX8_back_23 (Nat.le_of_ble_eq_true rfl) rfl ?_
  exact loop 0 (Nat.zero_le _)
set_option maxHeartbeats 4000000 in
set_option maxRecDepth 100000 in
theorem c_tryOut {E : Env3} {h p ri hp pts wts tps ti rc rn rt ac an np ai ni : Nat} {A : AV} {B : AV} {w : SV} {fc : Nat → Int32} {fn : Nat → Int32} {fi : Nat → Int32} {reason : Int32} {cause : Int32} {pc : Int32} (hw : okS w) (hnp : np ≤ 80) (hni : ni ≤ 20) {k : Nat} (hk : k < 2 ^ 31)  : Cd E none 4 yX8_tryOut cX8_tryOut 4 (some .int) [.ref h, .int (nI k), .ref ri] [lanO h p ri A.1 hp pts pc wts tps reason cause B.1 ti, progO p rc rn rt, rowW E.2.2 rc ac 80 fc np, rowW E.2.2 rn an 80 fn np, rowW E.2.2 ri ai 20 fi ni, stOv B w, rw1 E.2.2 B w, rw2 E.2.2 B w, rw3 E.2.2 B w, rw4 E.2.2 B w] (some (.int (nI (tryF (fc, np) (fn, np) (fi, ni) k w).1))) [lanO h p ri A.1 hp pts pc wts tps reason cause B.1 ti, progO p rc rn rt, rowW E.2.2 rc ac 80 fc np, rowW E.2.2 rn an 80 fn np, rowW E.2.2 ri ai 20 fi ni, stOv B ((tryF (fc, np) (fn, np) (fi, ni) k w).2), rw1 E.2.2 B ((tryF (fc, np) (fn, np) (fi, ni) k w).2), rw2 E.2.2 B ((tryF (fc, np) (fn, np) (fi, ni) k w).2), rw3 E.2.2 B ((tryF (fc, np) (fn, np) (fi, ni) k w).2), rw4 E.2.2 B ((tryF (fc, np) (fn, np) (fi, ni) k w).2)] := by
  refine Ct.of [some (.ref h), some (.int (nI k)), some (.ref ri), none] (by decide +kernel) rfl (Nat.le_of_ble_eq_true rfl) (fun F hE hF hR hN => ?_)
  subst hE
  generalize hE : tryF (fc, np) (fn, np) (fi, ni) k w = Z at hR
  have loop : ∀ (r i : Nat) (w : SV), i + r = k → okS w → (i + (tryF (fc, np) (fn, np) (fi, ni) r w).1, (tryF (fc, np) (fn, np) (fi, ni) r w).2) = Z → G F 0 0 [lanO h p ri A.1 hp pts pc wts tps reason cause B.1 ti, progO p rc rn rt, rowW F.1.2.2 rc ac 80 fc np, rowW F.1.2.2 rn an 80 fn np, rowW F.1.2.2 ri ai 20 fi ni, stOv B w, rw1 F.1.2.2 B w, rw2 F.1.2.2 B w, rw3 F.1.2.2 B w, rw4 F.1.2.2 B w] 2 [some (.ref h), some (.int (nI k)), some (.ref ri), some (.int (nI i))] [] := by
    intro r
    induction r with
    | zero =>
      intro i w hi hv hZ
      refine g_iload_n hF dX8_tryOut_2 rfl ?_
      refine g_iload_n hF dX8_tryOut_3 rfl ?_
      refine g_icmp_ge (tgt := 39) hF dX8_tryOut_4 (by decide) (fun c_4 => ?_) (fun c_4 => absurd (nI_le (show k ≤ i by omega) (by omega)) c_4)
      refine g_iload_n hF dX8_tryOut_39 rfl ?_
      subst hZ
      exact g_iret hF hR dX8_tryOut_40 ⟨rfl, rfl⟩
    | succ r ih =>
      intro i w hi hv hZ
      by_cases hr : (readyF (fc, np) w).2.2.2.2.2.1 = 0
      · refine g_iload_n hF dX8_tryOut_2 rfl ?_
        refine g_iload_n hF dX8_tryOut_3 rfl ?_
        refine g_icmp_ge (tgt := 39) hF dX8_tryOut_4 (by decide) (fun c_4 => absurd c_4 (nI_ge (show i < k by omega) (by omega))) (fun c_4 => ?_)
        refine g_aload_n hF dX8_tryOut_7 rfl ?_
        refine g_get (j := 11) hF 0 rfl rfl (by decide) rfl m_258 rfl dX8_tryOut_8 ?_
        refine g_aload_n hF dX8_tryOut_11 rfl ?_
        refine g_get (j := 0) hF 0 rfl rfl (by decide) rfl m_247 rfl dX8_tryOut_12 ?_
        refine g_callVd hF (c_S_readies (by first | assumption | exact okS_ready (by assumption) | exact okS_perf (okS_ready (by assumption)) | exact okS_perf (by assumption) | exact okS_copy | exact okS_clear | exact okS_back (by assumption)) (by omega)) cal_X5_readies rfl m_455 (by decide) (Or.inl rfl) (Nat.zero_le _) (Nat.zero_le _) 5 rfl rfl [5, 6, 7, 8, 9, 1, 2] rfl rfl (Nat.le_of_ble_eq_true rfl) rfl (Nat.le_of_ble_eq_true rfl) dX8_tryOut_15 ?_
        try dsimp only [gput, gputA, List.set, stGs, List.cons_append, List.nil_append]
        refine g_if_eq (tgt := 39) hF dX8_tryOut_18 (by decide) (fun c_18 => absurd c_18 (bI_n.mpr (decide_eq_true hr))) (fun c_18 => ?_)
        refine g_aload_n hF dX8_tryOut_21 rfl ?_
        refine g_get (j := 11) hF 0 rfl rfl (by decide) rfl m_258 rfl dX8_tryOut_22 ?_
        refine g_aload_n hF dX8_tryOut_25 rfl ?_
        refine g_get (j := 0) hF 0 rfl rfl (by decide) rfl m_247 rfl dX8_tryOut_26 ?_
        refine g_aload_n hF dX8_tryOut_29 rfl ?_
        refine g_callVd hF (c_S_perform (by first | assumption | exact okS_ready (by assumption) | exact okS_perf (okS_ready (by assumption)) | exact okS_perf (by assumption) | exact okS_copy | exact okS_clear | exact okS_back (by assumption)) (by omega) (by omega) (by omega)) cal_X5_perform rfl m_517 (by decide) (Or.inl rfl) (Nat.zero_le _) (Nat.zero_le _) 5 rfl rfl [5, 6, 7, 8, 9, 1, 2, 3, 4] rfl rfl (Nat.le_of_ble_eq_true rfl) rfl (Nat.le_of_ble_eq_true rfl) dX8_tryOut_30 ?_
        try dsimp only [gput, gputA, List.set, stGs, List.cons_append, List.nil_append]
        refine g_iinc (v := nI (i + 1)) hF dX8_tryOut_33 rfl (nI_1 i) rfl ?_
        refine g_goto (tgt := 2) hF dX8_tryOut_36 (by decide) ?_
        refine ih (i + 1) _ (by omega) (okS_perf (okS_ready hv)) ?_
        rw [← hZ, tryF_go hr]
        exact Prod.ext (Nat.add_right_comm i 1 _) rfl
      · refine g_iload_n hF dX8_tryOut_2 rfl ?_
        refine g_iload_n hF dX8_tryOut_3 rfl ?_
        refine g_icmp_ge (tgt := 39) hF dX8_tryOut_4 (by decide) (fun c_4 => absurd c_4 (nI_ge (show i < k by omega) (by omega))) (fun c_4 => ?_)
        refine g_aload_n hF dX8_tryOut_7 rfl ?_
        refine g_get (j := 11) hF 0 rfl rfl (by decide) rfl m_258 rfl dX8_tryOut_8 ?_
        refine g_aload_n hF dX8_tryOut_11 rfl ?_
        refine g_get (j := 0) hF 0 rfl rfl (by decide) rfl m_247 rfl dX8_tryOut_12 ?_
        refine g_callVd hF (c_S_readies (by first | assumption | exact okS_ready (by assumption) | exact okS_perf (okS_ready (by assumption)) | exact okS_perf (by assumption) | exact okS_copy | exact okS_clear | exact okS_back (by assumption)) (by omega)) cal_X5_readies rfl m_455 (by decide) (Or.inl rfl) (Nat.zero_le _) (Nat.zero_le _) 5 rfl rfl [5, 6, 7, 8, 9, 1, 2] rfl rfl (Nat.le_of_ble_eq_true rfl) rfl (Nat.le_of_ble_eq_true rfl) dX8_tryOut_15 ?_
        try dsimp only [gput, gputA, List.set, stGs, List.cons_append, List.nil_append]
        refine g_if_eq (tgt := 39) hF dX8_tryOut_18 (by decide) (fun c_18 => ?_) (fun c_18 => absurd (bI_0.mpr (decide_eq_false hr)) c_18)
        refine g_iload_n hF dX8_tryOut_39 rfl ?_
        rw [tryF_stop hr] at hZ
        subst hZ
        exact g_iret hF hR dX8_tryOut_40 ⟨rfl, rfl⟩
  refine g_iconst (v := (0)) hF dX8_tryOut_0 rfl ?_
  refine g_istore_n hF dX8_tryOut_1 (Nat.le_of_ble_eq_true rfl) rfl ?_
  exact loop k 0 w (by omega) hw (by rw [Nat.zero_add]; exact hE)
set_option maxHeartbeats 4000000 in
set_option maxRecDepth 100000 in
theorem c_endsIn_raw {E : Env3} {h p ri hp pts wts tps ti rc rn rt ac an np ai ni : Nat} {A : AV} {B : AV} {v : SV} {w : SV} {fc : Nat → Int32} {fn : Nat → Int32} {fi : Nat → Int32} {reason : Int32} {cause : Int32} {pc : Int32} (hv : okS v) (hw : okS w) (hnp : np ≤ 80) (hni : ni ≤ 20) {k : Nat} (hl : isLenB (nI k) = true) (hk : k < 2 ^ 31)  : Cd E none 5 yX8_endsIn cX8_endsIn 3 (some .int) [.ref h, .int (nI k)] [lanO h p ri A.1 hp pts pc wts tps reason cause B.1 ti, progO p rc rn rt, rowW E.2.2 rc ac 80 fc np, rowW E.2.2 rn an 80 fn np, rowW E.2.2 ri ai 20 fi ni, stOv A v, rw1 E.2.2 A v, rw2 E.2.2 A v, rw3 E.2.2 A v, rw4 E.2.2 A v, stOv B w, rw1 E.2.2 B w, rw2 E.2.2 B w, rw3 E.2.2 B w, rw4 E.2.2 B w] (some (.int (endsV k (tryF (fc, np) (fn, np) (fi, ni) k (copyF w v))))) [lanO h p ri A.1 hp pts pc wts tps reason cause B.1 ti, progO p rc rn rt, rowW E.2.2 rc ac 80 fc np, rowW E.2.2 rn an 80 fn np, rowW E.2.2 ri ai 20 fi ni, stOv A v, rw1 E.2.2 A v, rw2 E.2.2 A v, rw3 E.2.2 A v, rw4 E.2.2 A v, stOv B ((tryF (fc, np) (fn, np) (fi, ni) k (copyF w v)).2), rw1 E.2.2 B ((tryF (fc, np) (fn, np) (fi, ni) k (copyF w v)).2), rw2 E.2.2 B ((tryF (fc, np) (fn, np) (fi, ni) k (copyF w v)).2), rw3 E.2.2 B ((tryF (fc, np) (fn, np) (fi, ni) k (copyF w v)).2), rw4 E.2.2 B ((tryF (fc, np) (fn, np) (fi, ni) k (copyF w v)).2)] := by
  refine Ct.of [some (.ref h), some (.int (nI k)), none] (by decide +kernel) rfl (Nat.le_of_ble_eq_true rfl) (fun F hE hF hR hN => ?_)
  subst hE
  refine g_iload_n hF dX8_endsIn_0 rfl ?_
  refine g_callSq hF (c_isRunLength) cal_X8_isRunLength rfl m_443 (by decide) (Or.inl rfl) (Nat.zero_le _) (Nat.zero_le _) [] rfl rfl rfl (Nat.le_of_ble_eq_true rfl) dX8_endsIn_1 ?_
  refine g_if_ne (tgt := 17) hF dX8_endsIn_4 (by decide) (fun c_4 => ?_) (fun c_4 => absurd c_4 (bI_n.mpr hl))
  refine g_aload_n hF dX8_endsIn_17 rfl ?_
  refine g_get (j := 11) hF 0 rfl rfl (by decide) rfl m_258 rfl dX8_endsIn_18 ?_
  refine g_aload_n hF dX8_endsIn_21 rfl ?_
  refine g_get (j := 2) hF 0 rfl rfl (by decide) rfl m_249 rfl dX8_endsIn_22 ?_
  refine g_callVd hF (c_S_copyFrom (by first | assumption | exact okS_ready (by assumption) | exact okS_perf (okS_ready (by assumption)) | exact okS_perf (by assumption) | exact okS_copy | exact okS_clear | exact okS_back (by assumption)) (by first | assumption | exact okS_ready (by assumption) | exact okS_perf (okS_ready (by assumption)) | exact okS_perf (by assumption) | exact okS_copy | exact okS_clear | exact okS_back (by assumption))) cal_X5_copyFrom rfl m_755 (by decide) (Or.inl rfl) (Nat.zero_le _) (Nat.zero_le _) 10 rfl rfl [10, 11, 12, 13, 14, 5, 6, 7, 8, 9] rfl rfl (Nat.le_of_ble_eq_true rfl) rfl (Nat.le_of_ble_eq_true rfl) dX8_endsIn_25 ?_
  try dsimp only [gput, gputA, List.set, stGs, List.cons_append, List.nil_append]
  refine g_aload_n hF dX8_endsIn_28 rfl ?_
  refine g_iload_n hF dX8_endsIn_29 rfl ?_
  refine g_aload_n hF dX8_endsIn_30 rfl ?_
  refine g_get (j := 1) hF 0 rfl rfl (by decide) rfl m_248 rfl dX8_endsIn_31 ?_
  refine g_callVd hF (c_tryOut okS_copy (by assumption) (by assumption) (by omega)) cal_X8_tryOut rfl m_760 (by decide) (Or.inl rfl) (Nat.zero_le _) (Nat.zero_le _) 0 rfl rfl [0, 1, 2, 3, 4, 10, 11, 12, 13, 14] rfl rfl (Nat.le_of_ble_eq_true rfl) rfl (Nat.le_of_ble_eq_true rfl) dX8_endsIn_34 ?_
  try dsimp only [gput, gputA, List.set, stGs, List.cons_append, List.nil_append]
  refine g_istore_n hF dX8_endsIn_37 (Nat.le_of_ble_eq_true rfl) rfl ?_
  refine g_iload_n hF dX8_endsIn_38 rfl ?_
  refine g_iload_n hF dX8_endsIn_39 rfl ?_
  refine g_icmp_lt (tgt := 54) hF dX8_endsIn_40 (by decide) (fun c_40 => ?_) (fun c_40 => ?_)
  · refine g_iload_n hF dX8_endsIn_54 rfl ?_
    refine g_goto (tgt := 59) hF dX8_endsIn_55 (by decide) ?_
    exact g_iret hF hR dX8_endsIn_59 ⟨(by unfold endsV; simp only [bI_n.mp c_4, eq_true c_40, if_true, if_false, true_and, and_true, false_and, and_false, true_or, or_true, false_or, or_false, not_true_eq_false, not_false_eq_true, Bool.true_eq_false, Bool.false_eq_true, ite_true, ite_false, reduceIte, decide_true, decide_false, Bool.not_true, Bool.not_false]), rfl⟩
  · refine g_aload_n hF dX8_endsIn_43 rfl ?_
    refine g_get (j := 11) hF 0 rfl rfl (by decide) rfl m_258 rfl dX8_endsIn_44 ?_
    refine g_getN (j := 5) hF 10 rfl rfl (by decide) rfl m_87 rfl dX8_endsIn_47 ?_
    refine g_iconst (v := (1)) hF dX8_endsIn_50 rfl ?_
    refine g_icmp_ne (tgt := 58) hF dX8_endsIn_51 (by decide) (fun c_51 => ?_) (fun c_51 => ?_)
    · refine g_iconst (v := (-1)) hF dX8_endsIn_58 rfl ?_
      exact g_iret hF hR dX8_endsIn_59 ⟨(by unfold endsV; simp only [bI_n.mp c_4, eq_false c_40, eq_false c_51, if_true, if_false, true_and, and_true, false_and, and_false, true_or, or_true, false_or, or_false, not_true_eq_false, not_false_eq_true, Bool.true_eq_false, Bool.false_eq_true, ite_true, ite_false, reduceIte, decide_true, decide_false, Bool.not_true, Bool.not_false]), rfl⟩
    · refine g_iload_n hF dX8_endsIn_54 rfl ?_
      refine g_goto (tgt := 59) hF dX8_endsIn_55 (by decide) ?_
      exact g_iret hF hR dX8_endsIn_59 ⟨(by unfold endsV; simp only [bI_n.mp c_4, eq_false c_40, eq_true c_51, if_true, if_false, true_and, and_true, false_and, and_false, true_or, or_true, false_or, or_false, not_true_eq_false, not_false_eq_true, Bool.true_eq_false, Bool.false_eq_true, ite_true, ite_false, reduceIte, decide_true, decide_false, Bool.not_true, Bool.not_false]), rfl⟩
set_option maxHeartbeats 4000000 in
set_option maxRecDepth 100000 in
theorem c_cellIn_raw {E : Env3} {h p ri hp pts wts tps ti rc rn rt ac an np ai ni : Nat} {A : AV} {B : AV} {v : SV} {w : SV} {fc : Nat → Int32} {fn : Nat → Int32} {fi : Nat → Int32} {reason : Int32} {cause : Int32} {pc : Int32} (hv : okS v) (hw : okS w) (hnp : np ≤ 80) (hni : ni ≤ 20) {k : Nat} (hl : isLenB (nI k) = true) (hk : k < 2 ^ 31) {c : Int32} (hcl : isCellB c = true)  : Cd E none 5 yX8_cellIn cX8_cellIn 3 (some .int) [.ref h, .int c, .int (nI k)] [lanO h p ri A.1 hp pts pc wts tps reason cause B.1 ti, progO p rc rn rt, rowW E.2.2 rc ac 80 fc np, rowW E.2.2 rn an 80 fn np, rowW E.2.2 ri ai 20 fi ni, stOv A v, rw1 E.2.2 A v, rw2 E.2.2 A v, rw3 E.2.2 A v, rw4 E.2.2 A v, stOv B w, rw1 E.2.2 B w, rw2 E.2.2 B w, rw3 E.2.2 B w, rw4 E.2.2 B w] (some (.int (getR (tryF (fc, np) (fn, np) (fi, ni) k (copyF w v)).2.2.1 c))) [lanO h p ri A.1 hp pts pc wts tps reason cause B.1 ti, progO p rc rn rt, rowW E.2.2 rc ac 80 fc np, rowW E.2.2 rn an 80 fn np, rowW E.2.2 ri ai 20 fi ni, stOv A v, rw1 E.2.2 A v, rw2 E.2.2 A v, rw3 E.2.2 A v, rw4 E.2.2 A v, stOv B ((tryF (fc, np) (fn, np) (fi, ni) k (copyF w v)).2), rw1 E.2.2 B ((tryF (fc, np) (fn, np) (fi, ni) k (copyF w v)).2), rw2 E.2.2 B ((tryF (fc, np) (fn, np) (fi, ni) k (copyF w v)).2), rw3 E.2.2 B ((tryF (fc, np) (fn, np) (fi, ni) k (copyF w v)).2), rw4 E.2.2 B ((tryF (fc, np) (fn, np) (fi, ni) k (copyF w v)).2)] := by
  refine Ct.of [some (.ref h), some (.int c), some (.int (nI k))] (by decide +kernel) rfl (Nat.le_of_ble_eq_true rfl) (fun F hE hF hR hN => ?_)
  subst hE
  refine g_iload_n hF dX8_cellIn_0 rfl ?_
  refine g_callSq hF (c_isCell) cal_X8_isCell rfl m_652 (by decide) (Or.inl rfl) (Nat.zero_le _) (Nat.zero_le _) [] rfl rfl rfl (Nat.le_of_ble_eq_true rfl) dX8_cellIn_1 ?_
  refine g_if_ne (tgt := 18) hF dX8_cellIn_4 (by decide) (fun c_4 => ?_) (fun c_4 => absurd c_4 (bI_n.mpr hcl))
  refine g_iload_n hF dX8_cellIn_18 rfl ?_
  refine g_callSq hF (c_isRunLength) cal_X8_isRunLength rfl m_443 (by decide) (Or.inl rfl) (Nat.zero_le _) (Nat.zero_le _) [] rfl rfl rfl (Nat.le_of_ble_eq_true rfl) dX8_cellIn_19 ?_
  refine g_if_ne (tgt := 35) hF dX8_cellIn_22 (by decide) (fun c_22 => ?_) (fun c_22 => absurd c_22 (bI_n.mpr hl))
  refine g_aload_n hF dX8_cellIn_35 rfl ?_
  refine g_get (j := 11) hF 0 rfl rfl (by decide) rfl m_258 rfl dX8_cellIn_36 ?_
  refine g_aload_n hF dX8_cellIn_39 rfl ?_
  refine g_get (j := 2) hF 0 rfl rfl (by decide) rfl m_249 rfl dX8_cellIn_40 ?_
  refine g_callVd hF (c_S_copyFrom (by first | assumption | exact okS_ready (by assumption) | exact okS_perf (okS_ready (by assumption)) | exact okS_perf (by assumption) | exact okS_copy | exact okS_clear | exact okS_back (by assumption)) (by first | assumption | exact okS_ready (by assumption) | exact okS_perf (okS_ready (by assumption)) | exact okS_perf (by assumption) | exact okS_copy | exact okS_clear | exact okS_back (by assumption))) cal_X5_copyFrom rfl m_755 (by decide) (Or.inl rfl) (Nat.zero_le _) (Nat.zero_le _) 10 rfl rfl [10, 11, 12, 13, 14, 5, 6, 7, 8, 9] rfl rfl (Nat.le_of_ble_eq_true rfl) rfl (Nat.le_of_ble_eq_true rfl) dX8_cellIn_43 ?_
  try dsimp only [gput, gputA, List.set, stGs, List.cons_append, List.nil_append]
  refine g_aload_n hF dX8_cellIn_46 rfl ?_
  refine g_iload_n hF dX8_cellIn_47 rfl ?_
  refine g_aload_n hF dX8_cellIn_48 rfl ?_
  refine g_get (j := 1) hF 0 rfl rfl (by decide) rfl m_248 rfl dX8_cellIn_49 ?_
  refine g_callVd hF (c_tryOut okS_copy (by assumption) (by assumption) (by omega)) cal_X8_tryOut rfl m_760 (by decide) (Or.inl rfl) (Nat.zero_le _) (Nat.zero_le _) 0 rfl rfl [0, 1, 2, 3, 4, 10, 11, 12, 13, 14] rfl rfl (Nat.le_of_ble_eq_true rfl) rfl (Nat.le_of_ble_eq_true rfl) dX8_cellIn_52 ?_
  try dsimp only [gput, gputA, List.set, stGs, List.cons_append, List.nil_append]
  refine g_pop hF dX8_cellIn_55 rfl ?_
  refine g_aload_n hF dX8_cellIn_56 rfl ?_
  refine g_get (j := 11) hF 0 rfl rfl (by decide) rfl m_258 rfl dX8_cellIn_57 ?_
  refine g_getN (j := 1) hF 10 rfl rfl (by decide) rfl m_77 rfl dX8_cellIn_60 ?_
  refine g_iload_n hF dX8_cellIn_63 rfl ?_
  refine g_callVq hF (c_Row_get (okS_try k okS_copy).2.1 (by omega)) cal_X4_get rfl m_654 (by decide) (Or.inl rfl) (Nat.zero_le _) (Nat.zero_le _) 12 rfl rfl [12] rfl rfl rfl (Nat.le_of_ble_eq_true rfl) dX8_cellIn_64 ?_
  exact g_iret hF hR dX8_cellIn_67 ⟨rfl, rfl⟩
