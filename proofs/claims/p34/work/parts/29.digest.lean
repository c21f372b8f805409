def thenMix (M : Nat → Nat → Int32) (cnt : Nat) (v : SV) (j : Nat) (d : Int64) : Int64 := if cnt < j then d else foldI d [tellM (M (cnt - j)) 0, tellM (M (cnt - j)) 2, cellAgoF M cnt 0 j (getR v.2.1 0)]
def digF (reason cause : Int32) (cnt : Nat) (v : SV) (M : Nat → Nat → Int32) (fc fn ft : Nat → Int32) (np : Nat) (inp : RV) : Int64 := thenMix M cnt v 5 (thenMix M cnt v 1 (foldI (mixP fc fn ft np (mixSt v (foldI 58068 [toldF reason cause cnt v 0, toldF reason cause cnt v 1, toldF reason cause cnt v 2, toldF reason cause cnt v 3, toldF reason cause cnt v 4, toldF reason cause cnt v 5, toldF reason cause cnt v 6, toldF reason cause cnt v 7, toldF reason cause cnt v 8, toldF reason cause cnt v 9]))) [storedD M cnt 0 cnt, storedD M cnt 1 cnt, storedD M cnt 2 cnt, storedD M cnt 3 cnt, storedD M cnt 4 cnt, storedD M cnt 5 cnt, storedD M cnt 6 cnt, storedD M cnt 7 cnt, storedD M cnt 8 cnt, storedD M cnt 9 cnt, storedD M cnt 10 cnt, storedD M cnt 11 cnt])) * 31 + (endsV 50 (tryF (fc, np) (fn, np) inp 50 v)).toInt64
set_option maxHeartbeats 4000000 in
set_option maxRecDepth 100000 in
theorem c_digest_0 {E : Env3} {h p ri hp pts wts tps ti rc rn rt ac an at0 np ai ni ma cnt : Nat} {A : AV} {B : AV} {v : SV} {w : SV} {ad : Nat → Nat} {fc : Nat → Int32} {fn : Nat → Int32} {ft : Nat → Int32} {fi : Nat → Int32} {M : Nat → Nat → Int32} {reason : Int32} {cause : Int32} (hv : okS v) (hw : okS w) (hnp : np ≤ 80) (hni : ni ≤ 20) (hc : cnt ≤ 200)  : Cd E none 6 yX8_digest cX8_digest 4 (some .long) [.ref h] [lanO h p ri A.1 hp pts 0 wts tps reason cause B.1 ti, progO p rc rn rt, rowW E.2.2 rc ac 80 fc np, rowW E.2.2 rn an 80 fn np, rowW E.2.2 rt at0 80 ft np, rowW E.2.2 ri ai 20 fi ni, stOv A v, rw1 E.2.2 A v, rw2 E.2.2 A v, rw3 E.2.2 A v, rw4 E.2.2 A v, pastO hp ma cnt, arrM E.2.2 ma ad, momsW ad M, stOv B w, rw1 E.2.2 B w, rw2 E.2.2 B w, rw3 E.2.2 B w, rw4 E.2.2 B w] (some (.long (digF reason cause cnt v M fc fn ft np (fi, ni)))) [lanO h p ri A.1 hp pts 0 wts tps reason cause B.1 ti, progO p rc rn rt, rowW E.2.2 rc ac 80 fc np, rowW E.2.2 rn an 80 fn np, rowW E.2.2 rt at0 80 ft np, rowW E.2.2 ri ai 20 fi ni, stOv A v, rw1 E.2.2 A v, rw2 E.2.2 A v, rw3 E.2.2 A v, rw4 E.2.2 A v, pastO hp ma cnt, arrM E.2.2 ma ad, momsW ad M, stOv B ((tryF (fc, np) (fn, np) (fi, ni) 50 (copyF w v)).2), rw1 E.2.2 B ((tryF (fc, np) (fn, np) (fi, ni) 50 (copyF w v)).2), rw2 E.2.2 B ((tryF (fc, np) (fn, np) (fi, ni) 50 (copyF w v)).2), rw3 E.2.2 B ((tryF (fc, np) (fn, np) (fi, ni) 50 (copyF w v)).2), rw4 E.2.2 B ((tryF (fc, np) (fn, np) (fi, ni) 50 (copyF w v)).2)] := by
  refine Ct.of [some (.ref h), none, none, none] (by decide +kernel) rfl (Nat.le_of_ble_eq_true rfl) (fun F hE hF hR hN => ?_)
  subst hE
  refine g_ldc2 hF m_776 dX8_digest_0 ?_
  refine g_lstore_n hF dX8_digest_3 (Nat.le_of_ble_eq_true rfl) rfl ?_
  refine g_iconst (v := (0)) hF dX8_digest_4 rfl ?_
  refine g_istore_n hF dX8_digest_5 (Nat.le_of_ble_eq_true rfl) rfl ?_
  refine g_iload_n hF dX8_digest_6 rfl ?_
  refine g_bipush (v := (9)) hF dX8_digest_7 rfl ?_
  refine g_icmp_gt (tgt := 28) hF dX8_digest_9 (by decide) (fun c_9 => absurd c_9 (show ¬ (((9) : Int32) < (0)) by decide)) (fun c_9 => ?_)
  refine g_lload_n hF dX8_digest_12 rfl ?_
  refine g_aload_n hF dX8_digest_13 rfl ?_
  refine g_iload_n hF dX8_digest_14 rfl ?_
  refine g_callVq hF (c_told (k := 0) (by decide) (by decide)) cal_X8_told rfl m_777 (by decide) (Or.inl rfl) (Nat.zero_le _) (Nat.zero_le _) 0 rfl rfl [0, 6, 7, 9, 10, 11] rfl rfl rfl (Nat.le_of_ble_eq_true rfl) dX8_digest_15 ?_
  refine g_callSq hF (c_mixed) cal_X8_mixed rfl m_778 (by decide) (Or.inl rfl) (Nat.zero_le _) (Nat.zero_le _) [] rfl rfl rfl (Nat.le_of_ble_eq_true rfl) dX8_digest_18 ?_
  refine g_lstore_n hF dX8_digest_21 (Nat.le_of_ble_eq_true rfl) rfl ?_
  refine g_iinc (v := (1)) hF dX8_digest_22 rfl rfl rfl ?_
  refine g_goto (tgt := 6) hF dX8_digest_25 (by decide) ?_
  try dsimp only [gput, gputA, List.set, stGs, List.cons_append, List.nil_append]
  refine g_iload_n hF dX8_digest_6 rfl ?_
  refine g_bipush (v := (9)) hF dX8_digest_7 rfl ?_
  refine g_icmp_gt (tgt := 28) hF dX8_digest_9 (by decide) (fun c_9 => absurd c_9 (show ¬ (((9) : Int32) < (1)) by decide)) (fun c_9 => ?_)
  refine g_lload_n hF dX8_digest_12 rfl ?_
  refine g_aload_n hF dX8_digest_13 rfl ?_
  refine g_iload_n hF dX8_digest_14 rfl ?_
  refine g_callVq hF (c_told (k := 1) (by decide) (by decide)) cal_X8_told rfl m_777 (by decide) (Or.inl rfl) (Nat.zero_le _) (Nat.zero_le _) 0 rfl rfl [0, 6, 7, 9, 10, 11] rfl rfl rfl (Nat.le_of_ble_eq_true rfl) dX8_digest_15 ?_
  refine g_callSq hF (c_mixed) cal_X8_mixed rfl m_778 (by decide) (Or.inl rfl) (Nat.zero_le _) (Nat.zero_le _) [] rfl rfl rfl (Nat.le_of_ble_eq_true rfl) dX8_digest_18 ?_
  refine g_lstore_n hF dX8_digest_21 (Nat.le_of_ble_eq_true rfl) rfl ?_
  refine g_iinc (v := (2)) hF dX8_digest_22 rfl rfl rfl ?_
  refine g_goto (tgt := 6) hF dX8_digest_25 (by decide) ?_
  try dsimp only [gput, gputA, List.set, stGs, List.cons_append, List.nil_append]
  refine g_iload_n hF dX8_digest_6 rfl ?_
  refine g_bipush (v := (9)) hF dX8_digest_7 rfl ?_
  refine g_icmp_gt (tgt := 28) hF dX8_digest_9 (by decide) (fun c_9 => absurd c_9 (show ¬ (((9) : Int32) < (2)) by decide)) (fun c_9 => ?_)
  refine g_lload_n hF dX8_digest_12 rfl ?_
  refine g_aload_n hF dX8_digest_13 rfl ?_
  refine g_iload_n hF dX8_digest_14 rfl ?_
  refine g_callVq hF (c_told (k := 2) (by decide) (by decide)) cal_X8_told rfl m_777 (by decide) (Or.inl rfl) (Nat.zero_le _) (Nat.zero_le _) 0 rfl rfl [0, 6, 7, 9, 10, 11] rfl rfl rfl (Nat.le_of_ble_eq_true rfl) dX8_digest_15 ?_
  refine g_callSq hF (c_mixed) cal_X8_mixed rfl m_778 (by decide) (Or.inl rfl) (Nat.zero_le _) (Nat.zero_le _) [] rfl rfl rfl (Nat.le_of_ble_eq_true rfl) dX8_digest_18 ?_
  refine g_lstore_n hF dX8_digest_21 (Nat.le_of_ble_eq_true rfl) rfl ?_
  refine g_iinc (v := (3)) hF dX8_digest_22 rfl rfl rfl ?_
  refine g_goto (tgt := 6) hF dX8_digest_25 (by decide) ?_
  try dsimp only [gput, gputA, List.set, stGs, List.cons_append, List.nil_append]
  refine g_iload_n hF dX8_digest_6 rfl ?_
  refine g_bipush (v := (9)) hF dX8_digest_7 rfl ?_
  refine g_icmp_gt (tgt := 28) hF dX8_digest_9 (by decide) (fun c_9 => absurd c_9 (show ¬ (((9) : Int32) < (3)) by decide)) (fun c_9 => ?_)
  refine g_lload_n hF dX8_digest_12 rfl ?_
  refine g_aload_n hF dX8_digest_13 rfl ?_
  refine g_iload_n hF dX8_digest_14 rfl ?_
  refine g_callVq hF (c_told (k := 3) (by decide) (by decide)) cal_X8_told rfl m_777 (by decide) (Or.inl rfl) (Nat.zero_le _) (Nat.zero_le _) 0 rfl rfl [0, 6, 7, 9, 10, 11] rfl rfl rfl (Nat.le_of_ble_eq_true rfl) dX8_digest_15 ?_
  refine g_callSq hF (c_mixed) cal_X8_mixed rfl m_778 (by decide) (Or.inl rfl) (Nat.zero_le _) (Nat.zero_le _) [] rfl rfl rfl (Nat.le_of_ble_eq_true rfl) dX8_digest_18 ?_
  refine g_lstore_n hF dX8_digest_21 (Nat.le_of_ble_eq_true rfl) rfl ?_
  refine g_iinc (v := (4)) hF dX8_digest_22 rfl rfl rfl ?_
  refine g_goto (tgt := 6) hF dX8_digest_25 (by decide) ?_
  try dsimp only [gput, gputA, List.set, stGs, List.cons_append, List.nil_append]
  refine g_iload_n hF dX8_digest_6 rfl ?_
  refine g_bipush (v := (9)) hF dX8_digest_7 rfl ?_
  refine g_icmp_gt (tgt := 28) hF dX8_digest_9 (by decide) (fun c_9 => absurd c_9 (show ¬ (((9) : Int32) < (4)) by decide)) (fun c_9 => ?_)
  refine g_lload_n hF dX8_digest_12 rfl ?_
  refine g_aload_n hF dX8_digest_13 rfl ?_
  refine g_iload_n hF dX8_digest_14 rfl ?_
  refine g_callVq hF (c_told (k := 4) (by decide) (by decide)) cal_X8_told rfl m_777 (by decide) (Or.inl rfl) (Nat.zero_le _) (Nat.zero_le _) 0 rfl rfl [0, 6, 7, 9, 10, 11] rfl rfl rfl (Nat.le_of_ble_eq_true rfl) dX8_digest_15 ?_
  refine g_callSq hF (c_mixed) cal_X8_mixed rfl m_778 (by decide) (Or.inl rfl) (Nat.zero_le _) (Nat.zero_le _) [] rfl rfl rfl (Nat.le_of_ble_eq_true rfl) dX8_digest_18 ?_
  refine g_lstore_n hF dX8_digest_21 (Nat.le_of_ble_eq_true rfl) rfl ?_
  refine g_iinc (v := (5)) hF dX8_digest_22 rfl rfl rfl ?_
  refine g_goto (tgt := 6) hF dX8_digest_25 (by decide) ?_
  try dsimp only [gput, gputA, List.set, stGs, List.cons_append, List.nil_append]
  refine g_iload_n hF dX8_digest_6 rfl ?_
  refine g_bipush (v := (9)) hF dX8_digest_7 rfl ?_
  refine g_icmp_gt (tgt := 28) hF dX8_digest_9 (by decide) (fun c_9 => absurd c_9 (show ¬ (((9) : Int32) < (5)) by decide)) (fun c_9 => ?_)
  refine g_lload_n hF dX8_digest_12 rfl ?_
  refine g_aload_n hF dX8_digest_13 rfl ?_
  refine g_iload_n hF dX8_digest_14 rfl ?_
  refine g_callVq hF (c_told (k := 5) (by decide) (by decide)) cal_X8_told rfl m_777 (by decide) (Or.inl rfl) (Nat.zero_le _) (Nat.zero_le _) 0 rfl rfl [0, 6, 7, 9, 10, 11] rfl rfl rfl (Nat.le_of_ble_eq_true rfl) dX8_digest_15 ?_
  refine g_callSq hF (c_mixed) cal_X8_mixed rfl m_778 (by decide) (Or.inl rfl) (Nat.zero_le _) (Nat.zero_le _) [] rfl rfl rfl (Nat.le_of_ble_eq_true rfl) dX8_digest_18 ?_
  refine g_lstore_n hF dX8_digest_21 (Nat.le_of_ble_eq_true rfl) rfl ?_
  refine g_iinc (v := (6)) hF dX8_digest_22 rfl rfl rfl ?_
  refine g_goto (tgt := 6) hF dX8_digest_25 (by decide) ?_
  try dsimp only [gput, gputA, List.set, stGs, List.cons_append, List.nil_append]
  refine g_iload_n hF dX8_digest_6 rfl ?_
  refine g_bipush (v := (9)) hF dX8_digest_7 rfl ?_
  refine g_icmp_gt (tgt := 28) hF dX8_digest_9 (by decide) (fun c_9 => absurd c_9 (show ¬ (((9) : Int32) < (6)) by decide)) (fun c_9 => ?_)
  refine g_lload_n hF dX8_digest_12 rfl ?_
  refine g_aload_n hF dX8_digest_13 rfl ?_
  refine g_iload_n hF dX8_digest_14 rfl ?_
  refine g_callVq hF (c_told (k := 6) (by decide) (by decide)) cal_X8_told rfl m_777 (by decide) (Or.inl rfl) (Nat.zero_le _) (Nat.zero_le _) 0 rfl rfl [0, 6, 7, 9, 10, 11] rfl rfl rfl (Nat.le_of_ble_eq_true rfl) dX8_digest_15 ?_
  refine g_callSq hF (c_mixed) cal_X8_mixed rfl m_778 (by decide) (Or.inl rfl) (Nat.zero_le _) (Nat.zero_le _) [] rfl rfl rfl (Nat.le_of_ble_eq_true rfl) dX8_digest_18 ?_
  refine g_lstore_n hF dX8_digest_21 (Nat.le_of_ble_eq_true rfl) rfl ?_
  refine g_iinc (v := (7)) hF dX8_digest_22 rfl rfl rfl ?_
  refine g_goto (tgt := 6) hF dX8_digest_25 (by decide) ?_
  try dsimp only [gput, gputA, List.set, stGs, List.cons_append, List.nil_append]
  refine g_iload_n hF dX8_digest_6 rfl ?_
  refine g_bipush (v := (9)) hF dX8_digest_7 rfl ?_
  refine g_icmp_gt (tgt := 28) hF dX8_digest_9 (by decide) (fun c_9 => absurd c_9 (show ¬ (((9) : Int32) < (7)) by decide)) (fun c_9 => ?_)
  refine g_lload_n hF dX8_digest_12 rfl ?_
  refine g_aload_n hF dX8_digest_13 rfl ?_
  refine g_iload_n hF dX8_digest_14 rfl ?_
  refine g_callVq hF (c_told (k := 7) (by decide) (by decide)) cal_X8_told rfl m_777 (by decide) (Or.inl rfl) (Nat.zero_le _) (Nat.zero_le _) 0 rfl rfl [0, 6, 7, 9, 10, 11] rfl rfl rfl (Nat.le_of_ble_eq_true rfl) dX8_digest_15 ?_
  refine g_callSq hF (c_mixed) cal_X8_mixed rfl m_778 (by decide) (Or.inl rfl) (Nat.zero_le _) (Nat.zero_le _) [] rfl rfl rfl (Nat.le_of_ble_eq_true rfl) dX8_digest_18 ?_
  refine g_lstore_n hF dX8_digest_21 (Nat.le_of_ble_eq_true rfl) rfl ?_
  refine g_iinc (v := (8)) hF dX8_digest_22 rfl rfl rfl ?_
  refine g_goto (tgt := 6) hF dX8_digest_25 (by decide) ?_
  try dsimp only [gput, gputA, List.set, stGs, List.cons_append, List.nil_append]
  refine g_iload_n hF dX8_digest_6 rfl ?_
  refine g_bipush (v := (9)) hF dX8_digest_7 rfl ?_
  refine g_icmp_gt (tgt := 28) hF dX8_digest_9 (by decide) (fun c_9 => absurd c_9 (show ¬ (((9) : Int32) < (8)) by decide)) (fun c_9 => ?_)
  refine g_lload_n hF dX8_digest_12 rfl ?_
  refine g_aload_n hF dX8_digest_13 rfl ?_
  refine g_iload_n hF dX8_digest_14 rfl ?_
  refine g_callVq hF (c_told (k := 8) (by decide) (by decide)) cal_X8_told rfl m_777 (by decide) (Or.inl rfl) (Nat.zero_le _) (Nat.zero_le _) 0 rfl rfl [0, 6, 7, 9, 10, 11] rfl rfl rfl (Nat.le_of_ble_eq_true rfl) dX8_digest_15 ?_
  refine g_callSq hF (c_mixed) cal_X8_mixed rfl m_778 (by decide) (Or.inl rfl) (Nat.zero_le _) (Nat.zero_le _) [] rfl rfl rfl (Nat.le_of_ble_eq_true rfl) dX8_digest_18 ?_
  refine g_lstore_n hF dX8_digest_21 (Nat.le_of_ble_eq_true rfl) rfl ?_
  refine g_iinc (v := (9)) hF dX8_digest_22 rfl rfl rfl ?_
  refine g_goto (tgt := 6) hF dX8_digest_25 (by decide) ?_
  try dsimp only [gput, gputA, List.set, stGs, List.cons_append, List.nil_append]
  refine g_iload_n hF dX8_digest_6 rfl ?_
  refine g_bipush (v := (9)) hF dX8_digest_7 rfl ?_
  refine g_icmp_gt (tgt := 28) hF dX8_digest_9 (by decide) (fun c_9 => absurd c_9 (show ¬ (((9) : Int32) < (9)) by decide)) (fun c_9 => ?_)
  refine g_lload_n hF dX8_digest_12 rfl ?_
  refine g_aload_n hF dX8_digest_13 rfl ?_
  refine g_iload_n hF dX8_digest_14 rfl ?_
  refine g_callVq hF (c_told (k := 9) (by decide) (by decide)) cal_X8_told rfl m_777 (by decide) (Or.inl rfl) (Nat.zero_le _) (Nat.zero_le _) 0 rfl rfl [0, 6, 7, 9, 10, 11] rfl rfl rfl (Nat.le_of_ble_eq_true rfl) dX8_digest_15 ?_
  refine g_callSq hF (c_mixed) cal_X8_mixed rfl m_778 (by decide) (Or.inl rfl) (Nat.zero_le _) (Nat.zero_le _) [] rfl rfl rfl (Nat.le_of_ble_eq_true rfl) dX8_digest_18 ?_
  refine g_lstore_n hF dX8_digest_21 (Nat.le_of_ble_eq_true rfl) rfl ?_
  refine g_iinc (v := (10)) hF dX8_digest_22 rfl rfl rfl ?_
  refine g_goto (tgt := 6) hF dX8_digest_25 (by decide) ?_
  try dsimp only [gput, gputA, List.set, stGs, List.cons_append, List.nil_append]
  refine g_iload_n hF dX8_digest_6 rfl ?_
  refine g_bipush (v := (9)) hF dX8_digest_7 rfl ?_
  refine g_icmp_gt (tgt := 28) hF dX8_digest_9 (by decide) (fun c_9 => ?_) (fun c_9 => absurd (show ((9) : Int32) < (10) by decide) c_9)
  refine g_aload_n hF dX8_digest_28 rfl ?_
  try dsimp only [gput, gputA, List.set, stGs, List.cons_append, List.nil_append]
  refine g_get (j := 2) hF 0 rfl rfl (by decide) rfl m_249 rfl dX8_digest_29 ?_
  refine g_lload_n hF dX8_digest_32 rfl ?_
  refine g_callVq hF (c_S_mixedInto (A := A) (v := v) (by assumption)) cal_X5_mixedInto rfl m_782 (by decide) (Or.inl rfl) (Nat.zero_le _) (Nat.zero_le _) 6 rfl rfl [6, 7, 8, 9, 10] rfl rfl rfl (Nat.le_of_ble_eq_true rfl) dX8_digest_33 ?_
  refine g_lstore_n hF dX8_digest_36 (Nat.le_of_ble_eq_true rfl) rfl ?_
  refine g_aload_n hF dX8_digest_37 rfl ?_
  refine g_lload_n hF dX8_digest_38 rfl ?_
  refine g_callVq hF (c_mixedProgram (by omega)) cal_X8_mixedProgram rfl m_796 (by decide) (Or.inl rfl) (Nat.zero_le _) (Nat.zero_le _) 0 rfl rfl [0, 1, 2, 3, 4] rfl rfl rfl (Nat.le_of_ble_eq_true rfl) dX8_digest_39 ?_
  refine g_lstore_n hF dX8_digest_42 (Nat.le_of_ble_eq_true rfl) rfl ?_
  refine g_aload_n hF dX8_digest_43 rfl ?_
  refine g_lload_n hF dX8_digest_44 rfl ?_
  refine g_callVq hF (c_mixedPoints_0) cal_X8_mixedPoints rfl m_800 (by decide) (Or.inl rfl) (Nat.zero_le _) (Nat.zero_le _) 0 rfl rfl [0] rfl rfl rfl (Nat.le_of_ble_eq_true rfl) dX8_digest_45 ?_
  refine g_lstore_n hF dX8_digest_48 (Nat.le_of_ble_eq_true rfl) rfl ?_
  refine g_iconst (v := (0)) hF dX8_digest_49 rfl ?_
  refine g_istore_n hF dX8_digest_50 (Nat.le_of_ble_eq_true rfl) rfl ?_
  refine g_iload_n hF dX8_digest_51 rfl ?_
  refine g_bipush (v := (12)) hF dX8_digest_52 rfl ?_
  refine g_icmp_ge (tgt := 76) hF dX8_digest_54 (by decide) (fun c_54 => absurd c_54 (show ¬ (((12) : Int32) ≤ (0)) by decide)) (fun c_54 => ?_)
  refine g_lload_n hF dX8_digest_57 rfl ?_
  refine g_aload_n hF dX8_digest_58 rfl ?_
  refine g_get (j := 3) hF 0 rfl rfl (by decide) rfl m_250 rfl dX8_digest_59 ?_
  refine g_iload_n hF dX8_digest_62 rfl ?_
  refine g_callVq hF (c_Past_storedAgo (c := 0) (by omega)) cal_X1_storedAgo rfl m_698 (by decide) (Or.inl rfl) (Nat.zero_le _) (Nat.zero_le _) 11 rfl rfl [11, 12, 13] rfl rfl rfl (Nat.le_of_ble_eq_true rfl) dX8_digest_63 ?_
  refine g_callSq hF (c_mixed) cal_X8_mixed rfl m_778 (by decide) (Or.inl rfl) (Nat.zero_le _) (Nat.zero_le _) [] rfl rfl rfl (Nat.le_of_ble_eq_true rfl) dX8_digest_66 ?_
  refine g_lstore_n hF dX8_digest_69 (Nat.le_of_ble_eq_true rfl) rfl ?_
  refine g_iinc (v := (1)) hF dX8_digest_70 rfl rfl rfl ?_
  refine g_goto (tgt := 51) hF dX8_digest_73 (by decide) ?_
  try dsimp only [gput, gputA, List.set, stGs, List.cons_append, List.nil_append]
  refine g_iload_n hF dX8_digest_51 rfl ?_
  refine g_bipush (v := (12)) hF dX8_digest_52 rfl ?_
  refine g_icmp_ge (tgt := 76) hF dX8_digest_54 (by decide) (fun c_54 => absurd c_54 (show ¬ (((12) : Int32) ≤ (1)) by decide)) (fun c_54 => ?_)
  refine g_lload_n hF dX8_digest_57 rfl ?_
  refine g_aload_n hF dX8_digest_58 rfl ?_
  refine g_get (j := 3) hF 0 rfl rfl (by decide) rfl m_250 rfl dX8_digest_59 ?_
  refine g_iload_n hF dX8_digest_62 rfl ?_
  refine g_callVq hF (c_Past_storedAgo (c := 1) (by omega)) cal_X1_storedAgo rfl m_698 (by decide) (Or.inl rfl) (Nat.zero_le _) (Nat.zero_le _) 11 rfl rfl [11, 12, 13] rfl rfl rfl (Nat.le_of_ble_eq_true rfl) dX8_digest_63 ?_
  refine g_callSq hF (c_mixed) cal_X8_mixed rfl m_778 (by decide) (Or.inl rfl) (Nat.zero_le _) (Nat.zero_le _) [] rfl rfl rfl (Nat.le_of_ble_eq_true rfl) dX8_digest_66 ?_
  refine g_lstore_n hF dX8_digest_69 (Nat.le_of_ble_eq_true rfl) rfl ?_
  refine g_iinc (v := (2)) hF dX8_digest_70 rfl rfl rfl ?_
  refine g_goto (tgt := 51) hF dX8_digest_73 (by decide) ?_
  try dsimp only [gput, gputA, List.set, stGs, List.cons_append, List.nil_append]
  refine g_iload_n hF dX8_digest_51 rfl ?_
  refine g_bipush (v := (12)) hF dX8_digest_52 rfl ?_
  refine g_icmp_ge (tgt := 76) hF dX8_digest_54 (by decide) (fun c_54 => absurd c_54 (show ¬ (((12) : Int32) ≤ (2)) by decide)) (fun c_54 => ?_)
  refine g_lload_n hF dX8_digest_57 rfl ?_
  refine g_aload_n hF dX8_digest_58 rfl ?_
  refine g_get (j := 3) hF 0 rfl rfl (by decide) rfl m_250 rfl dX8_digest_59 ?_
  refine g_iload_n hF dX8_digest_62 rfl ?_
  refine g_callVq hF (c_Past_storedAgo (c := 2) (by omega)) cal_X1_storedAgo rfl m_698 (by decide) (Or.inl rfl) (Nat.zero_le _) (Nat.zero_le _) 11 rfl rfl [11, 12, 13] rfl rfl rfl (Nat.le_of_ble_eq_true rfl) dX8_digest_63 ?_
  refine g_callSq hF (c_mixed) cal_X8_mixed rfl m_778 (by decide) (Or.inl rfl) (Nat.zero_le _) (Nat.zero_le _) [] rfl rfl rfl (Nat.le_of_ble_eq_true rfl) dX8_digest_66 ?_
  refine g_lstore_n hF dX8_digest_69 (Nat.le_of_ble_eq_true rfl) rfl ?_
  refine g_iinc (v := (3)) hF dX8_digest_70 rfl rfl rfl ?_
  refine g_goto (tgt := 51) hF dX8_digest_73 (by decide) ?_
  try dsimp only [gput, gputA, List.set, stGs, List.cons_append, List.nil_append]
  refine g_iload_n hF dX8_digest_51 rfl ?_
  refine g_bipush (v := (12)) hF dX8_digest_52 rfl ?_
  refine g_icmp_ge (tgt := 76) hF dX8_digest_54 (by decide) (fun c_54 => absurd c_54 (show ¬ (((12) : Int32) ≤ (3)) by decide)) (fun c_54 => ?_)
  refine g_lload_n hF dX8_digest_57 rfl ?_
  refine g_aload_n hF dX8_digest_58 rfl ?_
  refine g_get (j := 3) hF 0 rfl rfl (by decide) rfl m_250 rfl dX8_digest_59 ?_
  refine g_iload_n hF dX8_digest_62 rfl ?_
  refine g_callVq hF (c_Past_storedAgo (c := 3) (by omega)) cal_X1_storedAgo rfl m_698 (by decide) (Or.inl rfl) (Nat.zero_le _) (Nat.zero_le _) 11 rfl rfl [11, 12, 13] rfl rfl rfl (Nat.le_of_ble_eq_true rfl) dX8_digest_63 ?_
  refine g_callSq hF (c_mixed) cal_X8_mixed rfl m_778 (by decide) (Or.inl rfl) (Nat.zero_le _) (Nat.zero_le _) [] rfl rfl rfl (Nat.le_of_ble_eq_true rfl) dX8_digest_66 ?_
  refine g_lstore_n hF dX8_digest_69 (Nat.le_of_ble_eq_true rfl) rfl ?_
  refine g_iinc (v := (4)) hF dX8_digest_70 rfl rfl rfl ?_
  refine g_goto (tgt := 51) hF dX8_digest_73 (by decide) ?_
  try dsimp only [gput, gputA, List.set, stGs, List.cons_append, List.nil_append]
  refine g_iload_n hF dX8_digest_51 rfl ?_
  refine g_bipush (v := (12)) hF dX8_digest_52 rfl ?_
  refine g_icmp_ge (tgt := 76) hF dX8_digest_54 (by decide) (fun c_54 => absurd c_54 (show ¬ (((12) : Int32) ≤ (4)) by decide)) (fun c_54 => ?_)
  refine g_lload_n hF dX8_digest_57 rfl ?_
  refine g_aload_n hF dX8_digest_58 rfl ?_
  refine g_get (j := 3) hF 0 rfl rfl (by decide) rfl m_250 rfl dX8_digest_59 ?_
  refine g_iload_n hF dX8_digest_62 rfl ?_
  refine g_callVq hF (c_Past_storedAgo (c := 4) (by omega)) cal_X1_storedAgo rfl m_698 (by decide) (Or.inl rfl) (Nat.zero_le _) (Nat.zero_le _) 11 rfl rfl [11, 12, 13] rfl rfl rfl (Nat.le_of_ble_eq_true rfl) dX8_digest_63 ?_
  refine g_callSq hF (c_mixed) cal_X8_mixed rfl m_778 (by decide) (Or.inl rfl) (Nat.zero_le _) (Nat.zero_le _) [] rfl rfl rfl (Nat.le_of_ble_eq_true rfl) dX8_digest_66 ?_
  refine g_lstore_n hF dX8_digest_69 (Nat.le_of_ble_eq_true rfl) rfl ?_
  refine g_iinc (v := (5)) hF dX8_digest_70 rfl rfl rfl ?_
  refine g_goto (tgt := 51) hF dX8_digest_73 (by decide) ?_
  try dsimp only [gput, gputA, List.set, stGs, List.cons_append, List.nil_append]
  refine g_iload_n hF dX8_digest_51 rfl ?_
  refine g_bipush (v := (12)) hF dX8_digest_52 rfl ?_
  refine g_icmp_ge (tgt := 76) hF dX8_digest_54 (by decide) (fun c_54 => absurd c_54 (show ¬ (((12) : Int32) ≤ (5)) by decide)) (fun c_54 => ?_)
  refine g_lload_n hF dX8_digest_57 rfl ?_
  refine g_aload_n hF dX8_digest_58 rfl ?_
  refine g_get (j := 3) hF 0 rfl rfl (by decide) rfl m_250 rfl dX8_digest_59 ?_
  refine g_iload_n hF dX8_digest_62 rfl ?_
  refine g_callVq hF (c_Past_storedAgo (c := 5) (by omega)) cal_X1_storedAgo rfl m_698 (by decide) (Or.inl rfl) (Nat.zero_le _) (Nat.zero_le _) 11 rfl rfl [11, 12, 13] rfl rfl rfl (Nat.le_of_ble_eq_true rfl) dX8_digest_63 ?_
  refine g_callSq hF (c_mixed) cal_X8_mixed rfl m_778 (by decide) (Or.inl rfl) (Nat.zero_le _) (Nat.zero_le _) [] rfl rfl rfl (Nat.le_of_ble_eq_true rfl) dX8_digest_66 ?_
  refine g_lstore_n hF dX8_digest_69 (Nat.le_of_ble_eq_true rfl) rfl ?_
  refine g_iinc (v := (6)) hF dX8_digest_70 rfl rfl rfl ?_
  refine g_goto (tgt := 51) hF dX8_digest_73 (by decide) ?_
  try dsimp only [gput, gputA, List.set, stGs, List.cons_append, List.nil_append]
  refine g_iload_n hF dX8_digest_51 rfl ?_
  refine g_bipush (v := (12)) hF dX8_digest_52 rfl ?_
  refine g_icmp_ge (tgt := 76) hF dX8_digest_54 (by decide) (fun c_54 => absurd c_54 (show ¬ (((12) : Int32) ≤ (6)) by decide)) (fun c_54 => ?_)
  refine g_lload_n hF dX8_digest_57 rfl ?_
  refine g_aload_n hF dX8_digest_58 rfl ?_
  refine g_get (j := 3) hF 0 rfl rfl (by decide) rfl m_250 rfl dX8_digest_59 ?_
  refine g_iload_n hF dX8_digest_62 rfl ?_
  refine g_callVq hF (c_Past_storedAgo (c := 6) (by omega)) cal_X1_storedAgo rfl m_698 (by decide) (Or.inl rfl) (Nat.zero_le _) (Nat.zero_le _) 11 rfl rfl [11, 12, 13] rfl rfl rfl (Nat.le_of_ble_eq_true rfl) dX8_digest_63 ?_
  refine g_callSq hF (c_mixed) cal_X8_mixed rfl m_778 (by decide) (Or.inl rfl) (Nat.zero_le _) (Nat.zero_le _) [] rfl rfl rfl (Nat.le_of_ble_eq_true rfl) dX8_digest_66 ?_
  refine g_lstore_n hF dX8_digest_69 (Nat.le_of_ble_eq_true rfl) rfl ?_
  refine g_iinc (v := (7)) hF dX8_digest_70 rfl rfl rfl ?_
  refine g_goto (tgt := 51) hF dX8_digest_73 (by decide) ?_
  try dsimp only [gput, gputA, List.set, stGs, List.cons_append, List.nil_append]
  refine g_iload_n hF dX8_digest_51 rfl ?_
  refine g_bipush (v := (12)) hF dX8_digest_52 rfl ?_
  refine g_icmp_ge (tgt := 76) hF dX8_digest_54 (by decide) (fun c_54 => absurd c_54 (show ¬ (((12) : Int32) ≤ (7)) by decide)) (fun c_54 => ?_)
  refine g_lload_n hF dX8_digest_57 rfl ?_
  refine g_aload_n hF dX8_digest_58 rfl ?_
  refine g_get (j := 3) hF 0 rfl rfl (by decide) rfl m_250 rfl dX8_digest_59 ?_
  refine g_iload_n hF dX8_digest_62 rfl ?_
  refine g_callVq hF (c_Past_storedAgo (c := 7) (by omega)) cal_X1_storedAgo rfl m_698 (by decide) (Or.inl rfl) (Nat.zero_le _) (Nat.zero_le _) 11 rfl rfl [11, 12, 13] rfl rfl rfl (Nat.le_of_ble_eq_true rfl) dX8_digest_63 ?_
  refine g_callSq hF (c_mixed) cal_X8_mixed rfl m_778 (by decide) (Or.inl rfl) (Nat.zero_le _) (Nat.zero_le _) [] rfl rfl rfl (Nat.le_of_ble_eq_true rfl) dX8_digest_66 ?_
  refine g_lstore_n hF dX8_digest_69 (Nat.le_of_ble_eq_true rfl) rfl ?_
  refine g_iinc (v := (8)) hF dX8_digest_70 rfl rfl rfl ?_
  refine g_goto (tgt := 51) hF dX8_digest_73 (by decide) ?_
  try dsimp only [gput, gputA, List.set, stGs, List.cons_append, List.nil_append]
  refine g_iload_n hF dX8_digest_51 rfl ?_
  refine g_bipush (v := (12)) hF dX8_digest_52 rfl ?_
  refine g_icmp_ge (tgt := 76) hF dX8_digest_54 (by decide) (fun c_54 => absurd c_54 (show ¬ (((12) : Int32) ≤ (8)) by decide)) (fun c_54 => ?_)
  refine g_lload_n hF dX8_digest_57 rfl ?_
  refine g_aload_n hF dX8_digest_58 rfl ?_
  refine g_get (j := 3) hF 0 rfl rfl (by decide) rfl m_250 rfl dX8_digest_59 ?_
  refine g_iload_n hF dX8_digest_62 rfl ?_
  refine g_callVq hF (c_Past_storedAgo (c := 8) (by omega)) cal_X1_storedAgo rfl m_698 (by decide) (Or.inl rfl) (Nat.zero_le _) (Nat.zero_le _) 11 rfl rfl [11, 12, 13] rfl rfl rfl (Nat.le_of_ble_eq_true rfl) dX8_digest_63 ?_
  refine g_callSq hF (c_mixed) cal_X8_mixed rfl m_778 (by decide) (Or.inl rfl) (Nat.zero_le _) (Nat.zero_le _) [] rfl rfl rfl (Nat.le_of_ble_eq_true rfl) dX8_digest_66 ?_
  refine g_lstore_n hF dX8_digest_69 (Nat.le_of_ble_eq_true rfl) rfl ?_
  refine g_iinc (v := (9)) hF dX8_digest_70 rfl rfl rfl ?_
  refine g_goto (tgt := 51) hF dX8_digest_73 (by decide) ?_
  try dsimp only [gput, gputA, List.set, stGs, List.cons_append, List.nil_append]
  refine g_iload_n hF dX8_digest_51 rfl ?_
  refine g_bipush (v := (12)) hF dX8_digest_52 rfl ?_
  refine g_icmp_ge (tgt := 76) hF dX8_digest_54 (by decide) (fun c_54 => absurd c_54 (show ¬ (((12) : Int32) ≤ (9)) by decide)) (fun c_54 => ?_)
  refine g_lload_n hF dX8_digest_57 rfl ?_
  refine g_aload_n hF dX8_digest_58 rfl ?_
  refine g_get (j := 3) hF 0 rfl rfl (by decide) rfl m_250 rfl dX8_digest_59 ?_
  refine g_iload_n hF dX8_digest_62 rfl ?_
  refine g_callVq hF (c_Past_storedAgo (c := 9) (by omega)) cal_X1_storedAgo rfl m_698 (by decide) (Or.inl rfl) (Nat.zero_le _) (Nat.zero_le _) 11 rfl rfl [11, 12, 13] rfl rfl rfl (Nat.le_of_ble_eq_true rfl) dX8_digest_63 ?_
  refine g_callSq hF (c_mixed) cal_X8_mixed rfl m_778 (by decide) (Or.inl rfl) (Nat.zero_le _) (Nat.zero_le _) [] rfl rfl rfl (Nat.le_of_ble_eq_true rfl) dX8_digest_66 ?_
  refine g_lstore_n hF dX8_digest_69 (Nat.le_of_ble_eq_true rfl) rfl ?_
  refine g_iinc (v := (10)) hF dX8_digest_70 rfl rfl rfl ?_
  refine g_goto (tgt := 51) hF dX8_digest_73 (by decide) ?_
  try dsimp only [gput, gputA, List.set, stGs, List.cons_append, List.nil_append]
  refine g_iload_n hF dX8_digest_51 rfl ?_
  refine g_bipush (v := (12)) hF dX8_digest_52 rfl ?_
  refine g_icmp_ge (tgt := 76) hF dX8_digest_54 (by decide) (fun c_54 => absurd c_54 (show ¬ (((12) : Int32) ≤ (10)) by decide)) (fun c_54 => ?_)
  refine g_lload_n hF dX8_digest_57 rfl ?_
  refine g_aload_n hF dX8_digest_58 rfl ?_
  refine g_get (j := 3) hF 0 rfl rfl (by decide) rfl m_250 rfl dX8_digest_59 ?_
  refine g_iload_n hF dX8_digest_62 rfl ?_
  refine g_callVq hF (c_Past_storedAgo (c := 10) (by omega)) cal_X1_storedAgo rfl m_698 (by decide) (Or.inl rfl) (Nat.zero_le _) (Nat.zero_le _) 11 rfl rfl [11, 12, 13] rfl rfl rfl (Nat.le_of_ble_eq_true rfl) dX8_digest_63 ?_
  refine g_callSq hF (c_mixed) cal_X8_mixed rfl m_778 (by decide) (Or.inl rfl) (Nat.zero_le _) (Nat.zero_le _) [] rfl rfl rfl (Nat.le_of_ble_eq_true rfl) dX8_digest_66 ?_
  refine g_lstore_n hF dX8_digest_69 (Nat.le_of_ble_eq_true rfl) rfl ?_
  refine g_iinc (v := (11)) hF dX8_digest_70 rfl rfl rfl ?_
  refine g_goto (tgt := 51) hF dX8_digest_73 (by decide) ?_
  try dsimp only [gput, gputA, List.set, stGs, List.cons_append, List.nil_append]
  refine g_iload_n hF dX8_digest_51 rfl ?_
  refine g_bipush (v := (12)) hF dX8_digest_52 rfl ?_
  refine g_icmp_ge (tgt := 76) hF dX8_digest_54 (by decide) (fun c_54 => absurd c_54 (show ¬ (((12) : Int32) ≤ (11)) by decide)) (fun c_54 => ?_)
  refine g_lload_n hF dX8_digest_57 rfl ?_
  refine g_aload_n hF dX8_digest_58 rfl ?_
  refine g_get (j := 3) hF 0 rfl rfl (by decide) rfl m_250 rfl dX8_digest_59 ?_
  refine g_iload_n hF dX8_digest_62 rfl ?_
  refine g_callVq hF (c_Past_storedAgo (c := 11) (by omega)) cal_X1_storedAgo rfl m_698 (by decide) (Or.inl rfl) (Nat.zero_le _) (Nat.zero_le _) 11 rfl rfl [11, 12, 13] rfl rfl rfl (Nat.le_of_ble_eq_true rfl) dX8_digest_63 ?_
  refine g_callSq hF (c_mixed) cal_X8_mixed rfl m_778 (by decide) (Or.inl rfl) (Nat.zero_le _) (Nat.zero_le _) [] rfl rfl rfl (Nat.le_of_ble_eq_true rfl) dX8_digest_66 ?_
  refine g_lstore_n hF dX8_digest_69 (Nat.le_of_ble_eq_true rfl) rfl ?_
  refine g_iinc (v := (12)) hF dX8_digest_70 rfl rfl rfl ?_
  refine g_goto (tgt := 51) hF dX8_digest_73 (by decide) ?_
  try dsimp only [gput, gputA, List.set, stGs, List.cons_append, List.nil_append]
  refine g_iload_n hF dX8_digest_51 rfl ?_
  refine g_bipush (v := (12)) hF dX8_digest_52 rfl ?_
  refine g_icmp_ge (tgt := 76) hF dX8_digest_54 (by decide) (fun c_54 => ?_) (fun c_54 => absurd (show ((12) : Int32) ≤ (12) by decide) c_54)
  by_cases h1c : cnt < 1
  · have h5c : cnt < 5 := by omega
    refine g_aload_n hF dX8_digest_76 rfl ?_
    refine g_lload_n hF dX8_digest_77 rfl ?_
    refine g_iconst (v := (1)) hF dX8_digest_78 rfl ?_
    refine g_callVq hF (c_mixedThen_no (j := 1) (by omega) (by decide) (by omega)) cal_X8_mixedThen rfl m_804 (by decide) (Or.inl rfl) (Nat.zero_le _) (Nat.zero_le _) 0 rfl rfl [0, 6, 7, 8, 9, 11, 12, 13] rfl rfl rfl (Nat.le_of_ble_eq_true rfl) dX8_digest_79 ?_
    refine g_lstore_n hF dX8_digest_82 (Nat.le_of_ble_eq_true rfl) rfl ?_
    refine g_aload_n hF dX8_digest_83 rfl ?_
    refine g_lload_n hF dX8_digest_84 rfl ?_
    refine g_iconst (v := (5)) hF dX8_digest_85 rfl ?_
    refine g_callVq hF (c_mixedThen_no (j := 5) (by omega) (by decide) (by omega)) cal_X8_mixedThen rfl m_804 (by decide) (Or.inl rfl) (Nat.zero_le _) (Nat.zero_le _) 0 rfl rfl [0, 6, 7, 8, 9, 11, 12, 13] rfl rfl rfl (Nat.le_of_ble_eq_true rfl) dX8_digest_86 ?_
    refine g_lstore_n hF dX8_digest_89 (Nat.le_of_ble_eq_true rfl) rfl ?_
    refine g_lload_n hF dX8_digest_90 rfl ?_
    refine g_aload_n hF dX8_digest_91 rfl ?_
    refine g_bipush (v := (50)) hF dX8_digest_92 rfl ?_
    refine g_callVd hF (c_endsIn_raw (k := 50) (by assumption) (by assumption) (by omega) (by omega) (lt_500 (by decide) (by decide)) (by decide)) cal_X8_endsIn rfl m_809 (by decide) (Or.inl rfl) (Nat.zero_le _) (Nat.zero_le _) 0 rfl rfl [0, 1, 2, 3, 5, 6, 7, 8, 9, 10, 14, 15, 16, 17, 18] rfl rfl (Nat.le_of_ble_eq_true rfl) rfl (Nat.le_of_ble_eq_true rfl) dX8_digest_94 ?_
    try dsimp only [gput, gputA, List.set, stGs, List.cons_append, List.nil_append]
    rw [endsV_copy hv]
    refine g_callSq hF (c_mixed) cal_X8_mixed rfl m_778 (by decide) (Or.inl rfl) (Nat.zero_le _) (Nat.zero_le _) [] rfl rfl rfl (Nat.le_of_ble_eq_true rfl) dX8_digest_97 ?_
    exact g_lret hF hR dX8_digest_100 ⟨by unfold digF thenMix; rw [if_pos h1c, if_pos h5c]; rfl, rfl⟩
  · by_cases h5c : cnt < 5
    · refine g_aload_n hF dX8_digest_76 rfl ?_
      refine g_lload_n hF dX8_digest_77 rfl ?_
      refine g_iconst (v := (1)) hF dX8_digest_78 rfl ?_
      refine g_callVq hF (c_mixedThen_yes (j := 1) (by omega) (by decide) (by omega) hv.2.1) cal_X8_mixedThen rfl m_804 (by decide) (Or.inl rfl) (Nat.zero_le _) (Nat.zero_le _) 0 rfl rfl [0, 6, 7, 8, 9, 11, 12, 13] rfl rfl rfl (Nat.le_of_ble_eq_true rfl) dX8_digest_79 ?_
      refine g_lstore_n hF dX8_digest_82 (Nat.le_of_ble_eq_true rfl) rfl ?_
      refine g_aload_n hF dX8_digest_83 rfl ?_
      refine g_lload_n hF dX8_digest_84 rfl ?_
      refine g_iconst (v := (5)) hF dX8_digest_85 rfl ?_
      refine g_callVq hF (c_mixedThen_no (j := 5) (by omega) (by decide) (by omega)) cal_X8_mixedThen rfl m_804 (by decide) (Or.inl rfl) (Nat.zero_le _) (Nat.zero_le _) 0 rfl rfl [0, 6, 7, 8, 9, 11, 12, 13] rfl rfl rfl (Nat.le_of_ble_eq_true rfl) dX8_digest_86 ?_
      refine g_lstore_n hF dX8_digest_89 (Nat.le_of_ble_eq_true rfl) rfl ?_
      refine g_lload_n hF dX8_digest_90 rfl ?_
      refine g_aload_n hF dX8_digest_91 rfl ?_
      refine g_bipush (v := (50)) hF dX8_digest_92 rfl ?_
      refine g_callVd hF (c_endsIn_raw (k := 50) (by assumption) (by assumption) (by omega) (by omega) (lt_500 (by decide) (by decide)) (by decide)) cal_X8_endsIn rfl m_809 (by decide) (Or.inl rfl) (Nat.zero_le _) (Nat.zero_le _) 0 rfl rfl [0, 1, 2, 3, 5, 6, 7, 8, 9, 10, 14, 15, 16, 17, 18] rfl rfl (Nat.le_of_ble_eq_true rfl) rfl (Nat.le_of_ble_eq_true rfl) dX8_digest_94 ?_
      try dsimp only [gput, gputA, List.set, stGs, List.cons_append, List.nil_append]
      rw [endsV_copy hv]
      refine g_callSq hF (c_mixed) cal_X8_mixed rfl m_778 (by decide) (Or.inl rfl) (Nat.zero_le _) (Nat.zero_le _) [] rfl rfl rfl (Nat.le_of_ble_eq_true rfl) dX8_digest_97 ?_
      exact g_lret hF hR dX8_digest_100 ⟨by unfold digF thenMix; rw [if_neg h1c, if_pos h5c]; rfl, rfl⟩
    · refine g_aload_n hF dX8_digest_76 rfl ?_
      refine g_lload_n hF dX8_digest_77 rfl ?_
      refine g_iconst (v := (1)) hF dX8_digest_78 rfl ?_
      refine g_callVq hF (c_mixedThen_yes (j := 1) (by omega) (by decide) (by omega) hv.2.1) cal_X8_mixedThen rfl m_804 (by decide) (Or.inl rfl) (Nat.zero_le _) (Nat.zero_le _) 0 rfl rfl [0, 6, 7, 8, 9, 11, 12, 13] rfl rfl rfl (Nat.le_of_ble_eq_true rfl) dX8_digest_79 ?_
      refine g_lstore_n hF dX8_digest_82 (Nat.le_of_ble_eq_true rfl) rfl ?_
      refine g_aload_n hF dX8_digest_83 rfl ?_
      refine g_lload_n hF dX8_digest_84 rfl ?_
      refine g_iconst (v := (5)) hF dX8_digest_85 rfl ?_
      refine g_callVq hF (c_mixedThen_yes (j := 5) (by omega) (by decide) (by omega) hv.2.1) cal_X8_mixedThen rfl m_804 (by decide) (Or.inl rfl) (Nat.zero_le _) (Nat.zero_le _) 0 rfl rfl [0, 6, 7, 8, 9, 11, 12, 13] rfl rfl rfl (Nat.le_of_ble_eq_true rfl) dX8_digest_86 ?_
      refine g_lstore_n hF dX8_digest_89 (Nat.le_of_ble_eq_true rfl) rfl ?_
      refine g_lload_n hF dX8_digest_90 rfl ?_
      refine g_aload_n hF dX8_digest_91 rfl ?_
      refine g_bipush (v := (50)) hF dX8_digest_92 rfl ?_
      refine g_callVd hF (c_endsIn_raw (k := 50) (by assumption) (by assumption) (by omega) (by omega) (lt_500 (by decide) (by decide)) (by decide)) cal_X8_endsIn rfl m_809 (by decide) (Or.inl rfl) (Nat.zero_le _) (Nat.zero_le _) 0 rfl rfl [0, 1, 2, 3, 5, 6, 7, 8, 9, 10, 14, 15, 16, 17, 18] rfl rfl (Nat.le_of_ble_eq_true rfl) rfl (Nat.le_of_ble_eq_true rfl) dX8_digest_94 ?_
      try dsimp only [gput, gputA, List.set, stGs, List.cons_append, List.nil_append]
      rw [endsV_copy hv]
      refine g_callSq hF (c_mixed) cal_X8_mixed rfl m_778 (by decide) (Or.inl rfl) (Nat.zero_le _) (Nat.zero_le _) [] rfl rfl rfl (Nat.le_of_ble_eq_true rfl) dX8_digest_97 ?_
      exact g_lret hF hR dX8_digest_100 ⟨by unfold digF thenMix; rw [if_neg h1c, if_neg h5c]; rfl, rfl⟩
