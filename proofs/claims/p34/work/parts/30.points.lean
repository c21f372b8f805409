/-! points, runs with a point -/
def hitV (ps : Int32) (v : SV) : Bool := hitB true ps v.2.2.2.2.1 v.2.2.2.2.2.1 (holdsB 0 0 (rowGet v.2.1.1 v.2.1.2 0))
def causeF (r : Int32) : Int32 := if r = 5 then 0 else -1
def stF (s r : Int32) : Int32 := if r = 5 then s + 1 else s
set_option maxHeartbeats 4000000 in
set_option maxRecDepth 100000 in
theorem c_point {E : Env3} {h p ri hp pts wts tps ti : Nat} {A : AV} {B : AV} {ap : Nat → Nat} {reason : Int32} {cause : Int32} {s : Nat} (hs : s < 80)  : Cd E none 1 yX8_point cX8_point 3 (some .int) [.ref h, .int (nI s), .int 0] [lanO h p ri A.1 hp pts 0 wts tps reason cause B.1 ti, ptsA E.2.2 pts ap, poO (ap 0) 0 0 false 0 0 0 0] (some (.int 0)) [lanO h p ri A.1 hp pts 1 wts tps reason cause B.1 ti, ptsA E.2.2 pts ap, poO (ap 0) (nI s) 0 true 0 0 0 0] := by
  refine Ct.of [some (.ref h), some (.int (nI s)), some (.int 0)] (by decide +kernel) rfl (Nat.le_of_ble_eq_true rfl) (fun F hE hF hR hN => ?_)
  subst hE
  refine g_iload_n hF dX8_point_0 rfl ?_
  refine g_if_lt (tgt := 17) hF dX8_point_1 (by decide) (fun c_1 => absurd c_1 (nI_pos (by omega))) (fun c_1 => ?_)
  refine g_iload_n hF dX8_point_4 rfl ?_
  refine g_bipush (v := (80)) hF dX8_point_5 rfl ?_
  refine g_icmp_ge (tgt := 17) hF dX8_point_7 (by decide) (fun c_7 => absurd c_7 (nI_ge hs (by decide))) (fun c_7 => ?_)
  refine g_iload_n hF dX8_point_10 rfl ?_
  refine g_callSq hF (c_isPass) cal_X8_isPass rfl m_415 (by decide) (Or.inl rfl) (Nat.zero_le _) (Nat.zero_le _) [] rfl rfl rfl (Nat.le_of_ble_eq_true rfl) dX8_point_11 ?_
  refine g_if_ne (tgt := 27) hF dX8_point_14 (by decide) (fun c_14 => ?_) (fun c_14 => absurd c_14 (by decide))
  refine g_aload_n hF dX8_point_27 rfl ?_
  refine g_get (j := 5) hF 0 rfl rfl (by decide) rfl m_252 rfl dX8_point_28 ?_
  refine g_aload_n hF dX8_point_31 rfl ?_
  refine g_get (j := 4) hF 0 rfl rfl (by decide) rfl m_251 rfl dX8_point_32 ?_
  refine g_alen hF rfl 1 2 rfl rfl rfl dX8_point_35 ?_
  refine g_icmp_lt (tgt := 49) hF dX8_point_36 (by decide) (fun c_36 => ?_) (fun c_36 => absurd (show (0 : Int32) < 6 by decide) c_36)
  refine g_aload_n hF dX8_point_49 rfl ?_
  refine g_get (j := 4) hF 0 rfl rfl (by decide) rfl m_251 rfl dX8_point_50 ?_
  refine g_aload_n hF dX8_point_53 rfl ?_
  refine g_get (j := 5) hF 0 rfl rfl (by decide) rfl m_252 rfl dX8_point_54 ?_
  refine g_aald hF rfl 1 2 rfl rfl (vp_in_nI (n := 0) (by decide) (by decide)) (adF_in (k := 0) rfl (by decide) (by decide)) dX8_point_57 ?_
  refine g_iload_n hF dX8_point_58 rfl ?_
  refine g_iload_n hF dX8_point_59 rfl ?_
  refine g_callVd hF (c_Point_place) cal_X2_place rfl m_435 (by decide) (Or.inl rfl) (Nat.zero_le _) (Nat.zero_le _) 2 rfl rfl [2] rfl rfl (Nat.le_of_ble_eq_true rfl) rfl (Nat.le_of_ble_eq_true rfl) dX8_point_60 ?_
  try dsimp only [gput, gputA, List.set, stGs, List.cons_append, List.nil_append]
  refine g_aload_n hF dX8_point_63 rfl ?_
  refine g_dup hF dX8_point_64 rfl ?_
  refine g_get (j := 5) hF 0 rfl rfl (by decide) rfl m_252 rfl dX8_point_65 ?_
  refine g_iconst (v := (1)) hF dX8_point_68 rfl ?_
  refine g_iadd hF dX8_point_69 ?_
  refine g_put (j := 5) hF 0 rfl rfl (by decide) rfl m_252 rfl (tyX8_ok 5 (by decide)) rfl rfl (Nat.le_of_ble_eq_true rfl) dX8_point_70 ?_
  try dsimp only [gput, gputA, List.set, stGs, List.cons_append, List.nil_append]
  refine g_aload_n hF dX8_point_73 rfl ?_
  refine g_get (j := 5) hF 0 rfl rfl (by decide) rfl m_252 rfl dX8_point_74 ?_
  refine g_iconst (v := (1)) hF dX8_point_77 rfl ?_
  refine g_isub hF dX8_point_78 ?_
  exact g_iret hF hR dX8_point_79 ⟨rfl, rfl⟩
set_option maxHeartbeats 4000000 in
set_option maxRecDepth 100000 in
theorem c_ofPoint_3 {E : Env3} {h p ri hp pts wts tps ti : Nat} {A : AV} {B : AV} {ap : Nat → Nat} {reason : Int32} {cause : Int32} {ps : Int32} {stops : Int32}  : Cd E none 1 yX8_ofPoint cX8_ofPoint 4 (some .int) [.ref h, .int 0, .int 3] [lanO h p ri A.1 hp pts 1 wts tps reason cause B.1 ti, ptsA E.2.2 pts ap, poO (ap 0) ps 0 true 0 0 0 stops] (some (.int stops)) [lanO h p ri A.1 hp pts 1 wts tps reason cause B.1 ti, ptsA E.2.2 pts ap, poO (ap 0) ps 0 true 0 0 0 stops] := by
  refine Ct.of [some (.ref h), some (.int 0), some (.int 3), none] (by decide +kernel) rfl (Nat.le_of_ble_eq_true rfl) (fun F hE hF hR hN => ?_)
  subst hE
  refine g_aload_n hF dX8_ofPoint_0 rfl ?_
  refine g_iload_n hF dX8_ofPoint_1 rfl ?_
  refine g_callVq hF (c_pointNumbered_0) cal_X8_pointNumbered rfl m_578 (by decide) (Or.inl rfl) (Nat.zero_le _) (Nat.zero_le _) 0 rfl rfl [0, 1] rfl rfl rfl (Nat.le_of_ble_eq_true rfl) dX8_ofPoint_2 ?_
  refine g_astore_n hF dX8_ofPoint_5 (Nat.le_of_ble_eq_true rfl) rfl ?_
  refine g_aload_n hF dX8_ofPoint_6 rfl ?_
  refine g_ifnonnull (tgt := 20) hF dX8_ofPoint_7 (by decide) ?_
  refine g_iload_n hF dX8_ofPoint_20 rfl ?_
  refine g_tableIn (off := 49) (tgt := 70) hF dX8_ofPoint_21 (by rw [show (3 : Int32) = 3 from rfl]; decide) (by rw [show (3 : Int32) = 3 from rfl]; decide) (by rw [show (3 : Int32) = 3 from rfl]; rfl) (by decide) ?_
  refine g_aload_n hF dX8_ofPoint_70 rfl ?_
  refine g_getN (j := 6) hF 2 rfl rfl (by decide) rfl m_193 rfl dX8_ofPoint_71 ?_
  exact g_iret hF hR dX8_ofPoint_74 ⟨rfl, rfl⟩
set_option maxHeartbeats 4000000 in
set_option maxRecDepth 100000 in
theorem c_pointStopping_h {E : Env3} {h p ri hp pts wts tps ti : Nat} {A : AV} {B : AV} {v : SV} {ap : Nat → Nat} {reason : Int32} {cause : Int32} {ps : Int32} {stops : Int32} (h2 : v.2.1.2 ≤ 12) (hh : hitV ps v = true)  : Cd E none 2 yX8_pointStopping cX8_pointStopping 4 (some .int) [.ref h] [lanO h p ri A.1 hp pts 1 wts tps reason cause B.1 ti, stOv A v, rw2 E.2.2 A v, ptsA E.2.2 pts ap, poO (ap 0) ps 0 true 0 0 0 stops] (some (.int 0)) [lanO h p ri A.1 hp pts 1 wts tps reason cause B.1 ti, stOv A v, rw2 E.2.2 A v, ptsA E.2.2 pts ap, poO (ap 0) ps 0 true 0 0 0 stops] := by
  refine Ct.of [some (.ref h), none, none, none] (by decide +kernel) rfl (Nat.le_of_ble_eq_true rfl) (fun F hE hF hR hN => ?_)
  subst hE
  refine g_iconst (v := (-1)) hF dX8_pointStopping_0 rfl ?_
  refine g_istore_n hF dX8_pointStopping_1 (Nat.le_of_ble_eq_true rfl) rfl ?_
  refine g_iconst (v := (0)) hF dX8_pointStopping_2 rfl ?_
  refine g_istore_n hF dX8_pointStopping_3 (Nat.le_of_ble_eq_true rfl) rfl ?_
  refine g_iload_n hF dX8_pointStopping_4 rfl ?_
  refine g_aload_n hF dX8_pointStopping_5 rfl ?_
  refine g_get (j := 5) hF 0 rfl rfl (by decide) rfl m_252 rfl dX8_pointStopping_6 ?_
  refine g_icmp_ge (tgt := 53) hF dX8_pointStopping_9 (by decide) (fun c_9 => absurd c_9 (show ¬ (1 : Int32) ≤ 0 by decide)) (fun c_9 => ?_)
  refine g_aload_n hF dX8_pointStopping_12 rfl ?_
  refine g_iload_n hF dX8_pointStopping_13 rfl ?_
  refine g_callVq hF (c_pointNumbered_0) cal_X8_pointNumbered rfl m_578 (by decide) (Or.inl rfl) (Nat.zero_le _) (Nat.zero_le _) 0 rfl rfl [0, 3] rfl rfl rfl (Nat.le_of_ble_eq_true rfl) dX8_pointStopping_14 ?_
  refine g_astore_n hF dX8_pointStopping_17 (Nat.le_of_ble_eq_true rfl) rfl ?_
  refine g_aload_n hF dX8_pointStopping_18 rfl ?_
  refine g_ifnull hF dX8_pointStopping_19 ?_
  refine g_aload_n hF dX8_pointStopping_22 rfl ?_
  refine g_aload_n hF dX8_pointStopping_23 rfl ?_
  refine g_get (j := 2) hF 0 rfl rfl (by decide) rfl m_249 rfl dX8_pointStopping_24 ?_
  refine g_callVq hF (c_Point_isHit h2) cal_X2_isHit rfl m_582 (by decide) (Or.inl rfl) (Nat.zero_le _) (Nat.zero_le _) 4 rfl rfl [4, 1, 2] rfl rfl rfl (Nat.le_of_ble_eq_true rfl) dX8_pointStopping_27 ?_
  refine g_if_eq (tgt := 47) hF dX8_pointStopping_30 (by decide) (fun c_30 => absurd c_30 (bI_n.mpr hh)) (fun c_30 => ?_)
  refine g_aload_n hF dX8_pointStopping_33 rfl ?_
  refine g_callVq hF (c_Point_letsPass) cal_X2_letsPass rfl m_591 (by decide) (Or.inl rfl) (Nat.zero_le _) (Nat.zero_le _) 4 rfl rfl [4] rfl rfl rfl (Nat.le_of_ble_eq_true rfl) dX8_pointStopping_34 ?_
  refine g_if_ne (tgt := 47) hF dX8_pointStopping_37 (by decide) (fun c_37 => absurd rfl c_37) (fun c_37 => ?_)
  refine g_iload_n hF dX8_pointStopping_40 rfl ?_
  refine g_iconst (v := (-1)) hF dX8_pointStopping_41 rfl ?_
  refine g_icmp_ne (tgt := 47) hF dX8_pointStopping_42 (by decide) (fun c_42 => absurd rfl c_42) (fun c_42 => ?_)
  refine g_iload_n hF dX8_pointStopping_45 rfl ?_
  refine g_istore_n hF dX8_pointStopping_46 (Nat.le_of_ble_eq_true rfl) rfl ?_
  refine g_iinc (v := (1)) hF dX8_pointStopping_47 rfl rfl rfl ?_
  refine g_goto (tgt := 4) hF dX8_pointStopping_50 (by decide) ?_
  refine g_iload_n hF dX8_pointStopping_4 rfl ?_
  refine g_aload_n hF dX8_pointStopping_5 rfl ?_
  refine g_get (j := 5) hF 0 rfl rfl (by decide) rfl m_252 rfl dX8_pointStopping_6 ?_
  refine g_icmp_ge (tgt := 53) hF dX8_pointStopping_9 (by decide) (fun c_9 => ?_) (fun c_9 => absurd (show (1 : Int32) ≤ 1 by decide) c_9)
  refine g_iload_n hF dX8_pointStopping_53 rfl ?_
  exact g_iret hF hR dX8_pointStopping_54 ⟨rfl, rfl⟩
set_option maxHeartbeats 4000000 in
set_option maxRecDepth 100000 in
theorem c_pointStopping_n {E : Env3} {h p ri hp pts wts tps ti : Nat} {A : AV} {B : AV} {v : SV} {ap : Nat → Nat} {reason : Int32} {cause : Int32} {ps : Int32} {stops : Int32} (h2 : v.2.1.2 ≤ 12) (hh : hitV ps v = false)  : Cd E none 2 yX8_pointStopping cX8_pointStopping 4 (some .int) [.ref h] [lanO h p ri A.1 hp pts 1 wts tps reason cause B.1 ti, stOv A v, rw2 E.2.2 A v, ptsA E.2.2 pts ap, poO (ap 0) ps 0 true 0 0 0 stops] (some (.int (-1))) [lanO h p ri A.1 hp pts 1 wts tps reason cause B.1 ti, stOv A v, rw2 E.2.2 A v, ptsA E.2.2 pts ap, poO (ap 0) ps 0 true 0 0 0 stops] := by
  refine Ct.of [some (.ref h), none, none, none] (by decide +kernel) rfl (Nat.le_of_ble_eq_true rfl) (fun F hE hF hR hN => ?_)
  subst hE
  refine g_iconst (v := (-1)) hF dX8_pointStopping_0 rfl ?_
  refine g_istore_n hF dX8_pointStopping_1 (Nat.le_of_ble_eq_true rfl) rfl ?_
  refine g_iconst (v := (0)) hF dX8_pointStopping_2 rfl ?_
  refine g_istore_n hF dX8_pointStopping_3 (Nat.le_of_ble_eq_true rfl) rfl ?_
  refine g_iload_n hF dX8_pointStopping_4 rfl ?_
  refine g_aload_n hF dX8_pointStopping_5 rfl ?_
  refine g_get (j := 5) hF 0 rfl rfl (by decide) rfl m_252 rfl dX8_pointStopping_6 ?_
  refine g_icmp_ge (tgt := 53) hF dX8_pointStopping_9 (by decide) (fun c_9 => absurd c_9 (show ¬ (1 : Int32) ≤ 0 by decide)) (fun c_9 => ?_)
  refine g_aload_n hF dX8_pointStopping_12 rfl ?_
  refine g_iload_n hF dX8_pointStopping_13 rfl ?_
  refine g_callVq hF (c_pointNumbered_0) cal_X8_pointNumbered rfl m_578 (by decide) (Or.inl rfl) (Nat.zero_le _) (Nat.zero_le _) 0 rfl rfl [0, 3] rfl rfl rfl (Nat.le_of_ble_eq_true rfl) dX8_pointStopping_14 ?_
  refine g_astore_n hF dX8_pointStopping_17 (Nat.le_of_ble_eq_true rfl) rfl ?_
  refine g_aload_n hF dX8_pointStopping_18 rfl ?_
  refine g_ifnull hF dX8_pointStopping_19 ?_
  refine g_aload_n hF dX8_pointStopping_22 rfl ?_
  refine g_aload_n hF dX8_pointStopping_23 rfl ?_
  refine g_get (j := 2) hF 0 rfl rfl (by decide) rfl m_249 rfl dX8_pointStopping_24 ?_
  refine g_callVq hF (c_Point_isHit h2) cal_X2_isHit rfl m_582 (by decide) (Or.inl rfl) (Nat.zero_le _) (Nat.zero_le _) 4 rfl rfl [4, 1, 2] rfl rfl rfl (Nat.le_of_ble_eq_true rfl) dX8_pointStopping_27 ?_
  refine g_if_eq (tgt := 47) hF dX8_pointStopping_30 (by decide) (fun c_30 => ?_) (fun c_30 => absurd (bI_0.mpr hh) c_30)
  refine g_iinc (v := (1)) hF dX8_pointStopping_47 rfl rfl rfl ?_
  refine g_goto (tgt := 4) hF dX8_pointStopping_50 (by decide) ?_
  refine g_iload_n hF dX8_pointStopping_4 rfl ?_
  refine g_aload_n hF dX8_pointStopping_5 rfl ?_
  refine g_get (j := 5) hF 0 rfl rfl (by decide) rfl m_252 rfl dX8_pointStopping_6 ?_
  refine g_icmp_ge (tgt := 53) hF dX8_pointStopping_9 (by decide) (fun c_9 => ?_) (fun c_9 => absurd (show (1 : Int32) ≤ 1 by decide) c_9)
  refine g_iload_n hF dX8_pointStopping_53 rfl ?_
  exact g_iret hF hR dX8_pointStopping_54 ⟨rfl, rfl⟩
set_option maxHeartbeats 4000000 in
set_option maxRecDepth 100000 in
theorem c_stopsRun_1y {E : Env3} {h p ri hp pts wts tps ti ma cnt : Nat} {A : AV} {B : AV} {v : SV} {ad : Nat → Nat} {ap : Nat → Nat} {reason : Int32} {cause : Int32} {ps : Int32} {stops : Int32} (hs : v.2.2.2.2.2.1 = 1)  : Cd E none 3 yX8_stopsRun cX8_stopsRun 5 (some .boolean) [.ref h, .int (-1)] [lanO h p ri A.1 hp pts 1 wts tps reason cause B.1 ti, stOv A v, rw2 E.2.2 A v, rw3 E.2.2 A v, pastO hp ma cnt, arrM E.2.2 ma ad, ptsA E.2.2 pts ap, poO (ap 0) ps 0 true 0 0 0 stops] (some (.int 1)) [lanO h p ri A.1 hp pts 1 wts tps 1 (-1) B.1 ti, stOv A v, rw2 E.2.2 A v, rw3 E.2.2 A v, pastO hp ma cnt, arrM E.2.2 ma ad, ptsA E.2.2 pts ap, poO (ap 0) ps 0 true 0 0 0 stops] := by
  refine Ct.of [some (.ref h), some (.int (-1)), none, none, none] (by decide +kernel) rfl (Nat.le_of_ble_eq_true rfl) (fun F hE hF hR hN => ?_)
  subst hE
  refine g_aload_n hF dX8_stopsRun_0 rfl ?_
  refine g_get (j := 2) hF 0 rfl rfl (by decide) rfl m_249 rfl dX8_stopsRun_1 ?_
  refine g_getN (j := 5) hF 1 rfl rfl (by decide) rfl m_87 rfl dX8_stopsRun_4 ?_
  refine g_iconst (v := (1)) hF dX8_stopsRun_7 rfl ?_
  refine g_icmp_ne (tgt := 19) hF dX8_stopsRun_8 (by decide) (fun c_8 => absurd hs c_8) (fun c_8 => ?_)
  refine g_aload_n hF dX8_stopsRun_11 rfl ?_
  refine g_iconst (v := (1)) hF dX8_stopsRun_12 rfl ?_
  refine g_iconst (v := (-1)) hF dX8_stopsRun_13 rfl ?_
  refine g_callVd hF (c_stopBy) cal_X8_stopBy rfl m_403 (by decide) (Or.inl rfl) (Nat.zero_le _) (Nat.zero_le _) 0 rfl rfl [0] rfl rfl (Nat.le_of_ble_eq_true rfl) rfl (Nat.le_of_ble_eq_true rfl) dX8_stopsRun_14 ?_
  try dsimp only [gput, gputA, List.set, stGs, List.cons_append, List.nil_append]
  refine g_iconst (v := (1)) hF dX8_stopsRun_17 rfl ?_
  exact g_zret hF hR dX8_stopsRun_18 rfl ⟨rfl, rfl⟩
set_option maxHeartbeats 4000000 in
set_option maxRecDepth 100000 in
theorem c_stopsRun_1n {E : Env3} {h p ri hp pts wts tps ti ma cnt : Nat} {A : AV} {B : AV} {v : SV} {ad : Nat → Nat} {ap : Nat → Nat} {reason : Int32} {cause : Int32} {ps : Int32} {stops : Int32} (hs : ¬ v.2.2.2.2.2.1 = 1) (hc : cnt ≤ 200) (h1 : 1 ≤ cnt) (h2 : v.2.1.2 ≤ 12) (h3 : v.2.2.1.2 ≤ 8) (hh : hitV ps v = false)  : Cd E none 3 yX8_stopsRun cX8_stopsRun 5 (some .boolean) [.ref h, .int (-1)] [lanO h p ri A.1 hp pts 1 wts tps reason cause B.1 ti, stOv A v, rw2 E.2.2 A v, rw3 E.2.2 A v, pastO hp ma cnt, arrM E.2.2 ma ad, ptsA E.2.2 pts ap, poO (ap 0) ps 0 true 0 0 0 stops] (some (.int 0)) [lanO h p ri A.1 hp pts 1 wts tps reason cause B.1 ti, stOv A v, rw2 E.2.2 A v, rw3 E.2.2 A v, pastO hp ma cnt, arrM E.2.2 ma ad, ptsA E.2.2 pts ap, poO (ap 0) ps 0 true 0 0 0 stops] := by
  refine Ct.of [some (.ref h), some (.int (-1)), none, none, none] (by decide +kernel) rfl (Nat.le_of_ble_eq_true rfl) (fun F hE hF hR hN => ?_)
  subst hE
  refine g_aload_n hF dX8_stopsRun_0 rfl ?_
  refine g_get (j := 2) hF 0 rfl rfl (by decide) rfl m_249 rfl dX8_stopsRun_1 ?_
  refine g_getN (j := 5) hF 1 rfl rfl (by decide) rfl m_87 rfl dX8_stopsRun_4 ?_
  refine g_iconst (v := (1)) hF dX8_stopsRun_7 rfl ?_
  refine g_icmp_ne (tgt := 19) hF dX8_stopsRun_8 (by decide) (fun c_8 => ?_) (fun c_8 => absurd c_8 hs)
  refine g_aload_n hF dX8_stopsRun_19 rfl ?_
  refine g_callVq hF (c_watchMet (by omega) (by omega)) cal_X8_watchMet rfl m_554 (by decide) (Or.inl rfl) (Nat.zero_le _) (Nat.zero_le _) 0 rfl rfl [0, 4, 5] rfl rfl rfl (Nat.le_of_ble_eq_true rfl) dX8_stopsRun_20 ?_
  refine g_istore_n hF dX8_stopsRun_23 (Nat.le_of_ble_eq_true rfl) rfl ?_
  refine g_iload_n hF dX8_stopsRun_24 rfl ?_
  refine g_iconst (v := (-1)) hF dX8_stopsRun_25 rfl ?_
  refine g_icmp_eq (tgt := 37) hF dX8_stopsRun_26 (by decide) (fun c_26 => ?_) (fun c_26 => absurd rfl c_26)
  refine g_aload_n hF dX8_stopsRun_37 rfl ?_
  refine g_get (j := 2) hF 0 rfl rfl (by decide) rfl m_249 rfl dX8_stopsRun_38 ?_
  refine g_getN (j := 2) hF 1 rfl rfl (by decide) rfl m_79 rfl dX8_stopsRun_41 ?_
  refine g_callVq hF (c_Row_size) cal_X4_size rfl m_367 (by decide) (Or.inl rfl) (Nat.zero_le _) (Nat.zero_le _) 3 rfl rfl [3] rfl rfl rfl (Nat.le_of_ble_eq_true rfl) dX8_stopsRun_44 ?_
  refine g_iload_n hF dX8_stopsRun_47 rfl ?_
  refine g_icmp_gt (tgt := 59) hF dX8_stopsRun_48 (by decide) (fun c_48 => ?_) (fun c_48 => absurd (neg1_lt (by omega)) c_48)
  refine g_aload_n hF dX8_stopsRun_59 rfl ?_
  refine g_callVq hF (c_pointStopping_n h2 hh) cal_X8_pointStopping rfl m_574 (by decide) (Or.inl rfl) (Nat.zero_le _) (Nat.zero_le _) 0 rfl rfl [0, 1, 2, 6, 7] rfl rfl rfl (Nat.le_of_ble_eq_true rfl) dX8_stopsRun_60 ?_
  refine g_istore_n hF dX8_stopsRun_63 (Nat.le_of_ble_eq_true rfl) rfl ?_
  refine g_aload_n hF dX8_stopsRun_64 rfl ?_
  refine g_iload_n hF dX8_stopsRun_65 rfl ?_
  refine g_callVq hF (c_pointNumbered_m1) cal_X8_pointNumbered rfl m_578 (by decide) (Or.inl rfl) (Nat.zero_le _) (Nat.zero_le _) 0 rfl rfl [0] rfl rfl rfl (Nat.le_of_ble_eq_true rfl) dX8_stopsRun_66 ?_
  refine g_astoreN hF dX8_stopsRun_69 (Nat.le_of_ble_eq_true rfl) rfl ?_
  refine g_aloadN hF dX8_stopsRun_71 rfl ?_
  refine g_ifnullN (tgt := 95) hF dX8_stopsRun_73 (by decide) ?_
  refine g_iconst (v := (0)) hF dX8_stopsRun_95 rfl ?_
  exact g_zret hF hR dX8_stopsRun_96 rfl ⟨rfl, rfl⟩
set_option maxHeartbeats 4000000 in
set_option maxRecDepth 100000 in
theorem c_stopsRun_1h {E : Env3} {h p ri hp pts wts tps ti ma cnt : Nat} {A : AV} {B : AV} {v : SV} {ad : Nat → Nat} {ap : Nat → Nat} {reason : Int32} {cause : Int32} {ps : Int32} {stops : Int32} (hs : ¬ v.2.2.2.2.2.1 = 1) (hc : cnt ≤ 200) (h1 : 1 ≤ cnt) (h2 : v.2.1.2 ≤ 12) (h3 : v.2.2.1.2 ≤ 8) (hh : hitV ps v = true)  : Cd E none 3 yX8_stopsRun cX8_stopsRun 5 (some .boolean) [.ref h, .int (-1)] [lanO h p ri A.1 hp pts 1 wts tps reason cause B.1 ti, stOv A v, rw2 E.2.2 A v, rw3 E.2.2 A v, pastO hp ma cnt, arrM E.2.2 ma ad, ptsA E.2.2 pts ap, poO (ap 0) ps 0 true 0 0 0 stops] (some (.int 1)) [lanO h p ri A.1 hp pts 1 wts tps 5 0 B.1 ti, stOv A v, rw2 E.2.2 A v, rw3 E.2.2 A v, pastO hp ma cnt, arrM E.2.2 ma ad, ptsA E.2.2 pts ap, poO (ap 0) ps 0 true 0 0 0 (stops + 1)] := by
  refine Ct.of [some (.ref h), some (.int (-1)), none, none, none] (by decide +kernel) rfl (Nat.le_of_ble_eq_true rfl) (fun F hE hF hR hN => ?_)
  subst hE
  refine g_aload_n hF dX8_stopsRun_0 rfl ?_
  refine g_get (j := 2) hF 0 rfl rfl (by decide) rfl m_249 rfl dX8_stopsRun_1 ?_
  refine g_getN (j := 5) hF 1 rfl rfl (by decide) rfl m_87 rfl dX8_stopsRun_4 ?_
  refine g_iconst (v := (1)) hF dX8_stopsRun_7 rfl ?_
  refine g_icmp_ne (tgt := 19) hF dX8_stopsRun_8 (by decide) (fun c_8 => ?_) (fun c_8 => absurd c_8 hs)
  refine g_aload_n hF dX8_stopsRun_19 rfl ?_
  refine g_callVq hF (c_watchMet (by omega) (by omega)) cal_X8_watchMet rfl m_554 (by decide) (Or.inl rfl) (Nat.zero_le _) (Nat.zero_le _) 0 rfl rfl [0, 4, 5] rfl rfl rfl (Nat.le_of_ble_eq_true rfl) dX8_stopsRun_20 ?_
  refine g_istore_n hF dX8_stopsRun_23 (Nat.le_of_ble_eq_true rfl) rfl ?_
  refine g_iload_n hF dX8_stopsRun_24 rfl ?_
  refine g_iconst (v := (-1)) hF dX8_stopsRun_25 rfl ?_
  refine g_icmp_eq (tgt := 37) hF dX8_stopsRun_26 (by decide) (fun c_26 => ?_) (fun c_26 => absurd rfl c_26)
  refine g_aload_n hF dX8_stopsRun_37 rfl ?_
  refine g_get (j := 2) hF 0 rfl rfl (by decide) rfl m_249 rfl dX8_stopsRun_38 ?_
  refine g_getN (j := 2) hF 1 rfl rfl (by decide) rfl m_79 rfl dX8_stopsRun_41 ?_
  refine g_callVq hF (c_Row_size) cal_X4_size rfl m_367 (by decide) (Or.inl rfl) (Nat.zero_le _) (Nat.zero_le _) 3 rfl rfl [3] rfl rfl rfl (Nat.le_of_ble_eq_true rfl) dX8_stopsRun_44 ?_
  refine g_iload_n hF dX8_stopsRun_47 rfl ?_
  refine g_icmp_gt (tgt := 59) hF dX8_stopsRun_48 (by decide) (fun c_48 => ?_) (fun c_48 => absurd (neg1_lt (by omega)) c_48)
  refine g_aload_n hF dX8_stopsRun_59 rfl ?_
  refine g_callVq hF (c_pointStopping_h h2 hh) cal_X8_pointStopping rfl m_574 (by decide) (Or.inl rfl) (Nat.zero_le _) (Nat.zero_le _) 0 rfl rfl [0, 1, 2, 6, 7] rfl rfl rfl (Nat.le_of_ble_eq_true rfl) dX8_stopsRun_60 ?_
  refine g_istore_n hF dX8_stopsRun_63 (Nat.le_of_ble_eq_true rfl) rfl ?_
  refine g_aload_n hF dX8_stopsRun_64 rfl ?_
  refine g_iload_n hF dX8_stopsRun_65 rfl ?_
  refine g_callVq hF (c_pointNumbered_0) cal_X8_pointNumbered rfl m_578 (by decide) (Or.inl rfl) (Nat.zero_le _) (Nat.zero_le _) 0 rfl rfl [0, 6] rfl rfl rfl (Nat.le_of_ble_eq_true rfl) dX8_stopsRun_66 ?_
  refine g_astore hF dX8_stopsRun_69 (Nat.le_of_ble_eq_true rfl) rfl ?_
  refine g_aload hF dX8_stopsRun_71 rfl ?_
  refine g_ifnull hF dX8_stopsRun_73 ?_
  refine g_aload_n hF dX8_stopsRun_76 rfl ?_
  refine g_iconst (v := (5)) hF dX8_stopsRun_77 rfl ?_
  refine g_iload_n hF dX8_stopsRun_78 rfl ?_
  refine g_callVd hF (c_stopBy) cal_X8_stopBy rfl m_403 (by decide) (Or.inl rfl) (Nat.zero_le _) (Nat.zero_le _) 0 rfl rfl [0] rfl rfl (Nat.le_of_ble_eq_true rfl) rfl (Nat.le_of_ble_eq_true rfl) dX8_stopsRun_79 ?_
  try dsimp only [gput, gputA, List.set, stGs, List.cons_append, List.nil_append]
  refine g_aload hF dX8_stopsRun_82 rfl ?_
  refine g_dup hF dX8_stopsRun_84 rfl ?_
  refine g_getN (j := 6) hF 7 rfl rfl (by decide) rfl m_193 rfl dX8_stopsRun_85 ?_
  refine g_iconst (v := (1)) hF dX8_stopsRun_88 rfl ?_
  refine g_iadd hF dX8_stopsRun_89 ?_
  refine g_putN (j := 6) hF 7 rfl rfl (by decide) rfl m_193 rfl (tyX2_ok 6 (by decide)) rfl rfl (Nat.le_of_ble_eq_true rfl) dX8_stopsRun_90 ?_
  try dsimp only [gput, gputA, List.set, stGs, List.cons_append, List.nil_append]
  refine g_iconst (v := (1)) hF dX8_stopsRun_93 rfl ?_
  exact g_zret hF hR dX8_stopsRun_94 rfl ⟨rfl, rfl⟩
set_option maxHeartbeats 4000000 in
set_option maxRecDepth 100000 in
theorem c_runTill_1 {E : Env3} {h p ri hp pts wts tps ti rc rn rt ac an at0 np ai ni ma cnt : Nat} {A : AV} {B : AV} {v : SV} {ad : Nat → Nat} {ap : Nat → Nat} {fc : Nat → Int32} {fn : Nat → Int32} {ft : Nat → Int32} {fi : Nat → Int32} {M : Nat → Nat → Int32} {reason : Int32} {cause : Int32} {ps : Int32} {stops : Int32} (hv : okS v) (hnp : np ≤ 80) (hni : ni ≤ 20) {k : Nat} (hk : k < 2 ^ 31) (hcn : cnt + k ≤ 200)  : Cd E none 5 yX8_runTill cX8_runTill 4 (some .int) [.ref h, .int (nI k), .int (-1)] [lanO h p ri A.1 hp pts 1 wts tps reason cause B.1 ti, progO p rc rn rt, rowW E.2.2 rc ac 80 fc np, rowW E.2.2 rn an 80 fn np, rowW E.2.2 rt at0 80 ft np, rowW E.2.2 ri ai 20 fi ni, stOv A v, rw1 E.2.2 A v, rw2 E.2.2 A v, rw3 E.2.2 A v, rw4 E.2.2 A v, pastO hp ma cnt, arrM E.2.2 ma ad, momsW ad M, ptsA E.2.2 pts ap, poO (ap 0) ps 0 true 0 0 0 stops] (some (.int (nI (runR (fc, np) (fn, np) (fi, ni) (hitV ps) k (ft, v, cnt, M)).1))) [lanO h p ri A.1 hp pts 1 wts tps (runR (fc, np) (fn, np) (fi, ni) (hitV ps) k (ft, v, cnt, M)).2.2 (causeF (runR (fc, np) (fn, np) (fi, ni) (hitV ps) k (ft, v, cnt, M)).2.2) B.1 ti, progO p rc rn rt, rowW E.2.2 rc ac 80 fc np, rowW E.2.2 rn an 80 fn np, rowW E.2.2 rt at0 80 (runR (fc, np) (fn, np) (fi, ni) (hitV ps) k (ft, v, cnt, M)).2.1.1 np, rowW E.2.2 ri ai 20 fi ni, stOv A ((runR (fc, np) (fn, np) (fi, ni) (hitV ps) k (ft, v, cnt, M)).2.1.2.1), rw1 E.2.2 A ((runR (fc, np) (fn, np) (fi, ni) (hitV ps) k (ft, v, cnt, M)).2.1.2.1), rw2 E.2.2 A ((runR (fc, np) (fn, np) (fi, ni) (hitV ps) k (ft, v, cnt, M)).2.1.2.1), rw3 E.2.2 A ((runR (fc, np) (fn, np) (fi, ni) (hitV ps) k (ft, v, cnt, M)).2.1.2.1), rw4 E.2.2 A ((runR (fc, np) (fn, np) (fi, ni) (hitV ps) k (ft, v, cnt, M)).2.1.2.1), pastO hp ma (runR (fc, np) (fn, np) (fi, ni) (hitV ps) k (ft, v, cnt, M)).2.1.2.2.1, arrM E.2.2 ma ad, momsW ad (runR (fc, np) (fn, np) (fi, ni) (hitV ps) k (ft, v, cnt, M)).2.1.2.2.2, ptsA E.2.2 pts ap, poO (ap 0) ps 0 true 0 0 0 (stF stops (runR (fc, np) (fn, np) (fi, ni) (hitV ps) k (ft, v, cnt, M)).2.2)] := by
  refine Ct.of [some (.ref h), some (.int (nI k)), some (.int (-1)), none] (by decide +kernel) rfl (Nat.le_of_ble_eq_true rfl) (fun F hE hF hR hN => ?_)
  subst hE
  generalize hE : runR (fc, np) (fn, np) (fi, ni) (hitV ps) k (ft, v, cnt, M) = Z at hR
  have loop : ∀ (r i : Nat) (ft : Nat → Int32) (v : SV) (cnt : Nat) (M : Nat → Nat → Int32), i + r = k → okS v → cnt + r ≤ 200 → (i + (runR (fc, np) (fn, np) (fi, ni) (hitV ps) r (ft, v, cnt, M)).1, (runR (fc, np) (fn, np) (fi, ni) (hitV ps) r (ft, v, cnt, M)).2) = Z → G F 0 0 [lanO h p ri A.1 hp pts 1 wts tps reason cause B.1 ti, progO p rc rn rt, rowW F.1.2.2 rc ac 80 fc np, rowW F.1.2.2 rn an 80 fn np, rowW F.1.2.2 rt at0 80 ft np, rowW F.1.2.2 ri ai 20 fi ni, stOv A v, rw1 F.1.2.2 A v, rw2 F.1.2.2 A v, rw3 F.1.2.2 A v, rw4 F.1.2.2 A v, pastO hp ma cnt, arrM F.1.2.2 ma ad, momsW ad M, ptsA F.1.2.2 pts ap, poO (ap 0) ps 0 true 0 0 0 stops] 2 [some (.ref h), some (.int (nI k)), some (.int (-1)), some (.int (nI i))] [] := by
    intro r
    induction r with
    | zero =>
      intro i ft v cnt M hi hv hcn hZ
      refine g_iload_n hF dX8_runTill_2 rfl ?_
      refine g_iload_n hF dX8_runTill_3 rfl ?_
      refine g_icmp_ge (tgt := 55) hF dX8_runTill_4 (by decide) (fun c_4 => ?_) (fun c_4 => absurd (nI_le (show k ≤ i by omega) (by omega)) c_4)
      refine g_aload_n hF dX8_runTill_55 rfl ?_
      refine g_bipush (v := (6)) hF dX8_runTill_56 rfl ?_
      refine g_iconst (v := (-1)) hF dX8_runTill_58 rfl ?_
      refine g_callVd hF (c_stopBy) cal_X8_stopBy rfl m_403 (by decide) (Or.inl rfl) (Nat.zero_le _) (Nat.zero_le _) 0 rfl rfl [0] rfl rfl (Nat.le_of_ble_eq_true rfl) rfl (Nat.le_of_ble_eq_true rfl) dX8_runTill_59 ?_
      try dsimp only [gput, gputA, List.set, stGs, List.cons_append, List.nil_append]
      refine g_iload_n hF dX8_runTill_62 rfl ?_
      subst hZ
      exact g_iret hF hR dX8_runTill_63 ⟨by rw [← hi] <;> rfl, rfl⟩
    | succ r ih =>
      intro i ft v cnt M hi hv hcn hZ
      by_cases hr : (readyF (fc, np) v).2.2.2.2.2.1 = 0
      · refine g_iload_n hF dX8_runTill_2 rfl ?_
        refine g_iload_n hF dX8_runTill_3 rfl ?_
        refine g_icmp_ge (tgt := 55) hF dX8_runTill_4 (by decide) (fun c_4 => absurd c_4 (nI_ge (show i < k by omega) (by omega))) (fun c_4 => ?_)
        refine g_aload_n hF dX8_runTill_7 rfl ?_
        refine g_callVd hF (c_doStep_yes (by assumption) (by assumption) (by assumption) (by omega) hr) cal_X8_doStep rfl m_451 (by decide) (Or.inl rfl) (Nat.zero_le _) (Nat.zero_le _) 0 rfl rfl [0, 1, 2, 3, 4, 5, 6, 7, 8, 9, 10, 11, 12, 13] rfl rfl (Nat.le_of_ble_eq_true rfl) rfl (Nat.le_of_ble_eq_true rfl) dX8_runTill_8 ?_
        try dsimp only [gput, gputA, List.set, stGs, List.cons_append, List.nil_append]
        refine g_if_ne (tgt := 37) hF dX8_runTill_11 (by decide) (fun c_11 => ?_) (fun c_11 => absurd c_11 (by decide))
        have hvy : okS (stepR (fc, np) (fn, np) (fi, ni) (ft, v, cnt, M)).2.1 := okS_perf (okS_ready hv)
        have h3y := hvy.2.2.1
        refine g_regroup (gs' := [lanO h p ri A.1 hp pts 1 wts tps reason cause B.1 ti, progO p rc rn rt, rowW F.1.2.2 rc ac 80 fc np, rowW F.1.2.2 rn an 80 fn np, rowW F.1.2.2 rt at0 80 (stepR (fc, np) (fn, np) (fi, ni) (ft, v, cnt, M)).1 np, rowW F.1.2.2 ri ai 20 fi ni, stOv A ((stepR (fc, np) (fn, np) (fi, ni) (ft, v, cnt, M)).2.1), rw1 F.1.2.2 A ((stepR (fc, np) (fn, np) (fi, ni) (ft, v, cnt, M)).2.1), rw2 F.1.2.2 A ((stepR (fc, np) (fn, np) (fi, ni) (ft, v, cnt, M)).2.1), rw3 F.1.2.2 A ((stepR (fc, np) (fn, np) (fi, ni) (ft, v, cnt, M)).2.1), rw4 F.1.2.2 A ((stepR (fc, np) (fn, np) (fi, ni) (ft, v, cnt, M)).2.1), pastO hp ma (stepR (fc, np) (fn, np) (fi, ni) (ft, v, cnt, M)).2.2.1, arrM F.1.2.2 ma ad, momsW ad (stepR (fc, np) (fn, np) (fi, ni) (ft, v, cnt, M)).2.2.2, ptsA F.1.2.2 pts ap, poO (ap 0) ps 0 true 0 0 0 stops]) rfl ?_
        by_cases hs : (stepR (fc, np) (fn, np) (fi, ni) (ft, v, cnt, M)).2.1.2.2.2.2.2.1 = 1
        · refine g_aload_n hF dX8_runTill_37 rfl ?_
          refine g_iload_n hF dX8_runTill_38 rfl ?_
          refine g_callVd hF (c_stopsRun_1y hs) cal_X8_stopsRun rfl m_550 (by decide) (Or.inl rfl) (Nat.zero_le _) (Nat.zero_le _) 0 rfl rfl [0, 6, 8, 9, 11, 12, 14, 15] rfl rfl (Nat.le_of_ble_eq_true rfl) rfl (Nat.le_of_ble_eq_true rfl) dX8_runTill_39 ?_
          try dsimp only [gput, gputA, List.set, stGs, List.cons_append, List.nil_append]
          refine g_if_eq (tgt := 49) hF dX8_runTill_42 (by decide) (fun c_42 => absurd c_42 (by decide)) (fun c_42 => ?_)
          refine g_iload_n hF dX8_runTill_45 rfl ?_
          refine g_iconst (v := (1)) hF dX8_runTill_46 rfl ?_
          refine g_iadd hF dX8_runTill_47 ?_
          rw [runR_halt hr hs] at hZ
          subst hZ
          exact g_iret hF hR dX8_runTill_48 ⟨by rw [← nI_1] <;> rfl, rfl⟩
        · by_cases hh : hitV ps (stepR (fc, np) (fn, np) (fi, ni) (ft, v, cnt, M)).2.1 = true
          · refine g_aload_n hF dX8_runTill_37 rfl ?_
            refine g_iload_n hF dX8_runTill_38 rfl ?_
            refine g_callVd hF (c_stopsRun_1h hs (by show cnt + 1 ≤ 200; omega) (by show 1 ≤ cnt + 1; omega) hvy.2.1 h3y hh) cal_X8_stopsRun rfl m_550 (by decide) (Or.inl rfl) (Nat.zero_le _) (Nat.zero_le _) 0 rfl rfl [0, 6, 8, 9, 11, 12, 14, 15] rfl rfl (Nat.le_of_ble_eq_true rfl) rfl (Nat.le_of_ble_eq_true rfl) dX8_runTill_39 ?_
            try dsimp only [gput, gputA, List.set, stGs, List.cons_append, List.nil_append]
            refine g_if_eq (tgt := 49) hF dX8_runTill_42 (by decide) (fun c_42 => absurd c_42 (by decide)) (fun c_42 => ?_)
            refine g_iload_n hF dX8_runTill_45 rfl ?_
            refine g_iconst (v := (1)) hF dX8_runTill_46 rfl ?_
            refine g_iadd hF dX8_runTill_47 ?_
            rw [runR_hit hr hs hh] at hZ
            subst hZ
            exact g_iret hF hR dX8_runTill_48 ⟨by rw [← nI_1] <;> rfl, rfl⟩
          · have hh2 : hitV ps (stepR (fc, np) (fn, np) (fi, ni) (ft, v, cnt, M)).2.1 = false := by cases hq : hitV ps (stepR (fc, np) (fn, np) (fi, ni) (ft, v, cnt, M)).2.1 with
              | true => exact absurd hq hh
              | false => rfl
            refine g_aload_n hF dX8_runTill_37 rfl ?_
            refine g_iload_n hF dX8_runTill_38 rfl ?_
            refine g_callVq hF (c_stopsRun_1n hs (by show cnt + 1 ≤ 200; omega) (by show 1 ≤ cnt + 1; omega) hvy.2.1 h3y hh2) cal_X8_stopsRun rfl m_550 (by decide) (Or.inl rfl) (Nat.zero_le _) (Nat.zero_le _) 0 rfl rfl [0, 6, 8, 9, 11, 12, 14, 15] rfl rfl rfl (Nat.le_of_ble_eq_true rfl) dX8_runTill_39 ?_
            refine g_if_eq (tgt := 49) hF dX8_runTill_42 (by decide) (fun c_42 => ?_) (fun c_42 => absurd rfl c_42)
            refine g_iinc (v := nI (i + 1)) hF dX8_runTill_49 rfl (nI_1 i) rfl ?_
            refine g_goto (tgt := 2) hF dX8_runTill_52 (by decide) ?_
            refine ih (i + 1) _ _ _ _ (by omega) hvy (by show cnt + 1 + r ≤ 200; omega) ?_
            rw [← hZ, runR_go hr hs hh2]
            exact Prod.ext (Nat.add_right_comm i 1 _) rfl
      · refine g_iload_n hF dX8_runTill_2 rfl ?_
        refine g_iload_n hF dX8_runTill_3 rfl ?_
        refine g_icmp_ge (tgt := 55) hF dX8_runTill_4 (by decide) (fun c_4 => absurd c_4 (nI_ge (show i < k by omega) (by omega))) (fun c_4 => ?_)
        refine g_aload_n hF dX8_runTill_7 rfl ?_
        refine g_callVd hF (c_doStep_no (by assumption) (by assumption) (by assumption) hr) cal_X8_doStep rfl m_451 (by decide) (Or.inl rfl) (Nat.zero_le _) (Nat.zero_le _) 0 rfl rfl [0, 1, 2, 3, 4, 5, 6, 7, 8, 9, 10, 11, 12, 13] rfl rfl (Nat.le_of_ble_eq_true rfl) rfl (Nat.le_of_ble_eq_true rfl) dX8_runTill_8 ?_
        try dsimp only [gput, gputA, List.set, stGs, List.cons_append, List.nil_append]
        refine g_if_ne (tgt := 37) hF dX8_runTill_11 (by decide) (fun c_11 => absurd c_11 (by decide)) (fun c_11 => ?_)
        refine g_aload_n hF dX8_runTill_14 rfl ?_
        refine g_aload_n hF dX8_runTill_15 rfl ?_
        refine g_get (j := 2) hF 0 rfl rfl (by decide) rfl m_249 rfl dX8_runTill_16 ?_
        refine g_getN (j := 5) hF 6 rfl rfl (by decide) rfl m_87 rfl dX8_runTill_19 ?_
        refine g_iconst (v := (1)) hF dX8_runTill_22 rfl ?_
        refine g_icmp_ne (tgt := 30) hF dX8_runTill_23 (by decide) (fun c_23 => ?_) (fun c_23 => ?_)
        · refine g_iconst (v := (2)) hF dX8_runTill_30 rfl ?_
          refine g_iconst (v := (-1)) hF dX8_runTill_31 rfl ?_
          refine g_callVd hF (c_stopBy) cal_X8_stopBy rfl m_403 (by decide) (Or.inl rfl) (Nat.zero_le _) (Nat.zero_le _) 0 rfl rfl [0] rfl rfl (Nat.le_of_ble_eq_true rfl) rfl (Nat.le_of_ble_eq_true rfl) dX8_runTill_32 ?_
          try dsimp only [gput, gputA, List.set, stGs, List.cons_append, List.nil_append]
          refine g_iload_n hF dX8_runTill_35 rfl ?_
          rw [runR_stop hr] at hZ
          subst hZ
          exact g_iret hF hR dX8_runTill_36 ⟨rfl, by simp only [if_neg c_23]; rfl⟩
        · refine g_iconst (v := (1)) hF dX8_runTill_26 rfl ?_
          refine g_goto (tgt := 31) hF dX8_runTill_27 (by decide) ?_
          refine g_iconst (v := (-1)) hF dX8_runTill_31 rfl ?_
          refine g_callVd hF (c_stopBy) cal_X8_stopBy rfl m_403 (by decide) (Or.inl rfl) (Nat.zero_le _) (Nat.zero_le _) 0 rfl rfl [0] rfl rfl (Nat.le_of_ble_eq_true rfl) rfl (Nat.le_of_ble_eq_true rfl) dX8_runTill_32 ?_
          try dsimp only [gput, gputA, List.set, stGs, List.cons_append, List.nil_append]
          refine g_iload_n hF dX8_runTill_35 rfl ?_
          rw [runR_stop hr] at hZ
          subst hZ
          exact g_iret hF hR dX8_runTill_36 ⟨rfl, by simp only [if_pos c_23]; rfl⟩
  refine g_iconst (v := (0)) hF dX8_runTill_0 rfl ?_
  refine g_istore_n hF dX8_runTill_1 (Nat.le_of_ble_eq_true rfl) rfl ?_
  exact loop k 0 ft v cnt M (by omega) hv hcn (by rw [Nat.zero_add]; exact hE)
set_option maxHeartbeats 4000000 in
set_option maxRecDepth 100000 in
theorem c_run_1 {E : Env3} {h p ri hp pts wts tps ti rc rn rt ac an at0 np ai ni ma cnt : Nat} {A : AV} {B : AV} {v : SV} {ad : Nat → Nat} {ap : Nat → Nat} {fc : Nat → Int32} {fn : Nat → Int32} {ft : Nat → Int32} {fi : Nat → Int32} {M : Nat → Nat → Int32} {reason : Int32} {cause : Int32} {ps : Int32} {stops : Int32} (hv : okS v) (hnp : np ≤ 80) (hni : ni ≤ 20) {k : Nat} (hl : isLenB (nI k) = true) (hk : k < 2 ^ 31) (hcn : cnt + k ≤ 200)  : Cd E none 6 yX8_run cX8_run 2 (some .int) [.ref h, .int (nI k)] [lanO h p ri A.1 hp pts 1 wts tps reason cause B.1 ti, progO p rc rn rt, rowW E.2.2 rc ac 80 fc np, rowW E.2.2 rn an 80 fn np, rowW E.2.2 rt at0 80 ft np, rowW E.2.2 ri ai 20 fi ni, stOv A v, rw1 E.2.2 A v, rw2 E.2.2 A v, rw3 E.2.2 A v, rw4 E.2.2 A v, pastO hp ma cnt, arrM E.2.2 ma ad, momsW ad M, ptsA E.2.2 pts ap, poO (ap 0) ps 0 true 0 0 0 stops] (some (.int (nI (runR (fc, np) (fn, np) (fi, ni) (hitV ps) k (ft, v, cnt, M)).1))) [lanO h p ri A.1 hp pts 1 wts tps (runR (fc, np) (fn, np) (fi, ni) (hitV ps) k (ft, v, cnt, M)).2.2 (causeF (runR (fc, np) (fn, np) (fi, ni) (hitV ps) k (ft, v, cnt, M)).2.2) B.1 ti, progO p rc rn rt, rowW E.2.2 rc ac 80 fc np, rowW E.2.2 rn an 80 fn np, rowW E.2.2 rt at0 80 (runR (fc, np) (fn, np) (fi, ni) (hitV ps) k (ft, v, cnt, M)).2.1.1 np, rowW E.2.2 ri ai 20 fi ni, stOv A ((runR (fc, np) (fn, np) (fi, ni) (hitV ps) k (ft, v, cnt, M)).2.1.2.1), rw1 E.2.2 A ((runR (fc, np) (fn, np) (fi, ni) (hitV ps) k (ft, v, cnt, M)).2.1.2.1), rw2 E.2.2 A ((runR (fc, np) (fn, np) (fi, ni) (hitV ps) k (ft, v, cnt, M)).2.1.2.1), rw3 E.2.2 A ((runR (fc, np) (fn, np) (fi, ni) (hitV ps) k (ft, v, cnt, M)).2.1.2.1), rw4 E.2.2 A ((runR (fc, np) (fn, np) (fi, ni) (hitV ps) k (ft, v, cnt, M)).2.1.2.1), pastO hp ma (runR (fc, np) (fn, np) (fi, ni) (hitV ps) k (ft, v, cnt, M)).2.1.2.2.1, arrM E.2.2 ma ad, momsW ad (runR (fc, np) (fn, np) (fi, ni) (hitV ps) k (ft, v, cnt, M)).2.1.2.2.2, ptsA E.2.2 pts ap, poO (ap 0) ps 0 true 0 0 0 (stF stops (runR (fc, np) (fn, np) (fi, ni) (hitV ps) k (ft, v, cnt, M)).2.2)] := by
  refine Ct.of [some (.ref h), some (.int (nI k))] (by decide +kernel) rfl (Nat.le_of_ble_eq_true rfl) (fun F hE hF hR hN => ?_)
  subst hE
  refine g_iload_n hF dX8_run_0 rfl ?_
  refine g_callSq hF (c_isRunLength) cal_X8_isRunLength rfl m_443 (by decide) (Or.inl rfl) (Nat.zero_le _) (Nat.zero_le _) [] rfl rfl rfl (Nat.le_of_ble_eq_true rfl) dX8_run_1 ?_
  refine g_if_ne (tgt := 17) hF dX8_run_4 (by decide) (fun c_4 => ?_) (fun c_4 => absurd c_4 (bI_n.mpr hl))
  refine g_aload_n hF dX8_run_17 rfl ?_
  refine g_iload_n hF dX8_run_18 rfl ?_
  refine g_iconst (v := (-1)) hF dX8_run_19 rfl ?_
  refine g_callVd hF (c_runTill_1 (by assumption) (by assumption) (by assumption) (by omega) (by omega)) cal_X8_runTill rfl m_447 (by decide) (Or.inl rfl) (Nat.zero_le _) (Nat.zero_le _) 0 rfl rfl [0, 1, 2, 3, 4, 5, 6, 7, 8, 9, 10, 11, 12, 13, 14, 15] rfl rfl (Nat.le_of_ble_eq_true rfl) rfl (Nat.le_of_ble_eq_true rfl) dX8_run_20 ?_
  try dsimp only [gput, gputA, List.set, stGs, List.cons_append, List.nil_append]
  exact g_iret hF hR dX8_run_23 ⟨rfl, rfl⟩
