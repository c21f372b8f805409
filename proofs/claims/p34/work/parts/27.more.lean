/-! asking back, records, starting anew -/
def nowF (v : SV) (k : Int32) : Int32 := if k = 0 then v.2.2.2.2.1 else if k = 1 then nI v.1.2 else if k = 2 then topR v.1 0 else nI v.2.2.1.2
def tellM (μ : Nat → Int32) (k : Int32) : Int32 := if k = 0 then μ 0 else if k = 1 then μ 1 else if k = 2 then μ 2 else μ 4
def playR (pc pn inp : RV) : Nat → RS → Nat × RS
  | 0, x => (0, x)
  | k + 1, x => if ¬ (readyF pc x.2.1).2.2.2.2.2.1 = 0 then (0, readR pc x) else ((playR pc pn inp k (stepR pc pn inp x)).1 + 1, (playR pc pn inp k (stepR pc pn inp x)).2)
theorem playR_stop {pc pn inp : RV} {k : Nat} {x : RS} (h : ¬ (readyF pc x.2.1).2.2.2.2.2.1 = 0) : playR pc pn inp (k + 1) x = (0, readR pc x) := by
  show (if _ then _ else _) = _
  rw [if_pos h]
theorem playR_go {pc pn inp : RV} {k : Nat} {x : RS} (h : (readyF pc x.2.1).2.2.2.2.2.1 = 0) : playR pc pn inp (k + 1) x = ((playR pc pn inp k (stepR pc pn inp x)).1 + 1, (playR pc pn inp k (stepR pc pn inp x)).2) := by
  show (if _ then _ else _) = _
  rw [if_neg (fun y => y h)]
theorem lt_500 {k : Nat} (h1 : 1 ≤ k) (h2 : k ≤ 500) : isLenB (nI k) = true := by
  unfold isLenB
  have a : ¬ nI k < 1 := fun y => absurd ((nI_ltI (a := k) (b := 1) (by omega) (by decide)).mp y) (by omega)
  have b : ¬ (500 : Int32) < nI k := fun y => absurd ((nI_ltI (a := 500) (b := k) (by decide) (by omega)).mp y) (by omega)
  simp [a, b]
set_option maxHeartbeats 4000000 in
set_option maxRecDepth 100000 in
theorem c_ofNow {E : Env3} {h p ri hp pts wts tps ti : Nat} {A : AV} {B : AV} {v : SV} {reason : Int32} {cause : Int32} {pc : Int32} {k : Int32} (h1 : v.1.2 ≤ 24)  : Cd E none 2 yX8_ofNow cX8_ofNow 2 (some .int) [.ref h, .int k] [lanO h p ri A.1 hp pts pc wts tps reason cause B.1 ti, stOv A v, rw1 E.2.2 A v, rw3 E.2.2 A v] (some (.int (nowF v k))) [lanO h p ri A.1 hp pts pc wts tps reason cause B.1 ti, stOv A v, rw1 E.2.2 A v, rw3 E.2.2 A v] := by
  refine Ct.of [some (.ref h), some (.int k)] (by decide +kernel) rfl (Nat.le_of_ble_eq_true rfl) (fun F hE hF hR hN => ?_)
  subst hE
  refine g_iload_n hF dX8_ofNow_0 rfl ?_
  by_cases t1_0 : k = 0
  · refine g_tableIn (off := 27) (tgt := 28) hF dX8_ofNow_1 (by rw [t1_0]; decide) (by rw [t1_0]; decide) (by rw [t1_0]; rfl) (by decide) ?_
    refine g_aload_n hF dX8_ofNow_28 rfl ?_
    refine g_get (j := 2) hF 0 rfl rfl (by decide) rfl m_249 rfl dX8_ofNow_29 ?_
    refine g_getN (j := 4) hF 1 rfl rfl (by decide) rfl m_84 rfl dX8_ofNow_32 ?_
    exact g_iret hF hR dX8_ofNow_35 ⟨(by rw [t1_0]; rfl), rfl⟩
  by_cases t1_1 : k = 1
  · refine g_tableIn (off := 35) (tgt := 36) hF dX8_ofNow_1 (by rw [t1_1]; decide) (by rw [t1_1]; decide) (by rw [t1_1]; rfl) (by decide) ?_
    refine g_aload_n hF dX8_ofNow_36 rfl ?_
    refine g_get (j := 2) hF 0 rfl rfl (by decide) rfl m_249 rfl dX8_ofNow_37 ?_
    refine g_getN (j := 0) hF 1 rfl rfl (by decide) rfl m_74 rfl dX8_ofNow_40 ?_
    refine g_callVq hF (c_Row_size) cal_X4_size rfl m_367 (by decide) (Or.inl rfl) (Nat.zero_le _) (Nat.zero_le _) 2 rfl rfl [2] rfl rfl rfl (Nat.le_of_ble_eq_true rfl) dX8_ofNow_43 ?_
    exact g_iret hF hR dX8_ofNow_46 ⟨(by rw [t1_1]; rfl), rfl⟩
  by_cases t1_2 : k = 2
  · refine g_tableIn (off := 46) (tgt := 47) hF dX8_ofNow_1 (by rw [t1_2]; decide) (by rw [t1_2]; decide) (by rw [t1_2]; rfl) (by decide) ?_
    refine g_aload_n hF dX8_ofNow_47 rfl ?_
    refine g_get (j := 2) hF 0 rfl rfl (by decide) rfl m_249 rfl dX8_ofNow_48 ?_
    refine g_getN (j := 0) hF 1 rfl rfl (by decide) rfl m_74 rfl dX8_ofNow_51 ?_
    refine g_iconst (v := (0)) hF dX8_ofNow_54 rfl ?_
    refine g_callVq hF (c_Row_fromTop (by first | omega | exact clampI_le | (split <;> omega)) (by omega)) cal_X4_fromTop rfl m_647 (by decide) (Or.inl rfl) (Nat.zero_le _) (Nat.zero_le _) 2 rfl rfl [2] rfl rfl rfl (Nat.le_of_ble_eq_true rfl) dX8_ofNow_55 ?_
    exact g_iret hF hR dX8_ofNow_58 ⟨(by rw [t1_2]; rfl), rfl⟩
  refine g_tableOut (tgt := 59) hF dX8_ofNow_1 (by have z0 := lv_neT t1_0 (a := 0) rfl; have z1 := lv_neT t1_1 (a := 1) rfl; have z2 := lv_neT t1_2 (a := 2) rfl; omega) (by decide) ?_
  refine g_aload_n hF dX8_ofNow_59 rfl ?_
  refine g_get (j := 2) hF 0 rfl rfl (by decide) rfl m_249 rfl dX8_ofNow_60 ?_
  refine g_getN (j := 2) hF 1 rfl rfl (by decide) rfl m_79 rfl dX8_ofNow_63 ?_
  refine g_callVq hF (c_Row_size) cal_X4_size rfl m_367 (by decide) (Or.inl rfl) (Nat.zero_le _) (Nat.zero_le _) 3 rfl rfl [3] rfl rfl rfl (Nat.le_of_ble_eq_true rfl) dX8_ofNow_66 ?_
  exact g_iret hF hR dX8_ofNow_69 ⟨(by unfold nowF; rw [if_neg t1_0, if_neg t1_1, if_neg t1_2]), rfl⟩
set_option maxHeartbeats 4000000 in
set_option maxRecDepth 100000 in
theorem c_then_m {E : Env3} {h p ri hp pts wts tps ti ma cnt : Nat} {A : AV} {B : AV} {v : SV} {ad : Nat → Nat} {M : Nat → Nat → Int32} {reason : Int32} {cause : Int32} {pc : Int32} {j k : Nat} (hc : cnt ≤ 200) (hj : 1 ≤ j) (hj2 : j ≤ cnt) (hk : k ≤ 3)  : Cd E none 3 yX8_then cX8_then 4 (some .int) [.ref h, .int (nI j), .int (nI k)] [lanO h p ri A.1 hp pts pc wts tps reason cause B.1 ti, stOv A v, rw1 E.2.2 A v, rw2 E.2.2 A v, rw3 E.2.2 A v, pastO hp ma cnt, arrM E.2.2 ma ad, momsW ad M] (some (.int (tellM (M (cnt - j)) (nI k)))) [lanO h p ri A.1 hp pts pc wts tps reason cause B.1 ti, stOv A v, rw1 E.2.2 A v, rw2 E.2.2 A v, rw3 E.2.2 A v, pastO hp ma cnt, arrM E.2.2 ma ad, momsW ad M] := by
  refine Ct.of [some (.ref h), some (.int (nI j)), some (.int (nI k)), none] (by decide +kernel) rfl (Nat.le_of_ble_eq_true rfl) (fun F hE hF hR hN => ?_)
  subst hE
  refine g_iload_n hF dX8_then_0 rfl ?_
  refine g_if_lt (tgt := 15) hF dX8_then_1 (by decide) (fun c_1 => absurd c_1 (nI_pos (by omega))) (fun c_1 => ?_)
  refine g_iload_n hF dX8_then_4 rfl ?_
  refine g_aload_n hF dX8_then_5 rfl ?_
  refine g_get (j := 3) hF 0 rfl rfl (by decide) rfl m_250 rfl dX8_then_6 ?_
  refine g_callVq hF (c_Past_size) cal_X1_size rfl m_621 (by decide) (Or.inl rfl) (Nat.zero_le _) (Nat.zero_le _) 5 rfl rfl [5] rfl rfl rfl (Nat.le_of_ble_eq_true rfl) dX8_then_9 ?_
  refine g_icmp_le (tgt := 26) hF dX8_then_12 (by decide) (fun c_12 => ?_) (fun c_12 => absurd (nI_le (show j ≤ cnt by omega) (by omega)) c_12)
  refine g_iload_n hF dX8_then_26 rfl ?_
  refine g_if_lt (tgt := 36) hF dX8_then_27 (by decide) (fun c_27 => absurd c_27 (nI_pos (by omega))) (fun c_27 => ?_)
  refine g_iload_n hF dX8_then_30 rfl ?_
  refine g_bipush (v := (15)) hF dX8_then_31 rfl ?_
  refine g_icmp_le (tgt := 47) hF dX8_then_33 (by decide) (fun c_33 => ?_) (fun c_33 => absurd (nI_le (show k ≤ 15 by omega) (by decide)) c_33)
  refine g_iload_n hF dX8_then_47 rfl ?_
  refine g_iconst (v := (3)) hF dX8_then_48 rfl ?_
  refine g_icmp_le (tgt := 77) hF dX8_then_49 (by decide) (fun c_49 => ?_) (fun c_49 => absurd (nI_le (show k ≤ 3 by omega) (by decide)) c_49)
  refine g_aload_n hF dX8_then_77 rfl ?_
  refine g_get (j := 3) hF 0 rfl rfl (by decide) rfl m_250 rfl dX8_then_78 ?_
  refine g_iload_n hF dX8_then_81 rfl ?_
  refine g_callVq hF (c_Past_ago (cnt := cnt) (j := j) (by omega) (by omega) (by omega)) cal_X1_ago rfl m_558 (by decide) (Or.inl rfl) (Nat.zero_le _) (Nat.zero_le _) 5 rfl rfl [5, 6] rfl rfl rfl (Nat.le_of_ble_eq_true rfl) dX8_then_82 ?_
  refine g_astore_n hF dX8_then_85 (Nat.le_of_ble_eq_true rfl) rfl ?_
  refine g_aload_n hF dX8_then_86 rfl ?_
  refine g_ifnonnull (tgt := 98) hF dX8_then_87 (by decide) ?_
  refine g_split3 7 rfl (mom_split (k := cnt - j) (by omega)) ?_
  try dsimp only [List.take, List.drop, List.cons_append, List.nil_append]
  refine g_aload_n hF dX8_then_98 rfl ?_
  refine g_iload_n hF dX8_then_99 rfl ?_
  refine g_callVq hF (c_Mom_tellOf) cal_X0_tellOf rfl m_690 (by decide) (Or.inl rfl) (Nat.zero_le _) (Nat.zero_le _) 8 rfl rfl [8] rfl rfl rfl (Nat.le_of_ble_eq_true rfl) dX8_then_100 ?_
  refine g_join3 7 rfl (mom_split (k := cnt - j) (by omega)).symm ?_
  try dsimp only [List.take, List.drop, List.cons_append, List.nil_append]
  exact g_iret hF hR dX8_then_103 ⟨rfl, rfl⟩
set_option maxHeartbeats 4000000 in
set_option maxRecDepth 100000 in
theorem c_then_0 {E : Env3} {h p ri hp pts wts tps ti ma cnt : Nat} {A : AV} {B : AV} {v : SV} {ad : Nat → Nat} {M : Nat → Nat → Int32} {reason : Int32} {cause : Int32} {pc : Int32} {k : Nat} (hc : cnt ≤ 200) (h1 : v.1.2 ≤ 24) (hk : k ≤ 3)  : Cd E none 3 yX8_then cX8_then 4 (some .int) [.ref h, .int 0, .int (nI k)] [lanO h p ri A.1 hp pts pc wts tps reason cause B.1 ti, stOv A v, rw1 E.2.2 A v, rw2 E.2.2 A v, rw3 E.2.2 A v, pastO hp ma cnt, arrM E.2.2 ma ad, momsW ad M] (some (.int (nowF v (nI k)))) [lanO h p ri A.1 hp pts pc wts tps reason cause B.1 ti, stOv A v, rw1 E.2.2 A v, rw2 E.2.2 A v, rw3 E.2.2 A v, pastO hp ma cnt, arrM E.2.2 ma ad, momsW ad M] := by
  refine Ct.of [some (.ref h), some (.int 0), some (.int (nI k)), none] (by decide +kernel) rfl (Nat.le_of_ble_eq_true rfl) (fun F hE hF hR hN => ?_)
  subst hE
  refine g_iload_n hF dX8_then_0 rfl ?_
  refine g_if_lt (tgt := 15) hF dX8_then_1 (by decide) (fun c_1 => absurd c_1 (by decide)) (fun c_1 => ?_)
  refine g_iload_n hF dX8_then_4 rfl ?_
  refine g_aload_n hF dX8_then_5 rfl ?_
  refine g_get (j := 3) hF 0 rfl rfl (by decide) rfl m_250 rfl dX8_then_6 ?_
  refine g_callVq hF (c_Past_size) cal_X1_size rfl m_621 (by decide) (Or.inl rfl) (Nat.zero_le _) (Nat.zero_le _) 5 rfl rfl [5] rfl rfl rfl (Nat.le_of_ble_eq_true rfl) dX8_then_9 ?_
  refine g_icmp_le (tgt := 26) hF dX8_then_12 (by decide) (fun c_12 => ?_) (fun c_12 => absurd (nI_le (show 0 ≤ cnt by omega) (by omega)) c_12)
  refine g_iload_n hF dX8_then_26 rfl ?_
  refine g_if_lt (tgt := 36) hF dX8_then_27 (by decide) (fun c_27 => absurd c_27 (nI_pos (by omega))) (fun c_27 => ?_)
  refine g_iload_n hF dX8_then_30 rfl ?_
  refine g_bipush (v := (15)) hF dX8_then_31 rfl ?_
  refine g_icmp_le (tgt := 47) hF dX8_then_33 (by decide) (fun c_33 => ?_) (fun c_33 => absurd (nI_le (show k ≤ 15 by omega) (by decide)) c_33)
  refine g_iload_n hF dX8_then_47 rfl ?_
  refine g_iconst (v := (3)) hF dX8_then_48 rfl ?_
  refine g_icmp_le (tgt := 77) hF dX8_then_49 (by decide) (fun c_49 => ?_) (fun c_49 => absurd (nI_le (show k ≤ 3 by omega) (by decide)) c_49)
  refine g_aload_n hF dX8_then_77 rfl ?_
  refine g_get (j := 3) hF 0 rfl rfl (by decide) rfl m_250 rfl dX8_then_78 ?_
  refine g_iload_n hF dX8_then_81 rfl ?_
  refine g_callVq hF (c_Past_ago0) cal_X1_ago rfl m_558 (by decide) (Or.inl rfl) (Nat.zero_le _) (Nat.zero_le _) 5 rfl rfl [5, 6] rfl rfl rfl (Nat.le_of_ble_eq_true rfl) dX8_then_82 ?_
  refine g_astore_nN hF dX8_then_85 (Nat.le_of_ble_eq_true rfl) rfl ?_
  refine g_aload_nN hF dX8_then_86 rfl ?_
  refine g_ifnonnullN hF dX8_then_87 ?_
  refine g_aload_n hF dX8_then_90 rfl ?_
  refine g_iload_n hF dX8_then_91 rfl ?_
  refine g_callVq hF (c_ofNow (by assumption)) cal_X8_ofNow rfl m_686 (by decide) (Or.inl rfl) (Nat.zero_le _) (Nat.zero_le _) 0 rfl rfl [0, 1, 2, 4] rfl rfl rfl (Nat.le_of_ble_eq_true rfl) dX8_then_92 ?_
  refine g_goto (tgt := 103) hF dX8_then_95 (by decide) ?_
  exact g_iret hF hR dX8_then_103 ⟨rfl, rfl⟩
set_option maxHeartbeats 4000000 in
set_option maxRecDepth 100000 in
theorem c_then_c {E : Env3} {h p ri hp pts wts tps ti ma cnt : Nat} {A : AV} {B : AV} {v : SV} {ad : Nat → Nat} {M : Nat → Nat → Int32} {reason : Int32} {cause : Int32} {pc : Int32} {j c : Nat} (hc : cnt ≤ 200) (hj2 : j ≤ cnt) (hcc : c < 12) (h2 : v.2.1.2 ≤ 12)  : Cd E none 3 yX8_then cX8_then 4 (some .int) [.ref h, .int (nI j), .int (nI (4 + c))] [lanO h p ri A.1 hp pts pc wts tps reason cause B.1 ti, stOv A v, rw1 E.2.2 A v, rw2 E.2.2 A v, rw3 E.2.2 A v, pastO hp ma cnt, arrM E.2.2 ma ad, momsW ad M] (some (.int (cellAgoF M cnt (nI c) j (getR v.2.1 (nI c))))) [lanO h p ri A.1 hp pts pc wts tps reason cause B.1 ti, stOv A v, rw1 E.2.2 A v, rw2 E.2.2 A v, rw3 E.2.2 A v, pastO hp ma cnt, arrM E.2.2 ma ad, momsW ad M] := by
  refine Ct.of [some (.ref h), some (.int (nI j)), some (.int (nI (4 + c))), none] (by decide +kernel) rfl (Nat.le_of_ble_eq_true rfl) (fun F hE hF hR hN => ?_)
  subst hE
  refine g_iload_n hF dX8_then_0 rfl ?_
  refine g_if_lt (tgt := 15) hF dX8_then_1 (by decide) (fun c_1 => absurd c_1 (nI_pos (by omega))) (fun c_1 => ?_)
  refine g_iload_n hF dX8_then_4 rfl ?_
  refine g_aload_n hF dX8_then_5 rfl ?_
  refine g_get (j := 3) hF 0 rfl rfl (by decide) rfl m_250 rfl dX8_then_6 ?_
  refine g_callVq hF (c_Past_size) cal_X1_size rfl m_621 (by decide) (Or.inl rfl) (Nat.zero_le _) (Nat.zero_le _) 5 rfl rfl [5] rfl rfl rfl (Nat.le_of_ble_eq_true rfl) dX8_then_9 ?_
  refine g_icmp_le (tgt := 26) hF dX8_then_12 (by decide) (fun c_12 => ?_) (fun c_12 => absurd (nI_le (show j ≤ cnt by omega) (by omega)) c_12)
  refine g_iload_n hF dX8_then_26 rfl ?_
  refine g_if_lt (tgt := 36) hF dX8_then_27 (by decide) (fun c_27 => absurd c_27 (nI_pos (by omega))) (fun c_27 => ?_)
  refine g_iload_n hF dX8_then_30 rfl ?_
  refine g_bipush (v := (15)) hF dX8_then_31 rfl ?_
  refine g_icmp_le (tgt := 47) hF dX8_then_33 (by decide) (fun c_33 => ?_) (fun c_33 => absurd (nI_le (show 4 + c ≤ 15 by omega) (by decide)) c_33)
  refine g_iload_n hF dX8_then_47 rfl ?_
  refine g_iconst (v := (3)) hF dX8_then_48 rfl ?_
  refine g_icmp_le (tgt := 77) hF dX8_then_49 (by decide) (fun c_49 => absurd c_49 (nI_ge (show 3 < 4 + c by omega) (by omega))) (fun c_49 => ?_)
  refine g_aload_n hF dX8_then_52 rfl ?_
  refine g_get (j := 3) hF 0 rfl rfl (by decide) rfl m_250 rfl dX8_then_53 ?_
  refine g_iload_n hF dX8_then_56 rfl ?_
  refine g_iconst (v := (4)) hF dX8_then_57 rfl ?_
  refine g_isub hF dX8_then_58 ?_
  rw [show nI (4 + c) - 4 = nI c from by rw [show (4 : Int32) = nI 4 from rfl, pk_sub (show 4 ≤ 4 + c by omega), Nat.add_sub_cancel_left]]
  refine g_iload_n hF dX8_then_59 rfl ?_
  refine g_aload_n hF dX8_then_60 rfl ?_
  refine g_get (j := 2) hF 0 rfl rfl (by decide) rfl m_249 rfl dX8_then_61 ?_
  refine g_getN (j := 1) hF 1 rfl rfl (by decide) rfl m_77 rfl dX8_then_64 ?_
  refine g_iload_n hF dX8_then_67 rfl ?_
  refine g_iconst (v := (4)) hF dX8_then_68 rfl ?_
  refine g_isub hF dX8_then_69 ?_
  rw [show nI (4 + c) - 4 = nI c from by rw [show (4 : Int32) = nI 4 from rfl, pk_sub (show 4 ≤ 4 + c by omega), Nat.add_sub_cancel_left]]
  refine g_callVq hF (c_Row_get (by first | omega | exact clampI_le | (split <;> omega)) (by omega)) cal_X4_get rfl m_654 (by decide) (Or.inl rfl) (Nat.zero_le _) (Nat.zero_le _) 3 rfl rfl [3] rfl rfl rfl (Nat.le_of_ble_eq_true rfl) dX8_then_70 ?_
  refine g_callVq hF (c_Past_cellAgo (g := j) (by omega) (by omega)) cal_X1_cellAgo rfl m_681 (by decide) (Or.inl rfl) (Nat.zero_le _) (Nat.zero_le _) 5 rfl rfl [5, 6, 7] rfl rfl rfl (Nat.le_of_ble_eq_true rfl) dX8_then_73 ?_
  exact g_iret hF hR dX8_then_76 ⟨rfl, rfl⟩
set_option maxHeartbeats 4000000 in
set_option maxRecDepth 100000 in
theorem c_record {E : Env3} {h p ri hp pts wts tps ti ai ni ma cnt rs rj as ns aj nj : Nat} {A : AV} {B : AV} {v : SV} {ad : Nat → Nat} {tp : Nat → Nat} {fi : Nat → Int32} {fs : Nat → Int32} {fj : Nat → Int32} {M : Nat → Nat → Int32} {reason : Int32} {cause : Int32} {pc : Int32} {rec' : Bool} (hck : v.2.2.2.2.2.2.2 = nI cnt) (hc : cnt ≤ 200) (hni : ni ≤ 20) (hns : ns ≤ 200) (hnj : nj ≤ 20)  : Cd E none 3 yX8_record cX8_record 3 (some .int) [.ref h, .int 1] [lanO h p ri A.1 hp pts pc wts tps reason cause B.1 ti, rowW E.2.2 ri ai 20 fi ni, stOv A v, pastO hp ma cnt, arrM E.2.2 ma ad, momsW ad M, tpsA E.2.2 tps tp, tapeO (tp 1) rs rj rec', rowW E.2.2 rs as 200 fs ns, rowW E.2.2 rj aj 20 fj nj] (some (.int (nI cnt))) [lanO h p ri A.1 hp pts pc wts tps reason cause B.1 ti, rowW E.2.2 ri ai 20 fi ni, stOv A v, pastO hp ma cnt, arrM E.2.2 ma ad, momsW ad M, tpsA E.2.2 tps tp, tapeO (tp 1) rs rj true, rowW E.2.2 rs as 200 (stepsF M fs cnt) cnt, rowW E.2.2 rj aj 20 (va_cpy fi fj 0 0 (min ni 20)) (min ni 20)] := by
  refine Ct.of [some (.ref h), some (.int 1), none] (by decide +kernel) rfl (Nat.le_of_ble_eq_true rfl) (fun F hE hF hR hN => ?_)
  subst hE
  refine g_aload_n hF dX8_record_0 rfl ?_
  refine g_iload_n hF dX8_record_1 rfl ?_
  refine g_callVq hF (c_tapeAt) cal_X8_tapeAt rfl m_706 (by decide) (Or.inl rfl) (Nat.zero_le _) (Nat.zero_le _) 0 rfl rfl [0, 6] rfl rfl rfl (Nat.le_of_ble_eq_true rfl) dX8_record_2 ?_
  refine g_astore_n hF dX8_record_5 (Nat.le_of_ble_eq_true rfl) rfl ?_
  refine g_aload_n hF dX8_record_6 rfl ?_
  refine g_ifnonnull (tgt := 21) hF dX8_record_7 (by decide) ?_
  refine g_aload_n hF dX8_record_21 rfl ?_
  refine g_callVq hF (c_beginsAtStart (by assumption)) cal_X8_beginsAtStart rfl m_711 (by decide) (Or.inl rfl) (Nat.zero_le _) (Nat.zero_le _) 0 rfl rfl [0, 2, 3] rfl rfl rfl (Nat.le_of_ble_eq_true rfl) dX8_record_22 ?_
  refine g_if_ne (tgt := 39) hF dX8_record_25 (by decide) (fun c_25 => ?_) (fun c_25 => absurd c_25 (by decide))
  refine g_aload_n hF dX8_record_39 rfl ?_
  refine g_iconst (v := (1)) hF dX8_record_40 rfl ?_
  refine g_putN (j := 2) hF 7 rfl rfl (by decide) rfl m_239 rfl (tyX6_ok 2 (by decide)) rfl rfl (Nat.le_of_ble_eq_true rfl) dX8_record_41 ?_
  try dsimp only [gput, gputA, List.set, stGs, List.cons_append, List.nil_append]
  refine g_aload_n hF dX8_record_44 rfl ?_
  refine g_getN (j := 1) hF 7 rfl rfl (by decide) rfl m_238 rfl dX8_record_45 ?_
  refine g_aload_n hF dX8_record_48 rfl ?_
  refine g_get (j := 1) hF 0 rfl rfl (by decide) rfl m_248 rfl dX8_record_49 ?_
  refine g_callVd hF (c_Row_copyFrom (by omega) (by omega) (by omega) (by omega)) cal_X4_copyFrom rfl m_716 (by decide) (Or.inl rfl) (Nat.zero_le _) (Nat.zero_le _) 9 rfl rfl [9, 1] rfl rfl (Nat.le_of_ble_eq_true rfl) rfl (Nat.le_of_ble_eq_true rfl) dX8_record_52 ?_
  try dsimp only [gput, gputA, List.set, stGs, List.cons_append, List.nil_append]
  refine g_aload_n hF dX8_record_55 rfl ?_
  refine g_get (j := 3) hF 0 rfl rfl (by decide) rfl m_250 rfl dX8_record_56 ?_
  refine g_aload_n hF dX8_record_59 rfl ?_
  refine g_getN (j := 0) hF 7 rfl rfl (by decide) rfl m_236 rfl dX8_record_60 ?_
  refine g_callVd hF (c_Past_writeSteps (by omega)) cal_X1_writeSteps rfl m_724 (by decide) (Or.inl rfl) (Nat.zero_le _) (Nat.zero_le _) 3 rfl rfl [3, 4, 5, 8] rfl rfl (Nat.le_of_ble_eq_true rfl) rfl (Nat.le_of_ble_eq_true rfl) dX8_record_63 ?_
  try dsimp only [gput, gputA, List.set, stGs, List.cons_append, List.nil_append]
  refine g_aload_n hF dX8_record_66 rfl ?_
  refine g_getN (j := 0) hF 7 rfl rfl (by decide) rfl m_236 rfl dX8_record_67 ?_
  refine g_callVq hF (c_Row_size) cal_X4_size rfl m_367 (by decide) (Or.inl rfl) (Nat.zero_le _) (Nat.zero_le _) 8 rfl rfl [8] rfl rfl rfl (Nat.le_of_ble_eq_true rfl) dX8_record_70 ?_
  exact g_iret hF hR dX8_record_73 ⟨rfl, rfl⟩
set_option maxHeartbeats 4000000 in
set_option maxRecDepth 100000 in
theorem c_parts {E : Env3} {h p ri hp pts wts tps ti ma cnt rs rj as : Nat} {A : AV} {B : AV} {v : SV} {ad : Nat → Nat} {tp : Nat → Nat} {fs : Nat → Int32} {M : Nat → Nat → Int32} {reason : Int32} {cause : Int32} {pc : Int32} (hck : v.2.2.2.2.2.2.2 = nI cnt) (hc : cnt ≤ 200) (hsame : ∀ i, i < cnt → fs i = M i 0)  : Cd E none 3 yX8_parts cX8_parts 3 (some .int) [.ref h, .int 1] [lanO h p ri A.1 hp pts pc wts tps reason cause B.1 ti, stOv A v, pastO hp ma cnt, arrM E.2.2 ma ad, momsW ad M, tpsA E.2.2 tps tp, tapeO (tp 1) rs rj true, rowW E.2.2 rs as 200 fs cnt] (some (.int (-1))) [lanO h p ri A.1 hp pts pc wts tps reason cause B.1 ti, stOv A v, pastO hp ma cnt, arrM E.2.2 ma ad, momsW ad M, tpsA E.2.2 tps tp, tapeO (tp 1) rs rj true, rowW E.2.2 rs as 200 fs cnt] := by
  refine Ct.of [some (.ref h), some (.int 1), none] (by decide +kernel) rfl (Nat.le_of_ble_eq_true rfl) (fun F hE hF hR hN => ?_)
  subst hE
  refine g_aload_n hF dX8_parts_0 rfl ?_
  refine g_iload_n hF dX8_parts_1 rfl ?_
  refine g_callVq hF (c_tapeAt) cal_X8_tapeAt rfl m_706 (by decide) (Or.inl rfl) (Nat.zero_le _) (Nat.zero_le _) 0 rfl rfl [0, 5] rfl rfl rfl (Nat.le_of_ble_eq_true rfl) dX8_parts_2 ?_
  refine g_astore_n hF dX8_parts_5 (Nat.le_of_ble_eq_true rfl) rfl ?_
  refine g_aload_n hF dX8_parts_6 rfl ?_
  refine g_ifnonnull (tgt := 21) hF dX8_parts_7 (by decide) ?_
  refine g_aload_n hF dX8_parts_21 rfl ?_
  refine g_getN (j := 2) hF 6 rfl rfl (by decide) rfl m_239 rfl dX8_parts_22 ?_
  refine g_if_eq (tgt := 35) hF dX8_parts_25 (by decide) (fun c_25 => absurd c_25 (by decide)) (fun c_25 => ?_)
  refine g_aload_n hF dX8_parts_28 rfl ?_
  refine g_callVq hF (c_beginsAtStart (by assumption)) cal_X8_beginsAtStart rfl m_711 (by decide) (Or.inl rfl) (Nat.zero_le _) (Nat.zero_le _) 0 rfl rfl [0, 1, 2] rfl rfl rfl (Nat.le_of_ble_eq_true rfl) dX8_parts_29 ?_
  refine g_if_ne (tgt := 46) hF dX8_parts_32 (by decide) (fun c_32 => ?_) (fun c_32 => absurd c_32 (by decide))
  refine g_aload_n hF dX8_parts_46 rfl ?_
  refine g_get (j := 3) hF 0 rfl rfl (by decide) rfl m_250 rfl dX8_parts_47 ?_
  refine g_aload_n hF dX8_parts_50 rfl ?_
  refine g_getN (j := 0) hF 6 rfl rfl (by decide) rfl m_236 rfl dX8_parts_51 ?_
  refine g_callVq hF (c_Past_firstOther (by omega) hsame) cal_X1_firstOther rfl m_744 (by decide) (Or.inl rfl) (Nat.zero_le _) (Nat.zero_le _) 2 rfl rfl [2, 3, 4, 7] rfl rfl rfl (Nat.le_of_ble_eq_true rfl) dX8_parts_54 ?_
  exact g_iret hF hR dX8_parts_57 ⟨rfl, rfl⟩
set_option maxHeartbeats 4000000 in
set_option maxRecDepth 100000 in
theorem c_start {E : Env3} {h p ri hp pts wts tps ti rc rn rt at0 np ma cnt : Nat} {A : AV} {B : AV} {v : SV} {ft : Nat → Int32} {reason : Int32} {cause : Int32} {pc : Int32} (hv : okS v) (hnp : np ≤ 80)  : Cd E none 3 yX8_start cX8_start 1 none [.ref h] [lanO h p ri A.1 hp pts pc wts tps reason cause B.1 ti, progO p rc rn rt, rowW E.2.2 rt at0 80 ft np, stOv A v, rw1 E.2.2 A v, rw2 E.2.2 A v, rw3 E.2.2 A v, rw4 E.2.2 A v, pastO hp ma cnt] none [lanO h p ri A.1 hp pts pc wts tps 0 (-1) B.1 ti, progO p rc rn rt, rowW E.2.2 rt at0 80 (zeroTo ft np) np, stOv A (clearF v), rw1 E.2.2 A (clearF v), rw2 E.2.2 A (clearF v), rw3 E.2.2 A (clearF v), rw4 E.2.2 A (clearF v), pastO hp ma 0] := by
  refine Ct.of [some (.ref h)] (by decide +kernel) rfl (Nat.le_of_ble_eq_true rfl) (fun F hE hF hR hN => ?_)
  subst hE
  refine g_aload_n hF dX8_start_0 rfl ?_
  refine g_get (j := 2) hF 0 rfl rfl (by decide) rfl m_249 rfl dX8_start_1 ?_
  refine g_callVd hF (c_S_clear (by first | assumption | exact okS_ready (by assumption) | exact okS_perf (okS_ready (by assumption)) | exact okS_perf (by assumption) | exact okS_copy | exact okS_clear | exact okS_back (by assumption))) cal_X5_clear rfl m_379 (by decide) (Or.inl rfl) (Nat.zero_le _) (Nat.zero_le _) 3 rfl rfl [3, 4, 5, 6, 7] rfl rfl (Nat.le_of_ble_eq_true rfl) rfl (Nat.le_of_ble_eq_true rfl) dX8_start_4 ?_
  try dsimp only [gput, gputA, List.set, stGs, List.cons_append, List.nil_append]
  refine g_aload_n hF dX8_start_7 rfl ?_
  refine g_get (j := 3) hF 0 rfl rfl (by decide) rfl m_250 rfl dX8_start_8 ?_
  refine g_callVd hF (c_Past_clear) cal_X1_clear rfl m_390 (by decide) (Or.inl rfl) (Nat.zero_le _) (Nat.zero_le _) 8 rfl rfl [8] rfl rfl (Nat.le_of_ble_eq_true rfl) rfl (Nat.le_of_ble_eq_true rfl) dX8_start_11 ?_
  try dsimp only [gput, gputA, List.set, stGs, List.cons_append, List.nil_append]
  refine g_aload_n hF dX8_start_14 rfl ?_
  refine g_get (j := 0) hF 0 rfl rfl (by decide) rfl m_247 rfl dX8_start_15 ?_
  refine g_callVd hF (c_Prog_forgetTimes (by omega)) cal_X3_forgetTimes rfl m_394 (by decide) (Or.inl rfl) (Nat.zero_le _) (Nat.zero_le _) 1 rfl rfl [1, 2] rfl rfl (Nat.le_of_ble_eq_true rfl) rfl (Nat.le_of_ble_eq_true rfl) dX8_start_18 ?_
  try dsimp only [gput, gputA, List.set, stGs, List.cons_append, List.nil_append]
  refine g_aload_n hF dX8_start_21 rfl ?_
  refine g_iconst (v := (0)) hF dX8_start_22 rfl ?_
  refine g_iconst (v := (-1)) hF dX8_start_23 rfl ?_
  refine g_callVd hF (c_stopBy) cal_X8_stopBy rfl m_403 (by decide) (Or.inl rfl) (Nat.zero_le _) (Nat.zero_le _) 0 rfl rfl [0] rfl rfl (Nat.le_of_ble_eq_true rfl) rfl (Nat.le_of_ble_eq_true rfl) dX8_start_24 ?_
  try dsimp only [gput, gputA, List.set, stGs, List.cons_append, List.nil_append]
  exact g_vret hF hR dX8_start_27 ⟨rfl, rfl⟩
set_option maxHeartbeats 4000000 in
set_option maxRecDepth 100000 in
theorem c_restart {E : Env3} {h p ri hp pts wts tps ti rc rn rt ac at0 np ma cnt : Nat} {A : AV} {B : AV} {v : SV} {fc : Nat → Int32} {ft : Nat → Int32} {reason : Int32} {cause : Int32} {pc : Int32} (hv : okS v) (hnp : np ≤ 80)  : Cd E none 4 yX8_restart cX8_restart 1 (some .int) [.ref h] [lanO h p ri A.1 hp pts pc wts tps reason cause B.1 ti, progO p rc rn rt, rowW E.2.2 rt at0 80 ft np, stOv A v, rw1 E.2.2 A v, rw2 E.2.2 A v, rw3 E.2.2 A v, rw4 E.2.2 A v, pastO hp ma cnt, rowW E.2.2 rc ac 80 fc np] (some (.int (nI np))) [lanO h p ri A.1 hp pts pc wts tps 0 (-1) B.1 ti, progO p rc rn rt, rowW E.2.2 rt at0 80 (zeroTo ft np) np, stOv A (clearF v), rw1 E.2.2 A (clearF v), rw2 E.2.2 A (clearF v), rw3 E.2.2 A (clearF v), rw4 E.2.2 A (clearF v), pastO hp ma 0, rowW E.2.2 rc ac 80 fc np] := by
  refine Ct.of [some (.ref h)] (by decide +kernel) rfl (Nat.le_of_ble_eq_true rfl) (fun F hE hF hR hN => ?_)
  subst hE
  refine g_aload_n hF dX8_restart_0 rfl ?_
  refine g_callVd hF (c_start (by assumption) (by assumption)) cal_X8_start rfl m_375 (by decide) (Or.inl rfl) (Nat.zero_le _) (Nat.zero_le _) 0 rfl rfl [0, 1, 2, 3, 4, 5, 6, 7, 8] rfl rfl (Nat.le_of_ble_eq_true rfl) rfl (Nat.le_of_ble_eq_true rfl) dX8_restart_1 ?_
  try dsimp only [gput, gputA, List.set, stGs, List.cons_append, List.nil_append]
  refine g_aload_n hF dX8_restart_4 rfl ?_
  refine g_get (j := 0) hF 0 rfl rfl (by decide) rfl m_247 rfl dX8_restart_5 ?_
  refine g_callVq hF (c_Prog_size) cal_X3_size rfl m_407 (by decide) (Or.inl rfl) (Nat.zero_le _) (Nat.zero_le _) 1 rfl rfl [1, 9] rfl rfl rfl (Nat.le_of_ble_eq_true rfl) dX8_restart_8 ?_
  exact g_iret hF hR dX8_restart_11 ⟨rfl, rfl⟩
set_option maxHeartbeats 4000000 in
set_option maxRecDepth 100000 in
theorem c_replay {E : Env3} {h p ri hp pts wts tps ti rc rn rt ac an at0 np ai ni ma cnt rs rj as ns aj nj : Nat} {A : AV} {B : AV} {v : SV} {ad : Nat → Nat} {tp : Nat → Nat} {fc : Nat → Int32} {fn : Nat → Int32} {ft : Nat → Int32} {fi : Nat → Int32} {fs : Nat → Int32} {fj : Nat → Int32} {M : Nat → Nat → Int32} {reason : Int32} {cause : Int32} {pc : Int32} (hv : okS v) (hnp : np ≤ 80) (hni : ni ≤ 20) (hns : ns ≤ 200) (hnj : nj ≤ 20)  : Cd E none 5 yX8_replay cX8_replay 4 (some .int) [.ref h, .int 1] [lanO h p ri A.1 hp pts pc wts tps reason cause B.1 ti, progO p rc rn rt, rowW E.2.2 rc ac 80 fc np, rowW E.2.2 rn an 80 fn np, rowW E.2.2 rt at0 80 ft np, rowW E.2.2 ri ai 20 fi ni, stOv A v, rw1 E.2.2 A v, rw2 E.2.2 A v, rw3 E.2.2 A v, rw4 E.2.2 A v, pastO hp ma cnt, arrM E.2.2 ma ad, momsW ad M, tpsA E.2.2 tps tp, tapeO (tp 1) rs rj true, rowW E.2.2 rs as 200 fs ns, rowW E.2.2 rj aj 20 fj nj] (some (.int (nI (playR (fc, np) (fn, np) (va_cpy fj fi 0 0 (min nj 20), min nj 20) ns (zeroTo ft np, clearF v, 0, M)).1))) [lanO h p ri A.1 hp pts pc wts tps 8 (-1) B.1 ti, progO p rc rn rt, rowW E.2.2 rc ac 80 fc np, rowW E.2.2 rn an 80 fn np, rowW E.2.2 rt at0 80 (playR (fc, np) (fn, np) (va_cpy fj fi 0 0 (min nj 20), min nj 20) ns (zeroTo ft np, clearF v, 0, M)).2.1 np, rowW E.2.2 ri ai 20 (va_cpy fj fi 0 0 (min nj 20), min nj 20).1 (va_cpy fj fi 0 0 (min nj 20), min nj 20).2, stOv A ((playR (fc, np) (fn, np) (va_cpy fj fi 0 0 (min nj 20), min nj 20) ns (zeroTo ft np, clearF v, 0, M)).2.2.1), rw1 E.2.2 A ((playR (fc, np) (fn, np) (va_cpy fj fi 0 0 (min nj 20), min nj 20) ns (zeroTo ft np, clearF v, 0, M)).2.2.1), rw2 E.2.2 A ((playR (fc, np) (fn, np) (va_cpy fj fi 0 0 (min nj 20), min nj 20) ns (zeroTo ft np, clearF v, 0, M)).2.2.1), rw3 E.2.2 A ((playR (fc, np) (fn, np) (va_cpy fj fi 0 0 (min nj 20), min nj 20) ns (zeroTo ft np, clearF v, 0, M)).2.2.1), rw4 E.2.2 A ((playR (fc, np) (fn, np) (va_cpy fj fi 0 0 (min nj 20), min nj 20) ns (zeroTo ft np, clearF v, 0, M)).2.2.1), pastO hp ma (playR (fc, np) (fn, np) (va_cpy fj fi 0 0 (min nj 20), min nj 20) ns (zeroTo ft np, clearF v, 0, M)).2.2.2.1, arrM E.2.2 ma ad, momsW ad (playR (fc, np) (fn, np) (va_cpy fj fi 0 0 (min nj 20), min nj 20) ns (zeroTo ft np, clearF v, 0, M)).2.2.2.2, tpsA E.2.2 tps tp, tapeO (tp 1) rs rj true, rowW E.2.2 rs as 200 fs ns, rowW E.2.2 rj aj 20 fj nj] := by
  refine Ct.of [some (.ref h), some (.int 1), none, none] (by decide +kernel) rfl (Nat.le_of_ble_eq_true rfl) (fun F hE hF hR hN => ?_)
  subst hE
  generalize hE : playR (fc, np) (fn, np) (va_cpy fj fi 0 0 (min nj 20), min nj 20) ns (zeroTo ft np, clearF v, 0, M) = Z at hR
  have hni2 : min nj 20 ≤ 20 := Nat.min_le_right _ _
  have loop : ∀ (r i : Nat) (ft : Nat → Int32) (v : SV) (cnt : Nat) (M : Nat → Nat → Int32), i + r = ns → okS v → cnt + r ≤ 200 → (i + (playR (fc, np) (fn, np) (va_cpy fj fi 0 0 (min nj 20), min nj 20) r (ft, v, cnt, M)).1, (playR (fc, np) (fn, np) (va_cpy fj fi 0 0 (min nj 20), min nj 20) r (ft, v, cnt, M)).2) = Z → G F 0 0 [lanO h p ri A.1 hp pts pc wts tps 0 (-1) B.1 ti, progO p rc rn rt, rowW F.1.2.2 rc ac 80 fc np, rowW F.1.2.2 rn an 80 fn np, rowW F.1.2.2 rt at0 80 ft np, rowW F.1.2.2 ri ai 20 (va_cpy fj fi 0 0 (min nj 20), min nj 20).1 (va_cpy fj fi 0 0 (min nj 20), min nj 20).2, stOv A v, rw1 F.1.2.2 A v, rw2 F.1.2.2 A v, rw3 F.1.2.2 A v, rw4 F.1.2.2 A v, pastO hp ma cnt, arrM F.1.2.2 ma ad, momsW ad M, tpsA F.1.2.2 tps tp, tapeO (tp 1) rs rj true, rowW F.1.2.2 rs as 200 fs ns, rowW F.1.2.2 rj aj 20 fj nj] 56 [some (.ref h), some (.int 1), some (.ref (tp 1)), some (.int (nI i))] [] := by
    intro r
    induction r with
    | zero =>
      intro i ft v cnt M hi hv hcn hZ
      refine g_iload_n hF dX8_replay_56 rfl ?_
      refine g_aload_n hF dX8_replay_57 rfl ?_
      refine g_getN (j := 0) hF 15 rfl rfl (by decide) rfl m_236 rfl dX8_replay_58 ?_
      refine g_callVq hF (c_Row_size) cal_X4_size rfl m_367 (by decide) (Or.inl rfl) (Nat.zero_le _) (Nat.zero_le _) 16 rfl rfl [16] rfl rfl rfl (Nat.le_of_ble_eq_true rfl) dX8_replay_61 ?_
      refine g_icmp_ge (tgt := 80) hF dX8_replay_64 (by decide) (fun c_64 => ?_) (fun c_64 => absurd (nI_le (show ns ≤ i by omega) (by omega)) c_64)
      refine g_aload_n hF dX8_replay_80 rfl ?_
      refine g_bipush (v := (8)) hF dX8_replay_81 rfl ?_
      refine g_iconst (v := (-1)) hF dX8_replay_83 rfl ?_
      refine g_callVd hF (c_stopBy) cal_X8_stopBy rfl m_403 (by decide) (Or.inl rfl) (Nat.zero_le _) (Nat.zero_le _) 0 rfl rfl [0] rfl rfl (Nat.le_of_ble_eq_true rfl) rfl (Nat.le_of_ble_eq_true rfl) dX8_replay_84 ?_
      try dsimp only [gput, gputA, List.set, stGs, List.cons_append, List.nil_append]
      refine g_iload_n hF dX8_replay_87 rfl ?_
      subst hZ
      exact g_iret hF hR dX8_replay_88 ⟨rfl, rfl⟩
    | succ r ih =>
      intro i ft v cnt M hi hv hcn hZ
      by_cases hr : (readyF (fc, np) v).2.2.2.2.2.1 = 0
      · refine g_iload_n hF dX8_replay_56 rfl ?_
        refine g_aload_n hF dX8_replay_57 rfl ?_
        refine g_getN (j := 0) hF 15 rfl rfl (by decide) rfl m_236 rfl dX8_replay_58 ?_
        refine g_callVq hF (c_Row_size) cal_X4_size rfl m_367 (by decide) (Or.inl rfl) (Nat.zero_le _) (Nat.zero_le _) 16 rfl rfl [16] rfl rfl rfl (Nat.le_of_ble_eq_true rfl) dX8_replay_61 ?_
        refine g_icmp_ge (tgt := 80) hF dX8_replay_64 (by decide) (fun c_64 => absurd c_64 (nI_ge (show i < ns by omega) (by omega))) (fun c_64 => ?_)
        refine g_aload_n hF dX8_replay_67 rfl ?_
        refine g_callVd hF (c_doStep_yes (by assumption) (by assumption) (by assumption) (by omega) hr) cal_X8_doStep rfl m_451 (by decide) (Or.inl rfl) (Nat.zero_le _) (Nat.zero_le _) 0 rfl rfl [0, 1, 2, 3, 4, 5, 6, 7, 8, 9, 10, 11, 12, 13] rfl rfl (Nat.le_of_ble_eq_true rfl) rfl (Nat.le_of_ble_eq_true rfl) dX8_replay_68 ?_
        try dsimp only [gput, gputA, List.set, stGs, List.cons_append, List.nil_append]
        refine g_if_eq (tgt := 80) hF dX8_replay_71 (by decide) (fun c_71 => absurd c_71 (by decide)) (fun c_71 => ?_)
        refine g_iinc (v := nI (i + 1)) hF dX8_replay_74 rfl (nI_1 i) rfl ?_
        refine g_goto (tgt := 56) hF dX8_replay_77 (by decide) ?_
        refine ih (i + 1) _ _ _ _ (by omega) (okS_perf (okS_ready hv)) (by show cnt + 1 + r ≤ 200; omega) ?_
        rw [← hZ, playR_go hr]
        exact Prod.ext (Nat.add_right_comm i 1 _) rfl
      · refine g_iload_n hF dX8_replay_56 rfl ?_
        refine g_aload_n hF dX8_replay_57 rfl ?_
        refine g_getN (j := 0) hF 15 rfl rfl (by decide) rfl m_236 rfl dX8_replay_58 ?_
        refine g_callVq hF (c_Row_size) cal_X4_size rfl m_367 (by decide) (Or.inl rfl) (Nat.zero_le _) (Nat.zero_le _) 16 rfl rfl [16] rfl rfl rfl (Nat.le_of_ble_eq_true rfl) dX8_replay_61 ?_
        refine g_icmp_ge (tgt := 80) hF dX8_replay_64 (by decide) (fun c_64 => absurd c_64 (nI_ge (show i < ns by omega) (by omega))) (fun c_64 => ?_)
        refine g_aload_n hF dX8_replay_67 rfl ?_
        refine g_callVd hF (c_doStep_no (by assumption) (by assumption) (by assumption) hr) cal_X8_doStep rfl m_451 (by decide) (Or.inl rfl) (Nat.zero_le _) (Nat.zero_le _) 0 rfl rfl [0, 1, 2, 3, 4, 5, 6, 7, 8, 9, 10, 11, 12, 13] rfl rfl (Nat.le_of_ble_eq_true rfl) rfl (Nat.le_of_ble_eq_true rfl) dX8_replay_68 ?_
        try dsimp only [gput, gputA, List.set, stGs, List.cons_append, List.nil_append]
        refine g_if_eq (tgt := 80) hF dX8_replay_71 (by decide) (fun c_71 => ?_) (fun c_71 => absurd rfl c_71)
        refine g_aload_n hF dX8_replay_80 rfl ?_
        refine g_bipush (v := (8)) hF dX8_replay_81 rfl ?_
        refine g_iconst (v := (-1)) hF dX8_replay_83 rfl ?_
        refine g_callVd hF (c_stopBy) cal_X8_stopBy rfl m_403 (by decide) (Or.inl rfl) (Nat.zero_le _) (Nat.zero_le _) 0 rfl rfl [0] rfl rfl (Nat.le_of_ble_eq_true rfl) rfl (Nat.le_of_ble_eq_true rfl) dX8_replay_84 ?_
        try dsimp only [gput, gputA, List.set, stGs, List.cons_append, List.nil_append]
        refine g_iload_n hF dX8_replay_87 rfl ?_
        rw [playR_stop hr] at hZ
        subst hZ
        exact g_iret hF hR dX8_replay_88 ⟨rfl, rfl⟩
  refine g_aload_n hF dX8_replay_0 rfl ?_
  refine g_iload_n hF dX8_replay_1 rfl ?_
  refine g_callVq hF (c_tapeAt) cal_X8_tapeAt rfl m_706 (by decide) (Or.inl rfl) (Nat.zero_le _) (Nat.zero_le _) 0 rfl rfl [0, 14] rfl rfl rfl (Nat.le_of_ble_eq_true rfl) dX8_replay_2 ?_
  refine g_astore_n hF dX8_replay_5 (Nat.le_of_ble_eq_true rfl) rfl ?_
  refine g_aload_n hF dX8_replay_6 rfl ?_
  refine g_ifnonnull (tgt := 21) hF dX8_replay_7 (by decide) ?_
  refine g_aload_n hF dX8_replay_21 rfl ?_
  refine g_getN (j := 2) hF 15 rfl rfl (by decide) rfl m_239 rfl dX8_replay_22 ?_
  refine g_if_ne (tgt := 39) hF dX8_replay_25 (by decide) (fun c_25 => ?_) (fun c_25 => absurd c_25 (by decide))
  refine g_aload_n hF dX8_replay_39 rfl ?_
  refine g_get (j := 1) hF 0 rfl rfl (by decide) rfl m_248 rfl dX8_replay_40 ?_
  refine g_aload_n hF dX8_replay_43 rfl ?_
  refine g_getN (j := 1) hF 15 rfl rfl (by decide) rfl m_238 rfl dX8_replay_44 ?_
  refine g_callVd hF (c_Row_copyFrom (by omega) (by omega) (by omega) (by omega)) cal_X4_copyFrom rfl m_716 (by decide) (Or.inl rfl) (Nat.zero_le _) (Nat.zero_le _) 5 rfl rfl [5, 17] rfl rfl (Nat.le_of_ble_eq_true rfl) rfl (Nat.le_of_ble_eq_true rfl) dX8_replay_47 ?_
  try dsimp only [gput, gputA, List.set, stGs, List.cons_append, List.nil_append]
  refine g_aload_n hF dX8_replay_50 rfl ?_
  refine g_callVd hF (c_start (by assumption) (by assumption)) cal_X8_start rfl m_375 (by decide) (Or.inl rfl) (Nat.zero_le _) (Nat.zero_le _) 0 rfl rfl [0, 1, 4, 6, 7, 8, 9, 10, 11] rfl rfl (Nat.le_of_ble_eq_true rfl) rfl (Nat.le_of_ble_eq_true rfl) dX8_replay_51 ?_
  try dsimp only [gput, gputA, List.set, stGs, List.cons_append, List.nil_append]
  refine g_iconst (v := (0)) hF dX8_replay_54 rfl ?_
  refine g_istore_n hF dX8_replay_55 (Nat.le_of_ble_eq_true rfl) rfl ?_
  exact loop ns 0 _ _ _ _ (by omega) okS_clear (by omega) (by rw [Nat.zero_add]; exact hE)
set_option maxHeartbeats 4000000 in
set_option maxRecDepth 100000 in
theorem c_give {E : Env3} {h p ri hp pts wts tps ti ai ni : Nat} {A : AV} {B : AV} {fi : Nat → Int32} {reason : Int32} {cause : Int32} {pc : Int32} {x : Int32} (hni : ni < 20)  : Cd E none 1 yX8_give cX8_give 2 (some .int) [.ref h, .int x] [lanO h p ri A.1 hp pts pc wts tps reason cause B.1 ti, rowW E.2.2 ri ai 20 fi ni] (some (.int (nI (ni + 1)))) [lanO h p ri A.1 hp pts pc wts tps reason cause B.1 ti, rowW E.2.2 ri ai 20 (upd fi ni x) (ni + 1)] := by
  refine Ct.of [some (.ref h), some (.int x)] (by decide +kernel) rfl (Nat.le_of_ble_eq_true rfl) (fun F hE hF hR hN => ?_)
  subst hE
  refine g_aload_n hF dX8_give_0 rfl ?_
  refine g_get (j := 1) hF 0 rfl rfl (by decide) rfl m_248 rfl dX8_give_1 ?_
  refine g_callVq hF (c_Row_isFull (by first | omega | exact clampI_le | (split <;> omega)) (by omega)) cal_X4_isFull rfl m_291 (by decide) (Or.inl rfl) (Nat.zero_le _) (Nat.zero_le _) 1 rfl rfl [1] rfl rfl rfl (Nat.le_of_ble_eq_true rfl) dX8_give_4 ?_
  refine g_if_eq (tgt := 20) hF dX8_give_7 (by decide) (fun c_7 => ?_) (fun c_7 => absurd (bI_0.mpr (decide_eq_false (by omega))) c_7)
  refine g_aload_n hF dX8_give_20 rfl ?_
  refine g_get (j := 1) hF 0 rfl rfl (by decide) rfl m_248 rfl dX8_give_21 ?_
  refine g_iload_n hF dX8_give_24 rfl ?_
  refine g_callVd hF (c_Row_push (by first | omega | exact clampI_le | (split <;> omega)) (by omega)) cal_X4_push rfl m_363 (by decide) (Or.inl rfl) (Nat.zero_le _) (Nat.zero_le _) 1 rfl rfl [1] rfl rfl (Nat.le_of_ble_eq_true rfl) rfl (Nat.le_of_ble_eq_true rfl) dX8_give_25 ?_
  try dsimp only [gput, gputA, List.set, stGs, List.cons_append, List.nil_append]
  rw [if_pos hni, if_pos hni]
  refine g_aload_n hF dX8_give_28 rfl ?_
  refine g_get (j := 1) hF 0 rfl rfl (by decide) rfl m_248 rfl dX8_give_29 ?_
  refine g_callVq hF (c_Row_size) cal_X4_size rfl m_367 (by decide) (Or.inl rfl) (Nat.zero_le _) (Nat.zero_le _) 1 rfl rfl [1] rfl rfl rfl (Nat.le_of_ble_eq_true rfl) dX8_give_32 ?_
  exact g_iret hF hR dX8_give_35 ⟨rfl, rfl⟩
set_option maxHeartbeats 4000000 in
set_option maxRecDepth 100000 in
theorem c_step {E : Env3} {h p ri hp pts wts tps ti rc rn rt ac an at0 np : Nat} {A : AV} {B : AV} {fc : Nat → Int32} {fn : Nat → Int32} {ft : Nat → Int32} {reason : Int32} {cause : Int32} {pc : Int32} {c x : Int32} (ha : progAllows c x = true) (hnp : np < 80)  : Cd E none 2 yX8_step cX8_step 3 (some .int) [.ref h, .int c, .int x] [lanO h p ri A.1 hp pts pc wts tps reason cause B.1 ti, progO p rc rn rt, rowW E.2.2 rc ac 80 fc np, rowW E.2.2 rn an 80 fn np, rowW E.2.2 rt at0 80 ft np] (some (.int (nI np))) [lanO h p ri A.1 hp pts pc wts tps reason cause B.1 ti, progO p rc rn rt, rowW E.2.2 rc ac 80 (upd fc np c) (np + 1), rowW E.2.2 rn an 80 (upd fn np x) (np + 1), rowW E.2.2 rt at0 80 (upd ft np 0) (np + 1)] := by
  refine Ct.of [some (.ref h), some (.int c), some (.int x)] (by decide +kernel) rfl (Nat.le_of_ble_eq_true rfl) (fun F hE hF hR hN => ?_)
  subst hE
  refine g_iload_n hF dX8_step_0 rfl ?_
  refine g_iload_n hF dX8_step_1 rfl ?_
  refine g_callSq hF (c_allows) cal_X3_allows rfl m_827 (by decide) (Or.inl rfl) (Nat.zero_le _) (Nat.zero_le _) [] rfl rfl rfl (Nat.le_of_ble_eq_true rfl) dX8_step_2 ?_
  refine g_if_ne (tgt := 18) hF dX8_step_5 (by decide) (fun c_5 => ?_) (fun c_5 => absurd c_5 (bI_n.mpr ha))
  refine g_aload_n hF dX8_step_18 rfl ?_
  refine g_get (j := 0) hF 0 rfl rfl (by decide) rfl m_247 rfl dX8_step_19 ?_
  refine g_callVq hF (c_Prog_isFull (by omega)) cal_X3_isFull rfl m_832 (by decide) (Or.inl rfl) (Nat.zero_le _) (Nat.zero_le _) 1 rfl rfl [1, 2] rfl rfl rfl (Nat.le_of_ble_eq_true rfl) dX8_step_22 ?_
  refine g_if_eq (tgt := 38) hF dX8_step_25 (by decide) (fun c_25 => ?_) (fun c_25 => absurd (bI_0.mpr (decide_eq_false (by omega))) c_25)
  refine g_aload_n hF dX8_step_38 rfl ?_
  refine g_get (j := 0) hF 0 rfl rfl (by decide) rfl m_247 rfl dX8_step_39 ?_
  refine g_iload_n hF dX8_step_42 rfl ?_
  refine g_iload_n hF dX8_step_43 rfl ?_
  refine g_callVd hF (c_Prog_add (by omega) (by omega) (by omega)) cal_X3_add rfl m_838 (by decide) (Or.inl rfl) (Nat.zero_le _) (Nat.zero_le _) 1 rfl rfl [1, 2, 3, 4] rfl rfl (Nat.le_of_ble_eq_true rfl) rfl (Nat.le_of_ble_eq_true rfl) dX8_step_44 ?_
  try dsimp only [gput, gputA, List.set, stGs, List.cons_append, List.nil_append]
  rw [if_pos hnp, if_pos hnp, if_pos hnp, if_pos hnp]
  refine g_aload_n hF dX8_step_47 rfl ?_
  refine g_get (j := 0) hF 0 rfl rfl (by decide) rfl m_247 rfl dX8_step_48 ?_
  refine g_callVq hF (c_Prog_size) cal_X3_size rfl m_407 (by decide) (Or.inl rfl) (Nat.zero_le _) (Nat.zero_le _) 1 rfl rfl [1, 2] rfl rfl rfl (Nat.le_of_ble_eq_true rfl) dX8_step_51 ?_
  refine g_iconst (v := (1)) hF dX8_step_54 rfl ?_
  refine g_isub hF dX8_step_55 ?_
  rw [nI_pred]
  exact g_iret hF hR dX8_step_56 ⟨rfl, rfl⟩
