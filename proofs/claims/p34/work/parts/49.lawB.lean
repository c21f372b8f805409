set_option maxHeartbeats 4000000 in
set_option maxRecDepth 100000 in
/-- the law, 416 to 524: the last steps of the past -/
theorem pD {F : Fix} {kM nM k0 n0 : Nat} {b h p ri hp pts wts tps ti rc rn rt ac an at0 np ai ni ma rs rj as ns aj nj qo qc cnt : Nat} {A B : AV} {ad ap tp aq : Nat → Nat} {fc fn fi fs fj ft : Nat → Int32} {v w : SV} {M : Nat → Nat → Int32} {r : Int32} {rec' : Bool} {i : Nat} (hF : Ok F cL_law "LanternLaw" 7 kM nM) (hkM : k0 ≤ kM) (hnM : n0 ≤ nM) (hnp : np < 32) (hni : ni ≤ 20) (hal : Allow (fc, np) (fn, np)) (hw : okS w) (hI : Inv (fc, np) (fn, np) (fi, ni) initS (ft, v, cnt, M)) (hcn : cnt ≤ 200) (kk : ∀ w1 : SV, okS w1 → G F k0 n0 [lanO h p ri A.1 hp pts 0 wts tps r (-1) B.1 ti, progO p rc rn rt, rowW F.1.2.2 rc ac 80 fc np, rowW F.1.2.2 rn an 80 fn np, rowW F.1.2.2 rt at0 80 ft np, rowW F.1.2.2 ri ai 20 fi ni, stOv A v, rw1 F.1.2.2 A v, rw2 F.1.2.2 A v, rw3 F.1.2.2 A v, rw4 F.1.2.2 A v, pastO hp ma cnt, arrM F.1.2.2 ma ad, momsW ad M, stOv B w1, rw1 F.1.2.2 B w1, rw2 F.1.2.2 B w1, rw3 F.1.2.2 B w1, rw4 F.1.2.2 B w1, ptsA F.1.2.2 pts ap, poO (ap 0) 0 0 false 0 0 0 0, tpsA F.1.2.2 tps tp, tapeO (tp 1) rs rj rec', rowW F.1.2.2 rs as 200 fs ns, rowW F.1.2.2 rj aj 20 fj nj, [(qo, .inl (F.1.2.2 5, np, .inr (.inr (.inr (.inr (adF aq np))))))], [(qc, .inl (F.1.2.2 0, 29, .inl cdF))], pairsR F.1.2.2 aq fc fn np] 524 [some (.ref b), some (.ref h), some (.ref qo), none, some (.int (nI cnt)), some (.int (nI i)), none, none, none, none, none, none, none, none, none, none, none, none, some (.long (digF r (-1) cnt v M fc fn ft np (fi, ni))), none, none, none] []) : G F k0 n0 [lanO h p ri A.1 hp pts 0 wts tps r (-1) B.1 ti, progO p rc rn rt, rowW F.1.2.2 rc ac 80 fc np, rowW F.1.2.2 rn an 80 fn np, rowW F.1.2.2 rt at0 80 ft np, rowW F.1.2.2 ri ai 20 fi ni, stOv A v, rw1 F.1.2.2 A v, rw2 F.1.2.2 A v, rw3 F.1.2.2 A v, rw4 F.1.2.2 A v, pastO hp ma cnt, arrM F.1.2.2 ma ad, momsW ad M, stOv B w, rw1 F.1.2.2 B w, rw2 F.1.2.2 B w, rw3 F.1.2.2 B w, rw4 F.1.2.2 B w, ptsA F.1.2.2 pts ap, poO (ap 0) 0 0 false 0 0 0 0, tpsA F.1.2.2 tps tp, tapeO (tp 1) rs rj rec', rowW F.1.2.2 rs as 200 fs ns, rowW F.1.2.2 rj aj 20 fj nj, [(qo, .inl (F.1.2.2 5, np, .inr (.inr (.inr (.inr (adF aq np))))))], [(qc, .inl (F.1.2.2 0, 29, .inl cdF))], pairsR F.1.2.2 aq fc fn np] 416 [some (.ref b), some (.ref h), some (.ref qo), none, some (.int (nI cnt)), some (.int (nI i)), none, none, none, none, none, none, none, none, none, none, none, none, none, none, none, none] [] := by
  have hv : okS v := hI.1
  obtain ⟨w1, hw1, ew1⟩ : ∃ w1, okS w1 ∧ (tryF (fc, np) (fn, np) (fi, ni) 50 (copyF w v)).2 = w1 := ⟨_, okS_try 50 okS_copy, rfl⟩
  refine g_aload_n hF dL_law_416 rfl ?_
  refine g_callVd hF (c_digX hv hw (by omega) (by omega) (by omega) ew1) cal_X8_digest rfl m_772 (by decide) (Or.inl rfl) hkM hnM 0 rfl rfl [0, 1, 2, 3, 4, 5, 6, 7, 8, 9, 10, 11, 12, 13, 14, 15, 16, 17, 18] rfl rfl (Nat.le_of_ble_eq_true rfl) rfl (Nat.le_of_ble_eq_true rfl) dL_law_417 ?_
  try dsimp only [gput, gputA, List.set, stGs, List.cons_append, List.nil_append]
  refine g_lstore hF dL_law_420 (Nat.le_of_ble_eq_true rfl) rfl ?_
  refine g_iconst (v := (0)) hF dL_law_422 rfl ?_
  refine g_istore hF dL_law_423 (Nat.le_of_ble_eq_true rfl) rfl ?_
  have loop : ∀ j, j ≤ min 8 cnt + 1 → G F k0 n0 [lanO h p ri A.1 hp pts 0 wts tps r (-1) B.1 ti, progO p rc rn rt, rowW F.1.2.2 rc ac 80 fc np, rowW F.1.2.2 rn an 80 fn np, rowW F.1.2.2 rt at0 80 ft np, rowW F.1.2.2 ri ai 20 fi ni, stOv A v, rw1 F.1.2.2 A v, rw2 F.1.2.2 A v, rw3 F.1.2.2 A v, rw4 F.1.2.2 A v, pastO hp ma cnt, arrM F.1.2.2 ma ad, momsW ad M, stOv B w1, rw1 F.1.2.2 B w1, rw2 F.1.2.2 B w1, rw3 F.1.2.2 B w1, rw4 F.1.2.2 B w1, ptsA F.1.2.2 pts ap, poO (ap 0) 0 0 false 0 0 0 0, tpsA F.1.2.2 tps tp, tapeO (tp 1) rs rj rec', rowW F.1.2.2 rs as 200 fs ns, rowW F.1.2.2 rj aj 20 fj nj, [(qo, .inl (F.1.2.2 5, np, .inr (.inr (.inr (.inr (adF aq np))))))], [(qc, .inl (F.1.2.2 0, 29, .inl cdF))], pairsR F.1.2.2 aq fc fn np] 425 [some (.ref b), some (.ref h), some (.ref qo), none, some (.int (nI cnt)), some (.int (nI i)), none, none, none, none, none, none, none, none, none, none, none, none, some (.long (digF r (-1) cnt v M fc fn ft np (fi, ni))), none, some (.int (nI j)), none] [] := by
    refine up_loop (Q := fun j => G F k0 n0 [lanO h p ri A.1 hp pts 0 wts tps r (-1) B.1 ti, progO p rc rn rt, rowW F.1.2.2 rc ac 80 fc np, rowW F.1.2.2 rn an 80 fn np, rowW F.1.2.2 rt at0 80 ft np, rowW F.1.2.2 ri ai 20 fi ni, stOv A v, rw1 F.1.2.2 A v, rw2 F.1.2.2 A v, rw3 F.1.2.2 A v, rw4 F.1.2.2 A v, pastO hp ma cnt, arrM F.1.2.2 ma ad, momsW ad M, stOv B w1, rw1 F.1.2.2 B w1, rw2 F.1.2.2 B w1, rw3 F.1.2.2 B w1, rw4 F.1.2.2 B w1, ptsA F.1.2.2 pts ap, poO (ap 0) 0 0 false 0 0 0 0, tpsA F.1.2.2 tps tp, tapeO (tp 1) rs rj rec', rowW F.1.2.2 rs as 200 fs ns, rowW F.1.2.2 rj aj 20 fj nj, [(qo, .inl (F.1.2.2 5, np, .inr (.inr (.inr (.inr (adF aq np))))))], [(qc, .inl (F.1.2.2 0, 29, .inl cdF))], pairsR F.1.2.2 aq fc fn np] 425 [some (.ref b), some (.ref h), some (.ref qo), none, some (.int (nI cnt)), some (.int (nI i)), none, none, none, none, none, none, none, none, none, none, none, none, some (.long (digF r (-1) cnt v M fc fn ft np (fi, ni))), none, some (.int (nI j)), none] []) ?_ (fun j hi ih => ?_)
    · refine g_iload hF dL_law_425 rfl ?_
      refine g_bipush (v := (8)) hF dL_law_427 rfl ?_
      refine g_aload_n hF dL_law_429 rfl ?_
      refine g_bipush (v := (7)) hF dL_law_430 rfl ?_
      refine g_callVq hF (c_told (by decide) (by decide)) cal_X8_told rfl m_617 (by decide) (Or.inl rfl) hkM hnM 0 rfl rfl [0, 6, 7, 9, 10, 11] rfl rfl rfl (Nat.le_of_ble_eq_true rfl) dL_law_432 ?_
      rw [told_7]
      refine g_min hF m_858 m_388 m_4 m_389 (by decide) hkM hnM (Nat.le_of_ble_eq_true rfl) dL_law_435 ?_
      rw [min8 (by omega)]
      refine g_icmp_gt (tgt := 524) hF dL_law_438 (by decide) (fun c_438 => ?_) (fun c_438 => absurd (nI_lt (show min 8 cnt < min 8 cnt + 1 by omega) (by omega)) c_438)
      refine g_forgetN [20] ?_
      dsimp only [List.foldl, List.set]
      exact kk w1 hw1
    · have hj8 : j ≤ cnt := by omega
      obtain ⟨⟨a1, ha1, e1⟩, ⟨a3, ha3, e3⟩, ⟨a0, ha0, e0, hlt0⟩⟩ := then_facts (pc := (fc, np)) (pn := (fn, np)) (j := j) (show np ≤ 79 by omega) rfl hal hI hj8
      refine g_iload hF dL_law_425 rfl ?_
      refine g_bipush (v := (8)) hF dL_law_427 rfl ?_
      refine g_aload_n hF dL_law_429 rfl ?_
      refine g_bipush (v := (7)) hF dL_law_430 rfl ?_
      refine g_callVq hF (c_told (by decide) (by decide)) cal_X8_told rfl m_617 (by decide) (Or.inl rfl) hkM hnM 0 rfl rfl [0, 6, 7, 9, 10, 11] rfl rfl rfl (Nat.le_of_ble_eq_true rfl) dL_law_432 ?_
      rw [told_7]
      refine g_min hF m_858 m_388 m_4 m_389 (by decide) hkM hnM (Nat.le_of_ble_eq_true rfl) dL_law_435 ?_
      rw [min8 (by omega)]
      refine g_icmp_gt (tgt := 524) hF dL_law_438 (by decide) (fun c_438 => absurd c_438 (nI_nlt (show j ≤ min 8 cnt by omega) (by omega))) (fun c_438 => ?_)
      refine g_aload_n hF dL_law_441 rfl ?_
      refine g_iload hF dL_law_442 rfl ?_
      refine g_iconst (v := (1)) hF dL_law_444 rfl ?_
      refine g_callVq hF (c_thenX (j := j) (k := 1) (by omega) (by omega) hv.1 (by decide)) cal_X8_then rfl m_675 (by decide) (Or.inl rfl) hkM hnM 0 rfl rfl [0, 6, 7, 8, 9, 11, 12, 13] rfl rfl rfl (Nat.le_of_ble_eq_true rfl) dL_law_445 ?_
      rw [e1]
      refine g_if_lt (tgt := 497) hF dL_law_448 (by decide) (fun c_448 => absurd c_448 (nI_pos (by omega))) (fun c_448 => ?_)
      refine g_aload_n hF dL_law_451 rfl ?_
      refine g_iload hF dL_law_452 rfl ?_
      refine g_iconst (v := (1)) hF dL_law_454 rfl ?_
      refine g_callVq hF (c_thenX (j := j) (k := 1) (by omega) (by omega) hv.1 (by decide)) cal_X8_then rfl m_675 (by decide) (Or.inl rfl) hkM hnM 0 rfl rfl [0, 6, 7, 8, 9, 11, 12, 13] rfl rfl rfl (Nat.le_of_ble_eq_true rfl) dL_law_455 ?_
      rw [e1]
      refine g_bipush (v := (24)) hF dL_law_458 rfl ?_
      refine g_icmp_gt (tgt := 497) hF dL_law_460 (by decide) (fun c_460 => absurd c_460 (show ¬ (24 : Int32) < nI a1 from nI_nlt ha1 (by decide))) (fun c_460 => ?_)
      refine g_aload_n hF dL_law_463 rfl ?_
      refine g_iload hF dL_law_464 rfl ?_
      refine g_iconst (v := (3)) hF dL_law_466 rfl ?_
      refine g_callVq hF (c_thenX (j := j) (k := 3) (by omega) (by omega) hv.1 (by decide)) cal_X8_then rfl m_675 (by decide) (Or.inl rfl) hkM hnM 0 rfl rfl [0, 6, 7, 8, 9, 11, 12, 13] rfl rfl rfl (Nat.le_of_ble_eq_true rfl) dL_law_467 ?_
      rw [e3]
      refine g_bipush (v := (8)) hF dL_law_470 rfl ?_
      refine g_icmp_gt (tgt := 497) hF dL_law_472 (by decide) (fun c_472 => absurd c_472 (show ¬ (8 : Int32) < nI a3 from nI_nlt ha3 (by decide))) (fun c_472 => ?_)
      refine g_aload_n hF dL_law_475 rfl ?_
      refine g_iload hF dL_law_476 rfl ?_
      refine g_iconst (v := (0)) hF dL_law_478 rfl ?_
      refine g_callVq hF (c_thenX (j := j) (k := 0) (by omega) (by omega) hv.1 (by decide)) cal_X8_then rfl m_675 (by decide) (Or.inl rfl) hkM hnM 0 rfl rfl [0, 6, 7, 8, 9, 11, 12, 13] rfl rfl rfl (Nat.le_of_ble_eq_true rfl) dL_law_479 ?_
      rw [e0]
      refine g_if_lt (tgt := 497) hF dL_law_482 (by decide) (fun c_482 => absurd c_482 (nI_pos (by omega))) (fun c_482 => ?_)
      refine g_aload_n hF dL_law_485 rfl ?_
      refine g_iload hF dL_law_486 rfl ?_
      refine g_iconst (v := (0)) hF dL_law_488 rfl ?_
      refine g_callVq hF (c_thenX (j := j) (k := 0) (by omega) (by omega) hv.1 (by decide)) cal_X8_then rfl m_675 (by decide) (Or.inl rfl) hkM hnM 0 rfl rfl [0, 6, 7, 8, 9, 11, 12, 13] rfl rfl rfl (Nat.le_of_ble_eq_true rfl) dL_law_489 ?_
      rw [e0]
      refine g_bipush (v := (80)) hF dL_law_492 rfl ?_
      refine g_icmp_le (tgt := 499) hF dL_law_494 (by decide) (fun c_494 => ?_) (fun c_494 => absurd (show nI a0 ≤ 80 from nI_le ha0 (by decide)) c_494)
      refine g_iload hF dL_law_499 rfl ?_
      refine g_if_le (tgt := 518) hF dL_law_501 (by decide) (fun c_501 => ?_) (fun c_501 => ?_)
      · refine g_iinc (v := nI (j + 1)) hF dL_law_518 rfl (nI_1 j) rfl ?_
        refine g_goto (tgt := 425) hF dL_law_521 (by decide) ?_
        exact ih
      · have j1 : 1 ≤ j := Nat.pos_of_ne_zero (fun z => c_501 (by rw [z]; decide +kernel))
        refine g_aload_n hF dL_law_504 rfl ?_
        refine g_iload hF dL_law_505 rfl ?_
        refine g_iconst (v := (0)) hF dL_law_507 rfl ?_
        refine g_callVq hF (c_thenX (j := j) (k := 0) (by omega) (by omega) hv.1 (by decide)) cal_X8_then rfl m_675 (by decide) (Or.inl rfl) hkM hnM 0 rfl rfl [0, 6, 7, 8, 9, 11, 12, 13] rfl rfl rfl (Nat.le_of_ble_eq_true rfl) dL_law_508 ?_
        rw [e0]
        refine g_aload_n hF dL_law_511 rfl ?_
        refine g_alen (v := nI np) hF rfl 25 5 rfl rfl rfl dL_law_512 ?_
        refine g_icmp_lt (tgt := 518) hF dL_law_513 (by decide) (fun c_513 => ?_) (fun c_513 => absurd (nI_lt (hlt0 j1) (by omega)) c_513)
        refine g_iinc (v := nI (j + 1)) hF dL_law_518 rfl (nI_1 j) rfl ?_
        refine g_goto (tgt := 425) hF dL_law_521 (by decide) ?_
        exact ih
  exact loop 0 (Nat.zero_le _)
set_option maxHeartbeats 4000000 in
set_option maxRecDepth 100000 in
/-- the law, 524 to 624: who wrote a cell last -/
theorem pE {F : Fix} {kM nM k0 n0 : Nat} {b h p ri hp pts wts tps ti rc rn rt ac an at0 np ai ni ma rs rj as ns aj nj qo qc cnt : Nat} {A B : AV} {ad ap tp aq : Nat → Nat} {fc fn fi fs fj ft : Nat → Int32} {v w : SV} {M : Nat → Nat → Int32} {r : Int32} {rec' : Bool} {i : Nat} (hF : Ok F cL_law "LanternLaw" 7 kM nM) (hkM : k0 ≤ kM) (hnM : n0 ≤ nM) (hnp : np < 32) (hni : ni ≤ 20) (hal : Allow (fc, np) (fn, np)) (hw : okS w) (hI : Inv (fc, np) (fn, np) (fi, ni) initS (ft, v, cnt, M)) (hcn : cnt ≤ 200) (kk : G F k0 n0 [lanO h p ri A.1 hp pts 0 wts tps r (-1) B.1 ti, progO p rc rn rt, rowW F.1.2.2 rc ac 80 fc np, rowW F.1.2.2 rn an 80 fn np, rowW F.1.2.2 rt at0 80 ft np, rowW F.1.2.2 ri ai 20 fi ni, stOv A v, rw1 F.1.2.2 A v, rw2 F.1.2.2 A v, rw3 F.1.2.2 A v, rw4 F.1.2.2 A v, pastO hp ma cnt, arrM F.1.2.2 ma ad, momsW ad M, stOv B w, rw1 F.1.2.2 B w, rw2 F.1.2.2 B w, rw3 F.1.2.2 B w, rw4 F.1.2.2 B w, ptsA F.1.2.2 pts ap, poO (ap 0) 0 0 false 0 0 0 0, tpsA F.1.2.2 tps tp, tapeO (tp 1) rs rj rec', rowW F.1.2.2 rs as 200 fs ns, rowW F.1.2.2 rj aj 20 fj nj, [(qo, .inl (F.1.2.2 5, np, .inr (.inr (.inr (.inr (adF aq np))))))], [(qc, .inl (F.1.2.2 0, 29, .inl cdF))], pairsR F.1.2.2 aq fc fn np] 624 [some (.ref b), some (.ref h), some (.ref qo), none, some (.int (nI cnt)), some (.int (nI i)), none, none, none, none, none, none, none, none, none, none, none, none, some (.long (digF r (-1) cnt v M fc fn ft np (fi, ni))), none, none, none] []) : G F k0 n0 [lanO h p ri A.1 hp pts 0 wts tps r (-1) B.1 ti, progO p rc rn rt, rowW F.1.2.2 rc ac 80 fc np, rowW F.1.2.2 rn an 80 fn np, rowW F.1.2.2 rt at0 80 ft np, rowW F.1.2.2 ri ai 20 fi ni, stOv A v, rw1 F.1.2.2 A v, rw2 F.1.2.2 A v, rw3 F.1.2.2 A v, rw4 F.1.2.2 A v, pastO hp ma cnt, arrM F.1.2.2 ma ad, momsW ad M, stOv B w, rw1 F.1.2.2 B w, rw2 F.1.2.2 B w, rw3 F.1.2.2 B w, rw4 F.1.2.2 B w, ptsA F.1.2.2 pts ap, poO (ap 0) 0 0 false 0 0 0 0, tpsA F.1.2.2 tps tp, tapeO (tp 1) rs rj rec', rowW F.1.2.2 rs as 200 fs ns, rowW F.1.2.2 rj aj 20 fj nj, [(qo, .inl (F.1.2.2 5, np, .inr (.inr (.inr (.inr (adF aq np))))))], [(qc, .inl (F.1.2.2 0, 29, .inl cdF))], pairsR F.1.2.2 aq fc fn np] 524 [some (.ref b), some (.ref h), some (.ref qo), none, some (.int (nI cnt)), some (.int (nI i)), none, none, none, none, none, none, none, none, none, none, none, none, some (.long (digF r (-1) cnt v M fc fn ft np (fi, ni))), none, none, none] [] := by
  have hv : okS v := hI.1
  refine g_iconst (v := (0)) hF dL_law_524 rfl ?_
  refine g_istore hF dL_law_525 (Nat.le_of_ble_eq_true rfl) rfl ?_
  have loop : ∀ j, j ≤ 12 → G F k0 n0 [lanO h p ri A.1 hp pts 0 wts tps r (-1) B.1 ti, progO p rc rn rt, rowW F.1.2.2 rc ac 80 fc np, rowW F.1.2.2 rn an 80 fn np, rowW F.1.2.2 rt at0 80 ft np, rowW F.1.2.2 ri ai 20 fi ni, stOv A v, rw1 F.1.2.2 A v, rw2 F.1.2.2 A v, rw3 F.1.2.2 A v, rw4 F.1.2.2 A v, pastO hp ma cnt, arrM F.1.2.2 ma ad, momsW ad M, stOv B w, rw1 F.1.2.2 B w, rw2 F.1.2.2 B w, rw3 F.1.2.2 B w, rw4 F.1.2.2 B w, ptsA F.1.2.2 pts ap, poO (ap 0) 0 0 false 0 0 0 0, tpsA F.1.2.2 tps tp, tapeO (tp 1) rs rj rec', rowW F.1.2.2 rs as 200 fs ns, rowW F.1.2.2 rj aj 20 fj nj, [(qo, .inl (F.1.2.2 5, np, .inr (.inr (.inr (.inr (adF aq np))))))], [(qc, .inl (F.1.2.2 0, 29, .inl cdF))], pairsR F.1.2.2 aq fc fn np] 527 [some (.ref b), some (.ref h), some (.ref qo), none, some (.int (nI cnt)), some (.int (nI i)), none, none, none, none, none, none, none, none, none, none, none, none, some (.long (digF r (-1) cnt v M fc fn ft np (fi, ni))), none, some (.int (nI j)), none] [] := by
    refine up_loop (Q := fun j => G F k0 n0 [lanO h p ri A.1 hp pts 0 wts tps r (-1) B.1 ti, progO p rc rn rt, rowW F.1.2.2 rc ac 80 fc np, rowW F.1.2.2 rn an 80 fn np, rowW F.1.2.2 rt at0 80 ft np, rowW F.1.2.2 ri ai 20 fi ni, stOv A v, rw1 F.1.2.2 A v, rw2 F.1.2.2 A v, rw3 F.1.2.2 A v, rw4 F.1.2.2 A v, pastO hp ma cnt, arrM F.1.2.2 ma ad, momsW ad M, stOv B w, rw1 F.1.2.2 B w, rw2 F.1.2.2 B w, rw3 F.1.2.2 B w, rw4 F.1.2.2 B w, ptsA F.1.2.2 pts ap, poO (ap 0) 0 0 false 0 0 0 0, tpsA F.1.2.2 tps tp, tapeO (tp 1) rs rj rec', rowW F.1.2.2 rs as 200 fs ns, rowW F.1.2.2 rj aj 20 fj nj, [(qo, .inl (F.1.2.2 5, np, .inr (.inr (.inr (.inr (adF aq np))))))], [(qc, .inl (F.1.2.2 0, 29, .inl cdF))], pairsR F.1.2.2 aq fc fn np] 527 [some (.ref b), some (.ref h), some (.ref qo), none, some (.int (nI cnt)), some (.int (nI i)), none, none, none, none, none, none, none, none, none, none, none, none, some (.long (digF r (-1) cnt v M fc fn ft np (fi, ni))), none, some (.int (nI j)), none] []) ?_ (fun j hi ih => ?_)
    · refine g_iload hF dL_law_527 rfl ?_
      refine g_bipush (v := (12)) hF dL_law_529 rfl ?_
      refine g_icmp_ge (tgt := 624) hF dL_law_531 (by decide) (fun c_531 => ?_) (fun c_531 => absurd (nI_le (Nat.le_refl 12) (by decide)) c_531)
      refine g_forgetN [20] ?_
      dsimp only [List.foldl, List.set]
      exact kk
    · refine g_iload hF dL_law_527 rfl ?_
      refine g_bipush (v := (12)) hF dL_law_529 rfl ?_
      refine g_icmp_ge (tgt := 624) hF dL_law_531 (by decide) (fun c_531 => absurd c_531 (nI_ge hi (by decide))) (fun c_531 => ?_)
      refine g_aload_n hF dL_law_534 rfl ?_
      refine g_iload hF dL_law_535 rfl ?_
      refine g_callVq hF (c_wroteAgo (isCell_nI hi) (by omega)) cal_X8_wroteAgo rfl m_694 (by decide) (Or.inl rfl) hkM hnM 0 rfl rfl [0, 11, 12, 13] rfl rfl rfl (Nat.le_of_ble_eq_true rfl) dL_law_537 ?_
      obtain ⟨g, hg, eg, hg1⟩ := stored_ex (M := M) (cnt := cnt) (c := j)
      rw [eg]
      refine g_istore hF dL_law_540 (Nat.le_of_ble_eq_true rfl) rfl ?_
      refine g_iload hF dL_law_542 rfl ?_
      refine g_if_le (tgt := 579) hF dL_law_544 (by decide) (fun c_544 => ?_) (fun c_544 => ?_)
      · refine g_iload hF dL_law_579 rfl ?_
        refine g_if_le (tgt := 605) hF dL_law_581 (by decide) (fun c_581 => ?_) (fun c_581 => absurd c_544 c_581)
        refine g_iload hF dL_law_605 rfl ?_
        refine g_aload_n hF dL_law_607 rfl ?_
        refine g_bipush (v := (7)) hF dL_law_608 rfl ?_
        refine g_callVq hF (c_told (by decide) (by decide)) cal_X8_told rfl m_617 (by decide) (Or.inl rfl) hkM hnM 0 rfl rfl [0, 6, 7, 9, 10, 11] rfl rfl rfl (Nat.le_of_ble_eq_true rfl) dL_law_610 ?_
        rw [told_7]
        refine g_icmp_le (tgt := 618) hF dL_law_613 (by decide) (fun c_613 => ?_) (fun c_613 => absurd (nI_le hg (by omega)) c_613)
        refine g_iinc (v := nI (j + 1)) hF dL_law_618 rfl (nI_1 j) rfl ?_
        refine g_goto (tgt := 527) hF dL_law_621 (by decide) ?_
        refine g_forgetN [21] ?_
        dsimp only [List.foldl, List.set]
        exact ih
      · have g1 : 1 ≤ g := Nat.pos_of_ne_zero (fun z => c_544 (by rw [z]; decide +kernel))
        obtain ⟨⟨a0, ha0, e0⟩, -⟩ := past_in (show np < 2 ^ 31 by omega) hI (show cnt - g < cnt by omega)
        have e0 : M (cnt - g) 0 = nI a0 := e0
        have hst : fc a0 = 13 ∨ fc a0 = 15 := past_stored (c := j) (show np < 2 ^ 31 by omega) hI (show cnt - g < cnt by omega) hi (hg1 g1).1 ha0 e0
        have et : thenV v M cnt g 0 = nI a0 := by unfold thenV; rw [if_neg (by omega)]; exact e0
        obtain ⟨PX, PY, ep⟩ := pairs_split (cy := F.1.2.2) (ad := aq) (fc := fc) (fn := fn) ha0
        refine g_aload_n hF dL_law_547 rfl ?_
        refine g_aload_n hF dL_law_548 rfl ?_
        refine g_iload hF dL_law_549 rfl ?_
        refine g_iconst (v := (0)) hF dL_law_551 rfl ?_
        refine g_callVq hF (c_thenX (j := g) (k := 0) (by omega) (by omega) hv.1 (by decide)) cal_X8_then rfl m_675 (by decide) (Or.inl rfl) hkM hnM 0 rfl rfl [0, 6, 7, 8, 9, 11, 12, 13] rfl rfl rfl (Nat.le_of_ble_eq_true rfl) dL_law_552 ?_
        rw [et]
        refine g_aaldI hF rfl 25 rfl (vp_in_nI ha0 (by omega)) (adF_in (k := a0) rfl ha0 (by omega)) dL_law_555 ?_
        refine g_iconst (v := (0)) hF dL_law_556 rfl ?_
        refine g_split3 27 rfl ep ?_
        try dsimp only [List.take, List.drop, List.cons_append, List.nil_append]
        refine g_iald (v := fc a0) hF rfl 28 rfl (vp_in_nI (n := 0) (by decide) (by decide)) rfl dL_law_557 ?_
        refine g_join3 27 rfl ep.symm ?_
        try dsimp only [List.take, List.drop, List.cons_append, List.nil_append]
        refine g_bipush (v := (13)) hF dL_law_558 rfl ?_
        refine g_icmp_eq (tgt := 579) hF dL_law_560 (by decide) (fun c_560 => ?_) (fun c_560 => ?_)
        · refine g_iload hF dL_law_579 rfl ?_
          refine g_if_le (tgt := 605) hF dL_law_581 (by decide) (fun c_581 => absurd c_581 c_544) (fun c_581 => ?_)
          refine g_aload_n hF dL_law_584 rfl ?_
          refine g_iload hF dL_law_585 rfl ?_
          refine g_iconst (v := (1)) hF dL_law_587 rfl ?_
          refine g_isub hF dL_law_588 ?_
          rw [show nI g - 1 = nI (g - 1) from pk_sub g1]
          refine g_iconst (v := (4)) hF dL_law_589 rfl ?_
          refine g_iload hF dL_law_590 rfl ?_
          refine g_iadd hF dL_law_592 ?_
          rw [show (4 : Int32) + nI j = nI (4 + j) from nI_add 4 j]
          refine g_callVq hF (c_then_c (j := g - 1) (c := j) (by omega) (by omega) hi hv.2.1) cal_X8_then rfl m_675 (by decide) (Or.inl rfl) hkM hnM 0 rfl rfl [0, 6, 7, 8, 9, 11, 12, 13] rfl rfl rfl (Nat.le_of_ble_eq_true rfl) dL_law_593 ?_
          rw [cellAgo_now (g - 1) (hg1 g1).2]
          refine g_aload_n hF dL_law_596 rfl ?_
          refine g_iload hF dL_law_597 rfl ?_
          refine g_callVq hF (c_cell hv.2.1 (isCell_nI hi)) cal_X8_cell rfl m_648 (by decide) (Or.inl rfl) hkM hnM 0 rfl rfl [0, 6, 8] rfl rfl rfl (Nat.le_of_ble_eq_true rfl) dL_law_599 ?_
          refine g_icmp_ne (tgt := 616) hF dL_law_602 (by decide) (fun c_602 => absurd rfl c_602) (fun c_602 => ?_)
          refine g_iload hF dL_law_605 rfl ?_
          refine g_aload_n hF dL_law_607 rfl ?_
          refine g_bipush (v := (7)) hF dL_law_608 rfl ?_
          refine g_callVq hF (c_told (by decide) (by decide)) cal_X8_told rfl m_617 (by decide) (Or.inl rfl) hkM hnM 0 rfl rfl [0, 6, 7, 9, 10, 11] rfl rfl rfl (Nat.le_of_ble_eq_true rfl) dL_law_610 ?_
          rw [told_7]
          refine g_icmp_le (tgt := 618) hF dL_law_613 (by decide) (fun c_613 => ?_) (fun c_613 => absurd (nI_le hg (by omega)) c_613)
          refine g_iinc (v := nI (j + 1)) hF dL_law_618 rfl (nI_1 j) rfl ?_
          refine g_goto (tgt := 527) hF dL_law_621 (by decide) ?_
          refine g_forgetN [21] ?_
          dsimp only [List.foldl, List.set]
          exact ih
        · refine g_aload_n hF dL_law_563 rfl ?_
          refine g_aload_n hF dL_law_564 rfl ?_
          refine g_iload hF dL_law_565 rfl ?_
          refine g_iconst (v := (0)) hF dL_law_567 rfl ?_
          refine g_callVq hF (c_thenX (j := g) (k := 0) (by omega) (by omega) hv.1 (by decide)) cal_X8_then rfl m_675 (by decide) (Or.inl rfl) hkM hnM 0 rfl rfl [0, 6, 7, 8, 9, 11, 12, 13] rfl rfl rfl (Nat.le_of_ble_eq_true rfl) dL_law_568 ?_
          rw [et]
          refine g_aaldI hF rfl 25 rfl (vp_in_nI ha0 (by omega)) (adF_in (k := a0) rfl ha0 (by omega)) dL_law_571 ?_
          refine g_iconst (v := (0)) hF dL_law_572 rfl ?_
          refine g_split3 27 rfl ep ?_
          try dsimp only [List.take, List.drop, List.cons_append, List.nil_append]
          refine g_iald (v := fc a0) hF rfl 28 rfl (vp_in_nI (n := 0) (by decide) (by decide)) rfl dL_law_573 ?_
          refine g_join3 27 rfl ep.symm ?_
          try dsimp only [List.take, List.drop, List.cons_append, List.nil_append]
          refine g_bipush (v := (15)) hF dL_law_574 rfl ?_
          refine g_icmp_ne (tgt := 616) hF dL_law_576 (by decide) (fun c_576 => absurd (hst.elim (fun q => absurd q c_560) id) c_576) (fun c_576 => ?_)
          refine g_iload hF dL_law_579 rfl ?_
          refine g_if_le (tgt := 605) hF dL_law_581 (by decide) (fun c_581 => absurd c_581 c_544) (fun c_581 => ?_)
          refine g_aload_n hF dL_law_584 rfl ?_
          refine g_iload hF dL_law_585 rfl ?_
          refine g_iconst (v := (1)) hF dL_law_587 rfl ?_
          refine g_isub hF dL_law_588 ?_
          rw [show nI g - 1 = nI (g - 1) from pk_sub g1]
          refine g_iconst (v := (4)) hF dL_law_589 rfl ?_
          refine g_iload hF dL_law_590 rfl ?_
          refine g_iadd hF dL_law_592 ?_
          rw [show (4 : Int32) + nI j = nI (4 + j) from nI_add 4 j]
          refine g_callVq hF (c_then_c (j := g - 1) (c := j) (by omega) (by omega) hi hv.2.1) cal_X8_then rfl m_675 (by decide) (Or.inl rfl) hkM hnM 0 rfl rfl [0, 6, 7, 8, 9, 11, 12, 13] rfl rfl rfl (Nat.le_of_ble_eq_true rfl) dL_law_593 ?_
          rw [cellAgo_now (g - 1) (hg1 g1).2]
          refine g_aload_n hF dL_law_596 rfl ?_
          refine g_iload hF dL_law_597 rfl ?_
          refine g_callVq hF (c_cell hv.2.1 (isCell_nI hi)) cal_X8_cell rfl m_648 (by decide) (Or.inl rfl) hkM hnM 0 rfl rfl [0, 6, 8] rfl rfl rfl (Nat.le_of_ble_eq_true rfl) dL_law_599 ?_
          refine g_icmp_ne (tgt := 616) hF dL_law_602 (by decide) (fun c_602 => absurd rfl c_602) (fun c_602 => ?_)
          refine g_iload hF dL_law_605 rfl ?_
          refine g_aload_n hF dL_law_607 rfl ?_
          refine g_bipush (v := (7)) hF dL_law_608 rfl ?_
          refine g_callVq hF (c_told (by decide) (by decide)) cal_X8_told rfl m_617 (by decide) (Or.inl rfl) hkM hnM 0 rfl rfl [0, 6, 7, 9, 10, 11] rfl rfl rfl (Nat.le_of_ble_eq_true rfl) dL_law_610 ?_
          rw [told_7]
          refine g_icmp_le (tgt := 618) hF dL_law_613 (by decide) (fun c_613 => ?_) (fun c_613 => absurd (nI_le hg (by omega)) c_613)
          refine g_iinc (v := nI (j + 1)) hF dL_law_618 rfl (nI_1 j) rfl ?_
          refine g_goto (tgt := 527) hF dL_law_621 (by decide) ?_
          refine g_forgetN [21] ?_
          dsimp only [List.foldl, List.set]
          exact ih
  exact loop 0 (Nat.zero_le _)
set_option maxHeartbeats 4000000 in
set_option maxRecDepth 100000 in
/-- the law, 624 to 76: asking leaves the checksum -/
theorem pF {F : Fix} {kM nM k0 n0 : Nat} {b h p ri hp pts wts tps ti rc rn rt ac an at0 np ai ni ma rs rj as ns aj nj qo qc cnt : Nat} {A B : AV} {ad ap tp aq : Nat → Nat} {fc fn fi fs fj ft : Nat → Int32} {v w : SV} {M : Nat → Nat → Int32} {r : Int32} {rec' : Bool} {i : Nat} (hF : Ok F cL_law "LanternLaw" 7 kM nM) (hkM : k0 ≤ kM) (hnM : n0 ≤ nM) (hnp : np < 32) (hni : ni ≤ 20) (hal : Allow (fc, np) (fn, np)) (hw : okS w) (hI : Inv (fc, np) (fn, np) (fi, ni) initS (ft, v, cnt, M)) (hcn : cnt ≤ 200) (kk : ∀ w1 : SV, okS w1 → G F k0 n0 [lanO h p ri A.1 hp pts 0 wts tps r (-1) B.1 ti, progO p rc rn rt, rowW F.1.2.2 rc ac 80 fc np, rowW F.1.2.2 rn an 80 fn np, rowW F.1.2.2 rt at0 80 ft np, rowW F.1.2.2 ri ai 20 fi ni, stOv A v, rw1 F.1.2.2 A v, rw2 F.1.2.2 A v, rw3 F.1.2.2 A v, rw4 F.1.2.2 A v, pastO hp ma cnt, arrM F.1.2.2 ma ad, momsW ad M, stOv B w1, rw1 F.1.2.2 B w1, rw2 F.1.2.2 B w1, rw3 F.1.2.2 B w1, rw4 F.1.2.2 B w1, ptsA F.1.2.2 pts ap, poO (ap 0) 0 0 false 0 0 0 0, tpsA F.1.2.2 tps tp, tapeO (tp 1) rs rj rec', rowW F.1.2.2 rs as 200 fs ns, rowW F.1.2.2 rj aj 20 fj nj, [(qo, .inl (F.1.2.2 5, np, .inr (.inr (.inr (.inr (adF aq np))))))], [(qc, .inl (F.1.2.2 0, 29, .inl cdF))], pairsR F.1.2.2 aq fc fn np] 76 [some (.ref b), some (.ref h), some (.ref qo), none, some (.int (nI cnt)), some (.int (nI (i + 1))), none, none, none, none, none, none, none, none, none, none, none, none, none, none, none, none] []) : G F k0 n0 [lanO h p ri A.1 hp pts 0 wts tps r (-1) B.1 ti, progO p rc rn rt, rowW F.1.2.2 rc ac 80 fc np, rowW F.1.2.2 rn an 80 fn np, rowW F.1.2.2 rt at0 80 ft np, rowW F.1.2.2 ri ai 20 fi ni, stOv A v, rw1 F.1.2.2 A v, rw2 F.1.2.2 A v, rw3 F.1.2.2 A v, rw4 F.1.2.2 A v, pastO hp ma cnt, arrM F.1.2.2 ma ad, momsW ad M, stOv B w, rw1 F.1.2.2 B w, rw2 F.1.2.2 B w, rw3 F.1.2.2 B w, rw4 F.1.2.2 B w, ptsA F.1.2.2 pts ap, poO (ap 0) 0 0 false 0 0 0 0, tpsA F.1.2.2 tps tp, tapeO (tp 1) rs rj rec', rowW F.1.2.2 rs as 200 fs ns, rowW F.1.2.2 rj aj 20 fj nj, [(qo, .inl (F.1.2.2 5, np, .inr (.inr (.inr (.inr (adF aq np))))))], [(qc, .inl (F.1.2.2 0, 29, .inl cdF))], pairsR F.1.2.2 aq fc fn np] 624 [some (.ref b), some (.ref h), some (.ref qo), none, some (.int (nI cnt)), some (.int (nI i)), none, none, none, none, none, none, none, none, none, none, none, none, some (.long (digF r (-1) cnt v M fc fn ft np (fi, ni))), none, none, none] [] := by
  have hv : okS v := hI.1
  obtain ⟨w1, hw1, ew1⟩ : ∃ w1, okS w1 ∧ (tryF (fc, np) (fn, np) (fi, ni) 50 (copyF w v)).2 = w1 := ⟨_, okS_try 50 okS_copy, rfl⟩
  refine g_aload_n hF dL_law_624 rfl ?_
  refine g_callVd hF (c_digX hv hw (by omega) (by omega) (by omega) ew1) cal_X8_digest rfl m_772 (by decide) (Or.inl rfl) hkM hnM 0 rfl rfl [0, 1, 2, 3, 4, 5, 6, 7, 8, 9, 10, 11, 12, 13, 14, 15, 16, 17, 18] rfl rfl (Nat.le_of_ble_eq_true rfl) rfl (Nat.le_of_ble_eq_true rfl) dL_law_625 ?_
  try dsimp only [gput, gputA, List.set, stGs, List.cons_append, List.nil_append]
  refine g_lload hF dL_law_628 rfl ?_
  refine g_lcmp hF dL_law_630 ?_
  refine g_if_eq (tgt := 636) hF dL_law_631 (by decide) (fun c_631 => ?_) (fun c_631 => absurd (lcmp_self _) c_631)
  refine g_iinc (v := nI (i + 1)) hF dL_law_636 rfl (nI_1 i) rfl ?_
  refine g_goto (tgt := 76) hF dL_law_639 (by decide) ?_
  refine g_forgetN [18] ?_
  dsimp only [List.foldl, List.set]
  exact kk w1 hw1
