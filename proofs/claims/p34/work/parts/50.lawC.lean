theorem heatF_n {a b : Int32} (h : ¬ a = 0) : heatF (a, b) = FP.ddiv (FP.i2d b) (FP.i2d a) := if_neg h
theorem heatF_0 {a b : Int32} (h : a = 0) : heatF (a, b) = 0 := if_pos h
theorem z_of {n : Nat} (h : nI n ≤ 0) (hn : n < 2 ^ 31) : n = 0 := by
  rcases Nat.eq_zero_or_pos n with z | z
  · exact z
  · exact absurd h (nI_nle z hn)
set_option maxHeartbeats 4000000 in
set_option maxRecDepth 100000 in
/-- the law, 642 to 696: how often, and how many sorts -/
theorem pT1 {F : Fix} {kM nM k0 n0 : Nat} {b h p ri hp pts wts tps ti rc rn rt ac an at0 np ai ni ma rs rj as ns aj nj qo qc cnt : Nat} {A B : AV} {ad ap tp aq : Nat → Nat} {fc fn fi fs fj ft : Nat → Int32} {v w : SV} {M : Nat → Nat → Int32} {r : Int32} {rec' : Bool} {τ : Nat → Nat} (hF : Ok F cL_law "LanternLaw" 7 kM nM) (hkM : k0 ≤ kM) (hnM : n0 ≤ nM) (hnp : np < 32) (hni : ni ≤ 20) (hτ : ∀ i, i < np → ft i = nI (τ i)) (hb : sumN τ np ≤ 288) (kk : G F k0 n0 [lanO h p ri A.1 hp pts 0 wts tps r (-1) B.1 ti, progO p rc rn rt, rowW F.1.2.2 rc ac 80 fc np, rowW F.1.2.2 rn an 80 fn np, rowW F.1.2.2 rt at0 80 ft np, rowW F.1.2.2 ri ai 20 fi ni, stOv A v, rw1 F.1.2.2 A v, rw2 F.1.2.2 A v, rw3 F.1.2.2 A v, rw4 F.1.2.2 A v, pastO hp ma cnt, arrM F.1.2.2 ma ad, momsW ad M, stOv B w, rw1 F.1.2.2 B w, rw2 F.1.2.2 B w, rw3 F.1.2.2 B w, rw4 F.1.2.2 B w, ptsA F.1.2.2 pts ap, poO (ap 0) 0 0 false 0 0 0 0, tpsA F.1.2.2 tps tp, tapeO (tp 1) rs rj rec', rowW F.1.2.2 rs as 200 fs ns, rowW F.1.2.2 rj aj 20 fj nj, [(qo, .inl (F.1.2.2 5, np, .inr (.inr (.inr (.inr (adF aq np))))))], [(qc, .inl (F.1.2.2 0, 29, .inl cdF))], pairsR F.1.2.2 aq fc fn np] 696 [some (.ref b), some (.ref h), some (.ref qo), none, some (.int (nI cnt)), some (.int (nI (sumN τ np))), some (.int (nI (cntN τ np))), none, none, none, none, none, none, none, none, none, none, none, none, none, none, none] []) : G F k0 n0 [lanO h p ri A.1 hp pts 0 wts tps r (-1) B.1 ti, progO p rc rn rt, rowW F.1.2.2 rc ac 80 fc np, rowW F.1.2.2 rn an 80 fn np, rowW F.1.2.2 rt at0 80 ft np, rowW F.1.2.2 ri ai 20 fi ni, stOv A v, rw1 F.1.2.2 A v, rw2 F.1.2.2 A v, rw3 F.1.2.2 A v, rw4 F.1.2.2 A v, pastO hp ma cnt, arrM F.1.2.2 ma ad, momsW ad M, stOv B w, rw1 F.1.2.2 B w, rw2 F.1.2.2 B w, rw3 F.1.2.2 B w, rw4 F.1.2.2 B w, ptsA F.1.2.2 pts ap, poO (ap 0) 0 0 false 0 0 0 0, tpsA F.1.2.2 tps tp, tapeO (tp 1) rs rj rec', rowW F.1.2.2 rs as 200 fs ns, rowW F.1.2.2 rj aj 20 fj nj, [(qo, .inl (F.1.2.2 5, np, .inr (.inr (.inr (.inr (adF aq np))))))], [(qc, .inl (F.1.2.2 0, 29, .inl cdF))], pairsR F.1.2.2 aq fc fn np] 642 [some (.ref b), some (.ref h), some (.ref qo), none, some (.int (nI cnt)), none, none, none, none, none, none, none, none, none, none, none, none, none, none, none, none, none] [] := by
  refine g_iconst (v := (0)) hF dL_law_642 rfl ?_
  refine g_istore hF dL_law_643 (Nat.le_of_ble_eq_true rfl) rfl ?_
  refine g_iconst (v := (0)) hF dL_law_645 rfl ?_
  refine g_istore hF dL_law_646 (Nat.le_of_ble_eq_true rfl) rfl ?_
  refine g_iconst (v := (0)) hF dL_law_648 rfl ?_
  refine g_istore hF dL_law_649 (Nat.le_of_ble_eq_true rfl) rfl ?_
  have loop : ∀ j, j ≤ np → G F k0 n0 [lanO h p ri A.1 hp pts 0 wts tps r (-1) B.1 ti, progO p rc rn rt, rowW F.1.2.2 rc ac 80 fc np, rowW F.1.2.2 rn an 80 fn np, rowW F.1.2.2 rt at0 80 ft np, rowW F.1.2.2 ri ai 20 fi ni, stOv A v, rw1 F.1.2.2 A v, rw2 F.1.2.2 A v, rw3 F.1.2.2 A v, rw4 F.1.2.2 A v, pastO hp ma cnt, arrM F.1.2.2 ma ad, momsW ad M, stOv B w, rw1 F.1.2.2 B w, rw2 F.1.2.2 B w, rw3 F.1.2.2 B w, rw4 F.1.2.2 B w, ptsA F.1.2.2 pts ap, poO (ap 0) 0 0 false 0 0 0 0, tpsA F.1.2.2 tps tp, tapeO (tp 1) rs rj rec', rowW F.1.2.2 rs as 200 fs ns, rowW F.1.2.2 rj aj 20 fj nj, [(qo, .inl (F.1.2.2 5, np, .inr (.inr (.inr (.inr (adF aq np))))))], [(qc, .inl (F.1.2.2 0, 29, .inl cdF))], pairsR F.1.2.2 aq fc fn np] 651 [some (.ref b), some (.ref h), some (.ref qo), none, some (.int (nI cnt)), some (.int (nI (sumN τ j))), some (.int (nI (cntN τ j))), some (.int (nI j)), none, none, none, none, none, none, none, none, none, none, none, none, none, none] [] := by
    refine up_loop (Q := fun j => G F k0 n0 [lanO h p ri A.1 hp pts 0 wts tps r (-1) B.1 ti, progO p rc rn rt, rowW F.1.2.2 rc ac 80 fc np, rowW F.1.2.2 rn an 80 fn np, rowW F.1.2.2 rt at0 80 ft np, rowW F.1.2.2 ri ai 20 fi ni, stOv A v, rw1 F.1.2.2 A v, rw2 F.1.2.2 A v, rw3 F.1.2.2 A v, rw4 F.1.2.2 A v, pastO hp ma cnt, arrM F.1.2.2 ma ad, momsW ad M, stOv B w, rw1 F.1.2.2 B w, rw2 F.1.2.2 B w, rw3 F.1.2.2 B w, rw4 F.1.2.2 B w, ptsA F.1.2.2 pts ap, poO (ap 0) 0 0 false 0 0 0 0, tpsA F.1.2.2 tps tp, tapeO (tp 1) rs rj rec', rowW F.1.2.2 rs as 200 fs ns, rowW F.1.2.2 rj aj 20 fj nj, [(qo, .inl (F.1.2.2 5, np, .inr (.inr (.inr (.inr (adF aq np))))))], [(qc, .inl (F.1.2.2 0, 29, .inl cdF))], pairsR F.1.2.2 aq fc fn np] 651 [some (.ref b), some (.ref h), some (.ref qo), none, some (.int (nI cnt)), some (.int (nI (sumN τ j))), some (.int (nI (cntN τ j))), some (.int (nI j)), none, none, none, none, none, none, none, none, none, none, none, none, none, none] []) ?_ (fun j hi ih => ?_)
    · refine g_iload hF dL_law_651 rfl ?_
      refine g_aload_n hF dL_law_653 rfl ?_
      refine g_alen (v := nI np) hF rfl 25 5 rfl rfl rfl dL_law_654 ?_
      refine g_icmp_ge (tgt := 696) hF dL_law_655 (by decide) (fun c_655 => ?_) (fun c_655 => absurd (nI_le (Nat.le_refl np) (by omega)) c_655)
      refine g_forgetN [7] ?_
      dsimp only [List.foldl, List.set]
      exact kk
    · refine g_iload hF dL_law_651 rfl ?_
      refine g_aload_n hF dL_law_653 rfl ?_
      refine g_alen (v := nI np) hF rfl 25 5 rfl rfl rfl dL_law_654 ?_
      refine g_icmp_ge (tgt := 696) hF dL_law_655 (by decide) (fun c_655 => absurd c_655 (nI_ge hi (by omega))) (fun c_655 => ?_)
      refine g_iload hF dL_law_658 rfl ?_
      refine g_aload_n hF dL_law_660 rfl ?_
      refine g_iload hF dL_law_661 rfl ?_
      refine g_iconst (v := (2)) hF dL_law_663 rfl ?_
      refine g_callVq hF (c_ofStep_2 (rowHas_nI hi (by omega)) (by omega)) cal_X8_ofStep rfl m_655 (by decide) (Or.inl rfl) hkM hnM 0 rfl rfl [0, 1, 2, 4] rfl rfl rfl (Nat.le_of_ble_eq_true rfl) dL_law_664 ?_
      rw [rowGet_one hi (by omega), hτ j hi]
      refine g_iadd hF dL_law_667 ?_
      rw [show nI (sumN τ j) + nI (τ j) = nI (sumN τ (j + 1)) from nI_add _ _]
      refine g_istore hF dL_law_668 (Nat.le_of_ble_eq_true rfl) rfl ?_
      refine g_iload hF dL_law_670 rfl ?_
      refine g_aload_n hF dL_law_672 rfl ?_
      refine g_iload hF dL_law_673 rfl ?_
      refine g_iconst (v := (2)) hF dL_law_675 rfl ?_
      refine g_callVq hF (c_ofStep_2 (rowHas_nI hi (by omega)) (by omega)) cal_X8_ofStep rfl m_655 (by decide) (Or.inl rfl) hkM hnM 0 rfl rfl [0, 1, 2, 4] rfl rfl rfl (Nat.le_of_ble_eq_true rfl) dL_law_676 ?_
      rw [rowGet_one hi (by omega), hτ j hi]
      refine g_if_le (tgt := 686) hF dL_law_679 (by decide) (fun c_679 => ?_) (fun c_679 => ?_)
      · refine g_iconst (v := (0)) hF dL_law_686 rfl ?_
        refine g_iadd hF dL_law_687 ?_
        rw [show nI (cntN τ j) + 0 = nI (cntN τ (j + 1)) from by rw [cntN_0 (z_of c_679 (by have := sumN_le (τ := τ) np j hi; omega))]; exact nI_add _ 0]
        refine g_istore hF dL_law_688 (Nat.le_of_ble_eq_true rfl) rfl ?_
        refine g_iinc (v := nI (j + 1)) hF dL_law_690 rfl (nI_1 j) rfl ?_
        refine g_goto (tgt := 651) hF dL_law_693 (by decide) ?_
        try dsimp only [gput, gputA, List.set, stGs, List.cons_append, List.nil_append]
        exact ih
      · refine g_iconst (v := (1)) hF dL_law_682 rfl ?_
        refine g_goto (tgt := 687) hF dL_law_683 (by decide) ?_
        refine g_iadd hF dL_law_687 ?_
        rw [show nI (cntN τ j) + 1 = nI (cntN τ (j + 1)) from by rw [cntN_1 (fun z => c_679 (by rw [z]; decide +kernel))]; exact nI_1 _]
        refine g_istore hF dL_law_688 (Nat.le_of_ble_eq_true rfl) rfl ?_
        refine g_iinc (v := nI (j + 1)) hF dL_law_690 rfl (nI_1 j) rfl ?_
        refine g_goto (tgt := 651) hF dL_law_693 (by decide) ?_
        try dsimp only [gput, gputA, List.set, stGs, List.cons_append, List.nil_append]
        exact ih
  exact loop 0 (Nat.zero_le _)
set_option maxHeartbeats 4000000 in
set_option maxRecDepth 100000 in
/-- the law, 696 to 748: the mean; the record -/
theorem pT2 {F : Fix} {kM nM k0 n0 : Nat} {b h p ri hp pts wts tps ti rc rn rt ac an at0 np ai ni ma rs rj as ns aj nj qo qc cnt : Nat} {A B : AV} {ad ap tp aq : Nat → Nat} {fc fn fi fs fj ft : Nat → Int32} {v w : SV} {M : Nat → Nat → Int32} {r : Int32} {rec' : Bool} {τ : Nat → Nat} (hF : Ok F cL_law "LanternLaw" 7 kM nM) (hkM : k0 ≤ kM) (hnM : n0 ≤ nM) (hnp : np < 32) (hni : ni ≤ 20) (hτ : ∀ i, i < np → ft i = nI (τ i)) (hb : sumN τ np ≤ 288) (hcs : cnt ≤ sumN τ np) (hck : v.2.2.2.2.2.2.2 = nI cnt) (hcn : cnt ≤ 200) (hns : ns ≤ 200) (hnj : nj ≤ 20) (kk : G F k0 n0 [lanO h p ri A.1 hp pts 0 wts tps r (-1) B.1 ti, progO p rc rn rt, rowW F.1.2.2 rc ac 80 fc np, rowW F.1.2.2 rn an 80 fn np, rowW F.1.2.2 rt at0 80 ft np, rowW F.1.2.2 ri ai 20 fi ni, stOv A v, rw1 F.1.2.2 A v, rw2 F.1.2.2 A v, rw3 F.1.2.2 A v, rw4 F.1.2.2 A v, pastO hp ma cnt, arrM F.1.2.2 ma ad, momsW ad M, stOv B w, rw1 F.1.2.2 B w, rw2 F.1.2.2 B w, rw3 F.1.2.2 B w, rw4 F.1.2.2 B w, ptsA F.1.2.2 pts ap, poO (ap 0) 0 0 false 0 0 0 0, tpsA F.1.2.2 tps tp, tapeO (tp 1) rs rj true, rowW F.1.2.2 rs as 200 (stepsF M fs cnt) cnt, rowW F.1.2.2 rj aj 20 (va_cpy fi fj 0 0 (min ni 20)) (min ni 20), [(qo, .inl (F.1.2.2 5, np, .inr (.inr (.inr (.inr (adF aq np))))))], [(qc, .inl (F.1.2.2 0, 29, .inl cdF))], pairsR F.1.2.2 aq fc fn np] 748 [some (.ref b), some (.ref h), some (.ref qo), none, some (.int (nI cnt)), none, none, none, none, none, none, none, none, none, none, none, none, none, none, none, none, none] []) : G F k0 n0 [lanO h p ri A.1 hp pts 0 wts tps r (-1) B.1 ti, progO p rc rn rt, rowW F.1.2.2 rc ac 80 fc np, rowW F.1.2.2 rn an 80 fn np, rowW F.1.2.2 rt at0 80 ft np, rowW F.1.2.2 ri ai 20 fi ni, stOv A v, rw1 F.1.2.2 A v, rw2 F.1.2.2 A v, rw3 F.1.2.2 A v, rw4 F.1.2.2 A v, pastO hp ma cnt, arrM F.1.2.2 ma ad, momsW ad M, stOv B w, rw1 F.1.2.2 B w, rw2 F.1.2.2 B w, rw3 F.1.2.2 B w, rw4 F.1.2.2 B w, ptsA F.1.2.2 pts ap, poO (ap 0) 0 0 false 0 0 0 0, tpsA F.1.2.2 tps tp, tapeO (tp 1) rs rj rec', rowW F.1.2.2 rs as 200 fs ns, rowW F.1.2.2 rj aj 20 fj nj, [(qo, .inl (F.1.2.2 5, np, .inr (.inr (.inr (.inr (adF aq np))))))], [(qc, .inl (F.1.2.2 0, 29, .inl cdF))], pairsR F.1.2.2 aq fc fn np] 696 [some (.ref b), some (.ref h), some (.ref qo), none, some (.int (nI cnt)), some (.int (nI (sumN τ np))), some (.int (nI (cntN τ np))), none, none, none, none, none, none, none, none, none, none, none, none, none, none, none] [] := by
  have hfp : ¬ nI (cntN τ np) = 0 → vf_n64 (FP.ddiv (FP.i2d (nI (sumN τ np))) (FP.i2d (nI (cntN τ np)))) ∧ Op.cmpValue (FP.dcmp (FP.ddiv (FP.i2d (nI (sumN τ np))) (FP.i2d (nI (cntN τ np)))) (FP.ddiv (FP.i2d (nI (sumN τ np))) (FP.i2d (nI (cntN τ np))))) .l = 0 := fun q => fp_ok (Nat.pos_of_ne_zero (fun z => q (by rw [z, nI_0]))) (by have := cntN_le (τ := τ) np; omega) (by omega)
  have k727 : G F k0 n0 [lanO h p ri A.1 hp pts 0 wts tps r (-1) B.1 ti, progO p rc rn rt, rowW F.1.2.2 rc ac 80 fc np, rowW F.1.2.2 rn an 80 fn np, rowW F.1.2.2 rt at0 80 ft np, rowW F.1.2.2 ri ai 20 fi ni, stOv A v, rw1 F.1.2.2 A v, rw2 F.1.2.2 A v, rw3 F.1.2.2 A v, rw4 F.1.2.2 A v, pastO hp ma cnt, arrM F.1.2.2 ma ad, momsW ad M, stOv B w, rw1 F.1.2.2 B w, rw2 F.1.2.2 B w, rw3 F.1.2.2 B w, rw4 F.1.2.2 B w, ptsA F.1.2.2 pts ap, poO (ap 0) 0 0 false 0 0 0 0, tpsA F.1.2.2 tps tp, tapeO (tp 1) rs rj rec', rowW F.1.2.2 rs as 200 fs ns, rowW F.1.2.2 rj aj 20 fj nj, [(qo, .inl (F.1.2.2 5, np, .inr (.inr (.inr (.inr (adF aq np))))))], [(qc, .inl (F.1.2.2 0, 29, .inl cdF))], pairsR F.1.2.2 aq fc fn np] 727 [some (.ref b), some (.ref h), some (.ref qo), none, some (.int (nI cnt)), some (.int (nI (sumN τ np))), some (.int (nI (cntN τ np))), none, none, none, none, none, none, none, none, none, none, none, none, none, none, none] [] := by
    refine g_aload_n hF dL_law_727 rfl ?_
    refine g_iconst (v := (1)) hF dL_law_728 rfl ?_
    refine g_callVd hF (c_record hck (by omega) (by omega) hns hnj) cal_X8_record rfl m_702 (by decide) (Or.inl rfl) hkM hnM 0 rfl rfl [0, 5, 6, 11, 12, 13, 21, 22, 23, 24] rfl rfl (Nat.le_of_ble_eq_true rfl) rfl (Nat.le_of_ble_eq_true rfl) dL_law_729 ?_
    try dsimp only [gput, gputA, List.set, stGs, List.cons_append, List.nil_append]
    refine g_iload hF dL_law_732 rfl ?_
    refine g_icmp_ne (tgt := 746) hF dL_law_734 (by decide) (fun c_734 => absurd rfl c_734) (fun c_734 => ?_)
    refine g_aload_n hF dL_law_737 rfl ?_
    refine g_iconst (v := (1)) hF dL_law_738 rfl ?_
    refine g_callVq hF (c_parts hck (by omega) steps_same) cal_X8_parts rfl m_739 (by decide) (Or.inl rfl) hkM hnM 0 rfl rfl [0, 6, 11, 12, 13, 21, 22, 23] rfl rfl rfl (Nat.le_of_ble_eq_true rfl) dL_law_739 ?_
    refine g_iconst (v := (-1)) hF dL_law_742 rfl ?_
    refine g_icmp_eq (tgt := 748) hF dL_law_743 (by decide) (fun c_743 => ?_) (fun c_743 => absurd rfl c_743)
    refine g_forgetN [5, 6] ?_
    dsimp only [List.foldl, List.set]
    exact kk
  refine g_iload hF dL_law_696 rfl ?_
  refine g_iload hF dL_law_698 rfl ?_
  refine g_icmp_lt (tgt := 746) hF dL_law_700 (by decide) (fun c_700 => absurd c_700 (nI_nlt hcs (by omega))) (fun c_700 => ?_)
  refine g_aload_n hF dL_law_703 rfl ?_
  refine g_callVq hF (c_heat (by omega) (by rw [heat_eq hτ (by omega) np (Nat.le_refl np)]; exact fun q => (hfp q).1)) cal_X8_heat rfl m_768 (by decide) (Or.inl rfl) hkM hnM 0 rfl rfl [0, 1, 2, 4] rfl rfl rfl (Nat.le_of_ble_eq_true rfl) dL_law_704 ?_
  rw [heat_eq hτ (by omega) np (Nat.le_refl np)]
  refine g_iload hF dL_law_707 rfl ?_
  refine g_if_ne (tgt := 716) hF dL_law_709 (by decide) (fun c_709 => ?_) (fun c_709 => ?_)
  · rw [heatF_n c_709]
    refine g_iload hF dL_law_716 rfl ?_
    refine g_i2d hF dL_law_718 ?_
    refine g_iload hF dL_law_719 rfl ?_
    refine g_i2d hF dL_law_721 ?_
    refine g_ddiv hF dL_law_722 (hfp c_709).1 ?_
    refine g_dcmp hF dL_law_723 ?_
    refine g_if_ne (tgt := 746) hF dL_law_724 (by decide) (fun c_724 => absurd ((hfp c_709).2) c_724) (fun c_724 => ?_)
    exact k727
  · rw [heatF_0 c_709]
    refine g_dconst0 hF dL_law_712 ?_
    refine g_goto (tgt := 723) hF dL_law_713 (by decide) ?_
    refine g_dcmp hF dL_law_723 ?_
    refine g_if_ne (tgt := 746) hF dL_law_724 (by decide) (fun c_724 => absurd fp_zero c_724) (fun c_724 => ?_)
    exact k727
set_option maxHeartbeats 4000000 in
set_option maxRecDepth 100000 in
/-- the law, 748 to 808: the record played again -/
theorem pT3 {F : Fix} {kM nM k0 n0 : Nat} {b h p ri hp pts wts tps ti rc rn rt ac an at0 np ai ni ma rs rj as ns aj nj qo qc cnt : Nat} {A B : AV} {ad ap tp aq : Nat → Nat} {fc fn fi fs fj ft : Nat → Int32} {v w : SV} {M : Nat → Nat → Int32} {r : Int32} {rec' : Bool} (hF : Ok F cL_law "LanternLaw" 7 kM nM) (hkM : k0 ≤ kM) (hnM : n0 ≤ nM) (hnp : np < 32) (hni : ni ≤ 20) (hI : Inv (fc, np) (fn, np) (fi, ni) initS (ft, v, cnt, M)) (hcn : cnt ≤ 200) (hnj : nj ≤ 20) (htp : REq (va_cpy fj fi 0 0 (min nj 20), min nj 20) (fi, ni)) (kk : ∀ (ft2 : Nat → Int32) (v2 : SV) (M2 : Nat → Nat → Int32), Inv (fc, np) (fn, np) (fi, ni) initS (ft2, v2, cnt, M2) → G F k0 n0 [lanO h p ri A.1 hp pts 0 wts tps 8 (-1) B.1 ti, progO p rc rn rt, rowW F.1.2.2 rc ac 80 fc np, rowW F.1.2.2 rn an 80 fn np, rowW F.1.2.2 rt at0 80 ft2 np, rowW F.1.2.2 ri ai 20 ((va_cpy fj fi 0 0 (min nj 20), min nj 20).1) ((va_cpy fj fi 0 0 (min nj 20), min nj 20).2), stOv A v2, rw1 F.1.2.2 A v2, rw2 F.1.2.2 A v2, rw3 F.1.2.2 A v2, rw4 F.1.2.2 A v2, pastO hp ma cnt, arrM F.1.2.2 ma ad, momsW ad M2, stOv B w, rw1 F.1.2.2 B w, rw2 F.1.2.2 B w, rw3 F.1.2.2 B w, rw4 F.1.2.2 B w, ptsA F.1.2.2 pts ap, poO (ap 0) 0 0 false 0 0 0 0, tpsA F.1.2.2 tps tp, tapeO (tp 1) rs rj true, rowW F.1.2.2 rs as 200 fs cnt, rowW F.1.2.2 rj aj 20 fj nj, [(qo, .inl (F.1.2.2 5, np, .inr (.inr (.inr (.inr (adF aq np))))))], [(qc, .inl (F.1.2.2 0, 29, .inl cdF))], pairsR F.1.2.2 aq fc fn np] 808 [some (.ref b), some (.ref h), some (.ref qo), none, some (.int (nI cnt)), none, none, none, none, none, none, none, none, none, none, none, none, none, none, none, none, none] []) : G F k0 n0 [lanO h p ri A.1 hp pts 0 wts tps r (-1) B.1 ti, progO p rc rn rt, rowW F.1.2.2 rc ac 80 fc np, rowW F.1.2.2 rn an 80 fn np, rowW F.1.2.2 rt at0 80 ft np, rowW F.1.2.2 ri ai 20 fi ni, stOv A v, rw1 F.1.2.2 A v, rw2 F.1.2.2 A v, rw3 F.1.2.2 A v, rw4 F.1.2.2 A v, pastO hp ma cnt, arrM F.1.2.2 ma ad, momsW ad M, stOv B w, rw1 F.1.2.2 B w, rw2 F.1.2.2 B w, rw3 F.1.2.2 B w, rw4 F.1.2.2 B w, ptsA F.1.2.2 pts ap, poO (ap 0) 0 0 false 0 0 0 0, tpsA F.1.2.2 tps tp, tapeO (tp 1) rs rj true, rowW F.1.2.2 rs as 200 fs cnt, rowW F.1.2.2 rj aj 20 fj nj, [(qo, .inl (F.1.2.2 5, np, .inr (.inr (.inr (.inr (adF aq np))))))], [(qc, .inl (F.1.2.2 0, 29, .inl cdF))], pairsR F.1.2.2 aq fc fn np] 748 [some (.ref b), some (.ref h), some (.ref qo), none, some (.int (nI cnt)), none, none, none, none, none, none, none, none, none, none, none, none, none, none, none, none, none] [] := by
  have hv : okS v := hI.1
  refine g_aload_n hF dL_law_748 rfl ?_
  refine g_iconst (v := (1)) hF dL_law_749 rfl ?_
  refine g_callVq hF (c_told (by decide) (by decide)) cal_X8_told rfl m_617 (by decide) (Or.inl rfl) hkM hnM 0 rfl rfl [0, 6, 7, 9, 10, 11] rfl rfl rfl (Nat.le_of_ble_eq_true rfl) dL_law_750 ?_
  rw [told_1]
  refine g_iconst (v := (2)) hF dL_law_753 rfl ?_
  have k762 : G F k0 n0 [lanO h p ri A.1 hp pts 0 wts tps r (-1) B.1 ti, progO p rc rn rt, rowW F.1.2.2 rc ac 80 fc np, rowW F.1.2.2 rn an 80 fn np, rowW F.1.2.2 rt at0 80 ft np, rowW F.1.2.2 ri ai 20 fi ni, stOv A v, rw1 F.1.2.2 A v, rw2 F.1.2.2 A v, rw3 F.1.2.2 A v, rw4 F.1.2.2 A v, pastO hp ma cnt, arrM F.1.2.2 ma ad, momsW ad M, stOv B w, rw1 F.1.2.2 B w, rw2 F.1.2.2 B w, rw3 F.1.2.2 B w, rw4 F.1.2.2 B w, ptsA F.1.2.2 pts ap, poO (ap 0) 0 0 false 0 0 0 0, tpsA F.1.2.2 tps tp, tapeO (tp 1) rs rj true, rowW F.1.2.2 rs as 200 fs cnt, rowW F.1.2.2 rj aj 20 fj nj, [(qo, .inl (F.1.2.2 5, np, .inr (.inr (.inr (.inr (adF aq np))))))], [(qc, .inl (F.1.2.2 0, 29, .inl cdF))], pairsR F.1.2.2 aq fc fn np] 762 [some (.ref b), some (.ref h), some (.ref qo), none, some (.int (nI cnt)), none, none, none, none, none, none, none, none, none, none, none, none, none, none, none, none, none] [.int (bI (!decide (2 ≤ v.2.2.2.2.2.1)))] := by
    refine g_istore hF dL_law_762 (Nat.le_of_ble_eq_true rfl) rfl ?_
    refine g_aload_n hF dL_law_764 rfl ?_
    refine g_callSq hF (c_L_state hv (by omega)) cal_L_state rfl m_843 (by decide) (Or.inl rfl) hkM hnM [0, 6, 7, 8, 9, 10, 11, 12, 13] rfl rfl rfl (Nat.le_of_ble_eq_true rfl) dL_law_765 ?_
    refine g_lstore hF dL_law_768 (Nat.le_of_ble_eq_true rfl) rfl ?_
    refine g_aload_n hF dL_law_770 rfl ?_
    refine g_iconst (v := (1)) hF dL_law_771 rfl ?_
    obtain ⟨ft2, v2, M2, hx, hI2, hse⟩ := iter_play (ft0 := zeroTo ft np) htp hI
    have hv2 : okS v2 := hI2.1
    refine g_callVd hF (c_replayX hv (by omega) (by omega) (by omega) hnj hx) cal_X8_replay rfl m_734 (by decide) (Or.inl rfl) hkM hnM 0 rfl rfl [0, 1, 2, 3, 4, 5, 6, 7, 8, 9, 10, 11, 12, 13, 21, 22, 23, 24] rfl rfl (Nat.le_of_ble_eq_true rfl) rfl (Nat.le_of_ble_eq_true rfl) dL_law_772 ?_
    try dsimp only [gput, gputA, List.set, stGs, List.cons_append, List.nil_append]
    refine g_iload hF dL_law_775 rfl ?_
    refine g_icmp_ne (tgt := 806) hF dL_law_777 (by decide) (fun c_777 => absurd rfl c_777) (fun c_777 => ?_)
    refine g_iload hF dL_law_780 rfl ?_
    try dsimp only [gput, gputA, List.set, stGs, List.cons_append, List.nil_append]
    have k795 : G F k0 n0 [lanO h p ri A.1 hp pts 0 wts tps 8 (-1) B.1 ti, progO p rc rn rt, rowW F.1.2.2 rc ac 80 fc np, rowW F.1.2.2 rn an 80 fn np, rowW F.1.2.2 rt at0 80 ft2 np, rowW F.1.2.2 ri ai 20 ((va_cpy fj fi 0 0 (min nj 20), min nj 20).1) ((va_cpy fj fi 0 0 (min nj 20), min nj 20).2), stOv A v2, rw1 F.1.2.2 A v2, rw2 F.1.2.2 A v2, rw3 F.1.2.2 A v2, rw4 F.1.2.2 A v2, pastO hp ma cnt, arrM F.1.2.2 ma ad, momsW ad M2, stOv B w, rw1 F.1.2.2 B w, rw2 F.1.2.2 B w, rw3 F.1.2.2 B w, rw4 F.1.2.2 B w, ptsA F.1.2.2 pts ap, poO (ap 0) 0 0 false 0 0 0 0, tpsA F.1.2.2 tps tp, tapeO (tp 1) rs rj true, rowW F.1.2.2 rs as 200 fs cnt, rowW F.1.2.2 rj aj 20 fj nj, [(qo, .inl (F.1.2.2 5, np, .inr (.inr (.inr (.inr (adF aq np))))))], [(qc, .inl (F.1.2.2 0, 29, .inl cdF))], pairsR F.1.2.2 aq fc fn np] 795 [some (.ref b), some (.ref h), some (.ref qo), none, some (.int (nI cnt)), none, none, some (.int (bI (!decide (2 ≤ v.2.2.2.2.2.1)))), some (.long (stateL r (-1) cnt v M)), none, none, none, none, none, none, none, none, none, none, none, none, none] [] := by
      refine g_aload_n hF dL_law_795 rfl ?_
      refine g_bipush (v := (8)) hF dL_law_796 rfl ?_
      refine g_callVq hF (c_told (by decide) (by decide)) cal_X8_told rfl m_617 (by decide) (Or.inl rfl) hkM hnM 0 rfl rfl [0, 6, 7, 9, 10, 11] rfl rfl rfl (Nat.le_of_ble_eq_true rfl) dL_law_798 ?_
      rw [told_8]
      refine g_bipush (v := (8)) hF dL_law_801 rfl ?_
      refine g_icmp_eq (tgt := 808) hF dL_law_803 (by decide) (fun c_803 => ?_) (fun c_803 => absurd rfl c_803)
      refine g_forgetN [7, 8] ?_
      dsimp only [List.foldl, List.set]
      exact kk ft2 v2 M2 hI2
    refine g_if_eq (tgt := 795) hF dL_law_782 (by decide) (fun c_782 => ?_) (fun c_782 => ?_)
    · try dsimp only [gput, gputA, List.set, stGs, List.cons_append, List.nil_append]
      exact k795
    · refine g_aload_n hF dL_law_785 rfl ?_
      refine g_callSq hF (c_L_state hv2 (by omega)) cal_L_state rfl m_843 (by decide) (Or.inl rfl) hkM hnM [0, 6, 7, 8, 9, 10, 11, 12, 13] rfl rfl rfl (Nat.le_of_ble_eq_true rfl) dL_law_786 ?_
      rw [← stateL_eq (r := r) (c := (-1)) (hse (rdy c_782)) (inv_8 hI hI2)]
      refine g_lload hF dL_law_789 rfl ?_
      refine g_lcmp hF dL_law_791 ?_
      refine g_if_ne (tgt := 806) hF dL_law_792 (by decide) (fun c_792 => absurd (lcmp_self _) c_792) (fun c_792 => ?_)
      try dsimp only [gput, gputA, List.set, stGs, List.cons_append, List.nil_append]
      exact k795
  refine g_icmp_ge (tgt := 761) hF dL_law_754 (by decide) (fun c_754 => ?_) (fun c_754 => ?_)
  · refine g_iconst (v := (0)) hF dL_law_761 rfl ?_
    try dsimp only [gput, gputA, List.set, stGs, List.cons_append, List.nil_append]
    have z := k762
    rw [show (bI (!decide (2 ≤ v.2.2.2.2.2.1))) = 0 from by rw [decide_eq_true c_754]; rfl] at z
    exact z
  · refine g_iconst (v := (1)) hF dL_law_757 rfl ?_
    refine g_goto (tgt := 762) hF dL_law_758 (by decide) ?_
    try dsimp only [gput, gputA, List.set, stGs, List.cons_append, List.nil_append]
    have z := k762
    rw [show (bI (!decide (2 ≤ v.2.2.2.2.2.1))) = 1 from by rw [decide_eq_false c_754]; rfl] at z
    exact z
set_option maxHeartbeats 4000000 in
set_option maxRecDepth 100000 in
/-- the law, 808 to its end: a point at a step that was done -/
theorem pT4 {F : Fix} {kM nM k0 n0 : Nat} {b h p ri hp pts wts tps ti rc rn rt ac an at0 np ai ni ma rs rj as ns aj nj qo qc cnt : Nat} {A B : AV} {ad ap tp aq : Nat → Nat} {fc fn fi fs fj ft : Nat → Int32} {v w : SV} {M : Nat → Nat → Int32} {r : Int32} {rec' : Bool} {gi : Nat → Int32} {mi : Nat} (hF : Ok F cL_law "LanternLaw" 7 kM nM) (hkM : k0 ≤ kM) (hnM : n0 ≤ nM) (hnp : np < 32) (hni : ni ≤ 20) (hEnd : ∀ (pc : Nat) (gs : List va_W) (lv : List (Option Value)), decode cL_law pc = .ok (.ireturn, 1) → G F k0 n0 gs pc lv [.int 1]) (hI : Inv (fc, np) (fn, np) (fi, ni) initS (ft, v, cnt, M)) (hcn : cnt ≤ 200) (hmi : mi ≤ 20) (hrq : REq (gi, mi) (fi, ni))  : G F k0 n0 [lanO h p ri A.1 hp pts 0 wts tps r (-1) B.1 ti, progO p rc rn rt, rowW F.1.2.2 rc ac 80 fc np, rowW F.1.2.2 rn an 80 fn np, rowW F.1.2.2 rt at0 80 ft np, rowW F.1.2.2 ri ai 20 gi mi, stOv A v, rw1 F.1.2.2 A v, rw2 F.1.2.2 A v, rw3 F.1.2.2 A v, rw4 F.1.2.2 A v, pastO hp ma cnt, arrM F.1.2.2 ma ad, momsW ad M, stOv B w, rw1 F.1.2.2 B w, rw2 F.1.2.2 B w, rw3 F.1.2.2 B w, rw4 F.1.2.2 B w, ptsA F.1.2.2 pts ap, poO (ap 0) 0 0 false 0 0 0 0, tpsA F.1.2.2 tps tp, tapeO (tp 1) rs rj true, rowW F.1.2.2 rs as 200 fs ns, rowW F.1.2.2 rj aj 20 fj nj, [(qo, .inl (F.1.2.2 5, np, .inr (.inr (.inr (.inr (adF aq np))))))], [(qc, .inl (F.1.2.2 0, 29, .inl cdF))], pairsR F.1.2.2 aq fc fn np] 808 [some (.ref b), some (.ref h), some (.ref qo), none, some (.int (nI cnt)), none, none, none, none, none, none, none, none, none, none, none, none, none, none, none, none, none] [] := by
  have hv : okS v := hI.1
  refine g_iload hF dL_law_808 rfl ?_
  refine g_if_ne (tgt := 815) hF dL_law_810 (by decide) (fun c_810 => ?_) (fun c_810 => ?_)
  · have hc1 : 1 ≤ cnt := Nat.pos_of_ne_zero (fun z => c_810 (by rw [z, nI_0]))
    obtain ⟨⟨s, hs, e0⟩, -⟩ := past_in (show np < 2 ^ 31 by omega) hI (show cnt - 1 < cnt by omega)
    have e0 : M (cnt - 1) 0 = nI s := e0
    refine g_aload_n hF dL_law_815 rfl ?_
    refine g_iconst (v := (1)) hF dL_law_816 rfl ?_
    refine g_iconst (v := (0)) hF dL_law_817 rfl ?_
    refine g_callVq hF (c_then_m (j := 1) (k := 0) (by omega) (by decide) hc1 (by decide)) cal_X8_then rfl m_675 (by decide) (Or.inl rfl) hkM hnM 0 rfl rfl [0, 6, 7, 8, 9, 11, 12, 13] rfl rfl rfl (Nat.le_of_ble_eq_true rfl) dL_law_818 ?_
    rw [show tellM (M (cnt - 1)) (nI 0) = nI s from e0]
    refine g_istore hF dL_law_821 (Nat.le_of_ble_eq_true rfl) rfl ?_
    refine g_aload_n hF dL_law_823 rfl ?_
    refine g_iload hF dL_law_824 rfl ?_
    refine g_iconst (v := (0)) hF dL_law_826 rfl ?_
    refine g_callVd hF (c_point (show s < 80 by omega)) cal_X8_point rfl m_411 (by decide) (Or.inl rfl) hkM hnM 0 rfl rfl [0, 19, 20] rfl rfl (Nat.le_of_ble_eq_true rfl) rfl (Nat.le_of_ble_eq_true rfl) dL_law_827 ?_
    try dsimp only [gput, gputA, List.set, stGs, List.cons_append, List.nil_append]
    refine g_if_ne (tgt := 842) hF dL_law_830 (by decide) (fun c_830 => absurd rfl c_830) (fun c_830 => ?_)
    refine g_aload_n hF dL_law_833 rfl ?_
    refine g_callVd hF (c_restart hv (by omega)) cal_X8_restart rfl m_371 (by decide) (Or.inl rfl) hkM hnM 0 rfl rfl [0, 1, 4, 6, 7, 8, 9, 10, 11, 2] rfl rfl (Nat.le_of_ble_eq_true rfl) rfl (Nat.le_of_ble_eq_true rfl) dL_law_834 ?_
    try dsimp only [gput, gputA, List.set, stGs, List.cons_append, List.nil_append]
    refine g_aload_n hF dL_law_837 rfl ?_
    refine g_alen (v := nI np) hF rfl 25 5 rfl rfl rfl dL_law_838 ?_
    refine g_icmp_eq (tgt := 844) hF dL_law_839 (by decide) (fun c_839 => ?_) (fun c_839 => absurd rfl c_839)
    refine g_aload_n hF dL_law_844 rfl ?_
    refine g_sipush (v := (200)) hF dL_law_845 rfl ?_
    obtain ⟨came, ft2, v2, n2, M2, r2, hx, hle, h5, h5n⟩ := iter_last (ft0 := zeroTo ft np) (inp' := (gi, mi)) hnp hrq hI hc1 hcn hs e0
    refine g_callVd hF (c_run1X okS_clear (by omega) hmi (lt_500 (k := 200) (by decide) (by decide)) (by decide) (by decide) hx) cal_X8_run rfl m_439 (by decide) (Or.inl rfl) hkM hnM 0 rfl rfl [0, 1, 2, 3, 4, 5, 6, 7, 8, 9, 10, 11, 12, 13, 19, 20] rfl rfl (Nat.le_of_ble_eq_true rfl) rfl (Nat.le_of_ble_eq_true rfl) dL_law_848 ?_
    try dsimp only [gput, gputA, List.set, stGs, List.cons_append, List.nil_append]
    refine g_istore hF dL_law_851 (Nat.le_of_ble_eq_true rfl) rfl ?_
    refine g_iload hF dL_law_853 rfl ?_
    refine g_sipush (v := (200)) hF dL_law_855 rfl ?_
    refine g_icmp_gt (tgt := 912) hF dL_law_858 (by decide) (fun c_858 => absurd c_858 (show ¬ (200 : Int32) < nI came from nI_nlt hle (by decide))) (fun c_858 => ?_)
    refine g_aload_n hF dL_law_861 rfl ?_
    refine g_bipush (v := (8)) hF dL_law_862 rfl ?_
    refine g_callVq hF (c_told (by decide) (by decide)) cal_X8_told rfl m_617 (by decide) (Or.inl rfl) hkM hnM 0 rfl rfl [0, 6, 7, 9, 10, 11] rfl rfl rfl (Nat.le_of_ble_eq_true rfl) dL_law_864 ?_
    rw [told_8]
    refine g_iconst (v := (5)) hF dL_law_867 rfl ?_
    refine g_icmp_ne (tgt := 903) hF dL_law_868 (by decide) (fun c_868 => ?_) (fun c_868 => ?_)
    · refine g_iload hF dL_law_903 rfl ?_
      refine g_if_ne (tgt := 912) hF dL_law_905 (by decide) (fun c_905 => absurd (show nI s = 0 by rw [h5n c_868, nI_0]) c_905) (fun c_905 => ?_)
      refine g_iconst (v := (1)) hF dL_law_908 rfl ?_
      refine g_goto (tgt := 913) hF dL_law_909 (by decide) ?_
      exact hEnd _ _ _ dL_law_913
    · refine g_aload_n hF dL_law_871 rfl ?_
      refine g_iconst (v := (0)) hF dL_law_872 rfl ?_
      refine g_callVq hF (c_told (by decide) (by decide)) cal_X8_told rfl m_617 (by decide) (Or.inl rfl) hkM hnM 0 rfl rfl [0, 6, 7, 9, 10, 11] rfl rfl rfl (Nat.le_of_ble_eq_true rfl) dL_law_873 ?_
      rw [told_0, h5 c_868]
      refine g_iload hF dL_law_876 rfl ?_
      refine g_icmp_ne (tgt := 912) hF dL_law_878 (by decide) (fun c_878 => absurd rfl c_878) (fun c_878 => ?_)
      refine g_aload_n hF dL_law_881 rfl ?_
      refine g_bipush (v := (9)) hF dL_law_882 rfl ?_
      refine g_callVq hF (c_told (by decide) (by decide)) cal_X8_told rfl m_617 (by decide) (Or.inl rfl) hkM hnM 0 rfl rfl [0, 6, 7, 9, 10, 11] rfl rfl rfl (Nat.le_of_ble_eq_true rfl) dL_law_884 ?_
      rw [told_9, show causeF r2 = 0 from by rw [c_868]; rfl]
      refine g_if_ne (tgt := 912) hF dL_law_887 (by decide) (fun c_887 => absurd rfl c_887) (fun c_887 => ?_)
      refine g_aload_n hF dL_law_890 rfl ?_
      refine g_iconst (v := (0)) hF dL_law_891 rfl ?_
      refine g_iconst (v := (3)) hF dL_law_892 rfl ?_
      refine g_callVq hF (c_ofPoint_3) cal_X8_ofPoint rfl m_668 (by decide) (Or.inl rfl) hkM hnM 0 rfl rfl [0, 19, 20] rfl rfl rfl (Nat.le_of_ble_eq_true rfl) dL_law_893 ?_
      rw [show stF 0 r2 = 1 from by rw [c_868]; rfl]
      refine g_iconst (v := (1)) hF dL_law_896 rfl ?_
      refine g_icmp_ne (tgt := 912) hF dL_law_897 (by decide) (fun c_897 => absurd rfl c_897) (fun c_897 => ?_)
      refine g_goto (tgt := 908) hF dL_law_900 (by decide) ?_
      refine g_iconst (v := (1)) hF dL_law_908 rfl ?_
      refine g_goto (tgt := 913) hF dL_law_909 (by decide) ?_
      exact hEnd _ _ _ dL_law_913
  · refine g_iconst (v := (1)) hF dL_law_813 rfl ?_
    exact hEnd _ _ _ dL_law_814
