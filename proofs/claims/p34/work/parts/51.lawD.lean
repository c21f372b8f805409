set_option maxHeartbeats 4000000 in
set_option maxRecDepth 100000 in
/-- the law's loop -/
theorem pMain {F : Fix} {kM nM k0 n0 : Nat} {b h p ri hp pts wts tps ti rc rn rt ac an at0 np ai ni ma rs rj as ns aj nj qo qc : Nat} {A B : AV} {ad ap tp aq : Nat → Nat} {fc fn fi fs fj : Nat → Int32} {rec' : Bool} {L : Nat} {xs : Nat → Int32} (hF : Ok F cL_law "LanternLaw" 7 kM nM) (hkM : k0 ≤ kM) (hnM : n0 ≤ nM) (hnp : np < 32) (hni : ni ≤ 20) (hXF : F.2.2.2.2.2.2.2.2.2.2.2.2.1 = some (b, L, xs)) (hL : L < 2 ^ 31) (hal : Allow (fc, np) (fn, np)) (kkE : ∀ (ft : Nat → Int32) (v w : SV) (cnt : Nat) (M : Nat → Nat → Int32) (r : Int32) (tot : Nat), okS w → Inv (fc, np) (fn, np) (fi, ni) initS (ft, v, cnt, M) → TimesOk np tot ft → cnt ≤ tot → tot ≤ 288 → cnt ≤ 144 → G F k0 n0 [lanO h p ri A.1 hp pts 0 wts tps r (-1) B.1 ti, progO p rc rn rt, rowW F.1.2.2 rc ac 80 fc np, rowW F.1.2.2 rn an 80 fn np, rowW F.1.2.2 rt at0 80 ft np, rowW F.1.2.2 ri ai 20 fi ni, stOv A v, rw1 F.1.2.2 A v, rw2 F.1.2.2 A v, rw3 F.1.2.2 A v, rw4 F.1.2.2 A v, pastO hp ma cnt, arrM F.1.2.2 ma ad, momsW ad M, stOv B w, rw1 F.1.2.2 B w, rw2 F.1.2.2 B w, rw3 F.1.2.2 B w, rw4 F.1.2.2 B w, ptsA F.1.2.2 pts ap, poO (ap 0) 0 0 false 0 0 0 0, tpsA F.1.2.2 tps tp, tapeO (tp 1) rs rj rec', rowW F.1.2.2 rs as 200 fs ns, rowW F.1.2.2 rj aj 20 fj nj, [(qo, .inl (F.1.2.2 5, np, .inr (.inr (.inr (.inr (adF aq np))))))], [(qc, .inl (F.1.2.2 0, 29, .inl cdF))], pairsR F.1.2.2 aq fc fn np] 642 [some (.ref b), some (.ref h), some (.ref qo), none, some (.int (nI cnt)), none, none, none, none, none, none, none, none, none, none, none, none, none, none, none, none, none] []) : ∀ i, i ≤ 12 → ∀ (ft : Nat → Int32) (v w : SV) (cnt : Nat) (M : Nat → Nat → Int32) (r : Int32) (tot : Nat), okS w → Inv (fc, np) (fn, np) (fi, ni) initS (ft, v, cnt, M) → TimesOk np tot ft → cnt ≤ tot → tot ≤ 24 * i → cnt ≤ 12 * i → G F k0 n0 [lanO h p ri A.1 hp pts 0 wts tps r (-1) B.1 ti, progO p rc rn rt, rowW F.1.2.2 rc ac 80 fc np, rowW F.1.2.2 rn an 80 fn np, rowW F.1.2.2 rt at0 80 ft np, rowW F.1.2.2 ri ai 20 fi ni, stOv A v, rw1 F.1.2.2 A v, rw2 F.1.2.2 A v, rw3 F.1.2.2 A v, rw4 F.1.2.2 A v, pastO hp ma cnt, arrM F.1.2.2 ma ad, momsW ad M, stOv B w, rw1 F.1.2.2 B w, rw2 F.1.2.2 B w, rw3 F.1.2.2 B w, rw4 F.1.2.2 B w, ptsA F.1.2.2 pts ap, poO (ap 0) 0 0 false 0 0 0 0, tpsA F.1.2.2 tps tp, tapeO (tp 1) rs rj rec', rowW F.1.2.2 rs as 200 fs ns, rowW F.1.2.2 rj aj 20 fj nj, [(qo, .inl (F.1.2.2 5, np, .inr (.inr (.inr (.inr (adF aq np))))))], [(qc, .inl (F.1.2.2 0, 29, .inl cdF))], pairsR F.1.2.2 aq fc fn np] 76 [some (.ref b), some (.ref h), some (.ref qo), none, some (.int (nI cnt)), some (.int (nI i)), none, none, none, none, none, none, none, none, none, none, none, none, none, none, none, none] [] := by
  refine up_loop (Q := fun i => ∀ (ft : Nat → Int32) (v w : SV) (cnt : Nat) (M : Nat → Nat → Int32) (r : Int32) (tot : Nat), okS w → Inv (fc, np) (fn, np) (fi, ni) initS (ft, v, cnt, M) → TimesOk np tot ft → cnt ≤ tot → tot ≤ 24 * i → cnt ≤ 12 * i → G F k0 n0 [lanO h p ri A.1 hp pts 0 wts tps r (-1) B.1 ti, progO p rc rn rt, rowW F.1.2.2 rc ac 80 fc np, rowW F.1.2.2 rn an 80 fn np, rowW F.1.2.2 rt at0 80 ft np, rowW F.1.2.2 ri ai 20 fi ni, stOv A v, rw1 F.1.2.2 A v, rw2 F.1.2.2 A v, rw3 F.1.2.2 A v, rw4 F.1.2.2 A v, pastO hp ma cnt, arrM F.1.2.2 ma ad, momsW ad M, stOv B w, rw1 F.1.2.2 B w, rw2 F.1.2.2 B w, rw3 F.1.2.2 B w, rw4 F.1.2.2 B w, ptsA F.1.2.2 pts ap, poO (ap 0) 0 0 false 0 0 0 0, tpsA F.1.2.2 tps tp, tapeO (tp 1) rs rj rec', rowW F.1.2.2 rs as 200 fs ns, rowW F.1.2.2 rj aj 20 fj nj, [(qo, .inl (F.1.2.2 5, np, .inr (.inr (.inr (.inr (adF aq np))))))], [(qc, .inl (F.1.2.2 0, 29, .inl cdF))], pairsR F.1.2.2 aq fc fn np] 76 [some (.ref b), some (.ref h), some (.ref qo), none, some (.int (nI cnt)), some (.int (nI i)), none, none, none, none, none, none, none, none, none, none, none, none, none, none, none, none] []) ?_ (fun i hi ih => ?_)
  · intro ft v w cnt M r tot hw hI hT h1 h2 h3
    refine g_iload hF dL_law_76 rfl ?_
    refine g_bipush (v := (12)) hF dL_law_78 rfl ?_
    refine g_icmp_ge (tgt := 642) hF dL_law_80 (by decide) (fun c_80 => ?_) (fun c_80 => absurd (nI_le (Nat.le_refl 12) (by decide)) c_80)
    refine g_forgetN [5] ?_
    dsimp only [List.foldl, List.set]
    exact kkE ft v w cnt M r tot hw hI hT h1 (by omega) (by omega)
  · intro ft v w cnt M r tot hw hI hT h1 h2 h3
    refine g_iload hF dL_law_76 rfl ?_
    refine g_bipush (v := (12)) hF dL_law_78 rfl ?_
    refine g_icmp_ge (tgt := 642) hF dL_law_80 (by decide) (fun c_80 => absurd c_80 (nI_ge hi (by decide))) (fun c_80 => ?_)
    refine pA hF hkM hnM hnp hni hXF hL hi hw hI hT (by omega) (fun x k c came ft1 v1 w1 M1 r1 hk1 hk2 hc4 hw1 hI1 hT1 hc1 hr1 hE hout => ?_)
    refine pB hF hkM hnM hnp hni (show okS v1 from hI1.1) (show c < 12 by omega) (show v1.2.2.2.2.2.2.2 = nI (cnt + came) from inv_ck rfl hI1) hr1 hE (fun q => hout (of_decide_eq_false (bI_0.mp q))) ?_
    refine pC hF hkM hnM hnp hni hI1 hT1 (by omega) (by omega) (by omega) (fun ft2 v2 M2 r2 tot2 hI2 hT2 ht1 ht2 => ?_)
    refine pD hF hkM hnM hnp hni hal hw1 hI2 (by omega) (fun w2 hw2 => ?_)
    refine pE hF hkM hnM hnp hni hal hw2 hI2 (by omega) ?_
    refine pF hF hkM hnM hnp hni hal hw2 hI2 (by omega) (fun w3 hw3 => ?_)
    exact ih ft2 v2 w3 (cnt + came) M2 r2 tot2 hw3 hI2 hT2 (by omega) (by omega) (by omega)
set_option maxHeartbeats 4000000 in
set_option maxRecDepth 100000 in
/-- behind the loop -/
theorem pTail {F : Fix} {kM nM k0 n0 : Nat} {b h p ri hp pts wts tps ti rc rn rt ac an at0 np ai ni ma rs rj as ns aj nj qo qc cnt : Nat} {A B : AV} {ad ap tp aq : Nat → Nat} {fc fn fi fs fj ft : Nat → Int32} {v w : SV} {M : Nat → Nat → Int32} {r : Int32} {rec' : Bool} {tot : Nat} (hF : Ok F cL_law "LanternLaw" 7 kM nM) (hkM : k0 ≤ kM) (hnM : n0 ≤ nM) (hnp : np < 32) (hni : ni ≤ 20) (hEnd : ∀ (pc : Nat) (gs : List va_W) (lv : List (Option Value)), decode cL_law pc = .ok (.ireturn, 1) → G F k0 n0 gs pc lv [.int 1]) (hns : ns ≤ 200) (hnj : nj ≤ 20) (hI : Inv (fc, np) (fn, np) (fi, ni) initS (ft, v, cnt, M)) (hT : TimesOk np tot ft) (h1 : cnt ≤ tot) (h2 : tot ≤ 288) (h3 : cnt ≤ 144) : G F k0 n0 [lanO h p ri A.1 hp pts 0 wts tps r (-1) B.1 ti, progO p rc rn rt, rowW F.1.2.2 rc ac 80 fc np, rowW F.1.2.2 rn an 80 fn np, rowW F.1.2.2 rt at0 80 ft np, rowW F.1.2.2 ri ai 20 fi ni, stOv A v, rw1 F.1.2.2 A v, rw2 F.1.2.2 A v, rw3 F.1.2.2 A v, rw4 F.1.2.2 A v, pastO hp ma cnt, arrM F.1.2.2 ma ad, momsW ad M, stOv B w, rw1 F.1.2.2 B w, rw2 F.1.2.2 B w, rw3 F.1.2.2 B w, rw4 F.1.2.2 B w, ptsA F.1.2.2 pts ap, poO (ap 0) 0 0 false 0 0 0 0, tpsA F.1.2.2 tps tp, tapeO (tp 1) rs rj rec', rowW F.1.2.2 rs as 200 fs ns, rowW F.1.2.2 rj aj 20 fj nj, [(qo, .inl (F.1.2.2 5, np, .inr (.inr (.inr (.inr (adF aq np))))))], [(qc, .inl (F.1.2.2 0, 29, .inl cdF))], pairsR F.1.2.2 aq fc fn np] 642 [some (.ref b), some (.ref h), some (.ref qo), none, some (.int (nI cnt)), none, none, none, none, none, none, none, none, none, none, none, none, none, none, none, none, none] [] := by
  obtain ⟨τ, hτ, hs⟩ := hT
  refine pT1 hF hkM hnM hnp hni hτ (by omega) ?_
  refine pT2 hF hkM hnM hnp hni hτ (by omega) (by omega) (show v.2.2.2.2.2.2.2 = nI cnt from inv_ck rfl hI) (by omega) hns hnj ?_
  refine pT3 (rec' := true) (ns := 0) hF hkM hnM hnp hni hI (by omega) (Nat.min_le_right ni 20) (tape_in hni) (fun ft2 v2 M2 hI2 => ?_)
  exact pT4 (rec' := true) hF hkM hnM hnp hni hEnd hI2 (by omega) (Nat.min_le_right _ 20) (tape_in hni)
set_option maxHeartbeats 4000000 in
set_option maxRecDepth 100000 in
/-- the law, 0 to 76 -/
theorem pStart {F : Fix} {b L : Nat} {xs : Nat → Int32} (hF : Ok F cL_law "LanternLaw" 7 645635 7164719) (hXF : F.2.2.2.2.2.2.2.2.2.2.2.2.1 = some (b, L, xs)) (hL : L < 2 ^ 31) (kk : ∀ (h p ri hp pts wts tps ti rc rn rt ac an at0 np ai many ma rs rj as aj qo qc : Nat) (A B : AV) (ad ap tp aq : Nat → Nat) (fc fn fi ft : Nat → Int32), np < 32 → many ≤ 20 → (∀ j, j < np → progAllows (fc j) (fn j) = true ∧ ft j = 0) → G F 341 4143 [lanO h p ri A.1 hp pts 0 wts tps 0 (-1) B.1 ti, progO p rc rn rt, rowW F.1.2.2 rc ac 80 fc np, rowW F.1.2.2 rn an 80 fn np, rowW F.1.2.2 rt at0 80 ft np, rowW F.1.2.2 ri ai 20 fi many, stOv A initS, rw1 F.1.2.2 A initS, rw2 F.1.2.2 A initS, rw3 F.1.2.2 A initS, rw4 F.1.2.2 A initS, pastO hp ma 0, arrM F.1.2.2 ma ad, momsW ad (fun _ _ => 0), stOv B initS, rw1 F.1.2.2 B initS, rw2 F.1.2.2 B initS, rw3 F.1.2.2 B initS, rw4 F.1.2.2 B initS, ptsA F.1.2.2 pts ap, poO (ap 0) 0 0 false 0 0 0 0, tpsA F.1.2.2 tps tp, tapeO (tp 1) rs rj false, rowW F.1.2.2 rs as 200 (fun _ => 0) 0, rowW F.1.2.2 rj aj 20 (fun _ => 0) 0, [(qo, .inl (F.1.2.2 5, np, .inr (.inr (.inr (.inr (adF aq np))))))], [(qc, .inl (F.1.2.2 0, 29, .inl cdF))], pairsR F.1.2.2 aq fc fn np] 76 [some (.ref b), some (.ref h), some (.ref qo), none, some (.int (nI 0)), some (.int (nI 0)), none, none, none, none, none, none, none, none, none, none, none, none, none, none, none, none] []) : G F 0 0 [] 0 [some (.ref b), none, none, none, none, none, none, none, none, none, none, none, none, none, none, none, none, none, none, none, none, none] [] := by
  refine g_new (ci := 8) (fs := [.null, .null, .null, .null, .null, .int 0, .null, .int 0, .null, .int 0, .int 0, .null, .null]) hF rfl tyX8 tyX8_ok m_18 m_19 m_1 (fun j hj => by rcases (show j = 0 ∨ j = 1 ∨ j = 2 ∨ j = 3 ∨ j = 4 ∨ j = 5 ∨ j = 6 ∨ j = 7 ∨ j = 8 ∨ j = 9 ∨ j = 10 ∨ j = 11 ∨ j = 12 by omega) with rfl | rfl | rfl | rfl | rfl | rfl | rfl | rfl | rfl | rfl | rfl | rfl | rfl <;> rfl) (Nat.le_of_ble_eq_true rfl) (Nat.le_of_ble_eq_true rfl) dL_law_0 (fun h => ?_)
  try dsimp only [gput, gputA, List.set, stGs, List.cons_append, List.nil_append]
  refine g_dup hF dL_law_3 rfl ?_
  refine g_callI hF (c_Lan_init) cal_X8_init rfl m_20 (by decide) (Or.inl rfl) (Nat.le_of_ble_eq_true rfl) (Nat.le_of_ble_eq_true rfl) [0] rfl rfl rfl (Nat.le_of_ble_eq_true rfl) dL_law_4 (fun r gs1 hpo => ?_)
  obtain ⟨p, rc, rn, rt, ri, hp, pts, wts, tps, ti, ac, an, at0, ai, ma, rs, rj, as, aj, A, B, ad, ap, tp, rfl, rfl⟩ := hpo
  refine ⟨Nat.le_of_ble_eq_true rfl, ?_⟩
  try dsimp only [gput, gputA, List.set, stGs, List.cons_append, List.nil_append]
  refine g_astore_n hF dL_law_7 (Nat.le_of_ble_eq_true rfl) rfl ?_
  refine g_aload_n hF dL_law_8 rfl ?_
  refine g_aload_n hF dL_law_9 rfl ?_
  refine g_bipush (v := (8)) hF dL_law_10 rfl ?_
  refine g_aload_n hF dL_law_12 rfl ?_
  refine g_iconst (v := (0)) hF dL_law_13 rfl ?_
  refine g_callSq hF (c_L_cell (j := 0) hL (by decide)) cal_L_cell rfl m_814 (by decide) (Or.inr hXF.symm) (Nat.le_of_ble_eq_true rfl) (Nat.le_of_ble_eq_true rfl) [] rfl rfl rfl (Nat.le_of_ble_eq_true rfl) dL_law_14 ?_
  generalize celN L xs 0 = x0
  refine g_bipush (v := (24)) hF dL_law_17 rfl ?_
  refine g_callSq hF (c_L_below (by decide)) cal_L_below rfl m_810 (by decide) (Or.inl rfl) (Nat.le_of_ble_eq_true rfl) (Nat.le_of_ble_eq_true rfl) [] rfl rfl rfl (Nat.le_of_ble_eq_true rfl) dL_law_19 ?_
  obtain ⟨j0, hj0, e0⟩ := bel_ex x0 (n := 24) (by decide) (by decide)
  rw [show belI x0 24 = nI j0 from e0]
  refine g_iadd hF dL_law_22 ?_
  rw [show (8 : Int32) + nI j0 = nI (8 + j0) from nI_add 8 j0]
  obtain ⟨np, hnp, enp⟩ : ∃ np, np < 32 ∧ 8 + j0 = np := ⟨_, by omega, rfl⟩
  rw [enp]
  refine g_callS hF (c_L_program hL hnp m_822) cal_L_program rfl m_818 (by decide) (Or.inr hXF.symm) (Nat.le_of_ble_eq_true rfl) (Nat.le_of_ble_eq_true rfl) [0, 1, 2, 3, 4] rfl rfl rfl (Nat.le_of_ble_eq_true rfl) dL_law_23 (fun r gs1 hpo => ?_)
  obtain ⟨fc, fn, ft, qo, qc, aq, rfl, rfl, hall⟩ := hpo
  refine ⟨Nat.le_of_ble_eq_true rfl, ?_⟩
  try dsimp only [gput, gputA, List.set, stGs, List.cons_append, List.nil_append]
  refine g_widen (k' := 341) (n' := 4143) (Nat.le_of_ble_eq_true rfl) (Nat.le_of_ble_eq_true rfl) ?_
  refine g_astore_n hF dL_law_26 (Nat.le_of_ble_eq_true rfl) rfl ?_
  refine g_aload_n hF dL_law_27 rfl ?_
  refine g_iconst (v := (1)) hF dL_law_28 rfl ?_
  refine g_callSq hF (c_L_cell (j := 1) hL (by decide)) cal_L_cell rfl m_814 (by decide) (Or.inr hXF.symm) (Nat.le_of_ble_eq_true rfl) (Nat.le_of_ble_eq_true rfl) [] rfl rfl rfl (Nat.le_of_ble_eq_true rfl) dL_law_29 ?_
  generalize celN L xs 1 = x1
  refine g_iconst (v := (4)) hF dL_law_32 rfl ?_
  refine g_callSq hF (c_L_below (by decide)) cal_L_below rfl m_810 (by decide) (Or.inl rfl) (Nat.le_of_ble_eq_true rfl) (Nat.le_of_ble_eq_true rfl) [] rfl rfl rfl (Nat.le_of_ble_eq_true rfl) dL_law_33 ?_
  obtain ⟨many, hmany, em⟩ := bel_ex x1 (n := 4) (by decide) (by decide)
  rw [show belI x1 4 = nI many from em]
  refine g_istore_n hF dL_law_36 (Nat.le_of_ble_eq_true rfl) rfl ?_
  refine g_iconst (v := (0)) hF dL_law_37 rfl ?_
  refine g_istore hF dL_law_38 (Nat.le_of_ble_eq_true rfl) rfl ?_
  have loop : ∀ j, j ≤ many → ∀ fi : Nat → Int32, G F 341 4143 [lanO h p ri A.1 hp pts 0 wts tps 0 (-1) B.1 ti, progO p rc rn rt, rowW F.1.2.2 rc ac 80 fc np, rowW F.1.2.2 rn an 80 fn np, rowW F.1.2.2 rt at0 80 ft np, rowW F.1.2.2 ri ai 20 fi (j), stOv A initS, rw1 F.1.2.2 A initS, rw2 F.1.2.2 A initS, rw3 F.1.2.2 A initS, rw4 F.1.2.2 A initS, pastO hp ma 0, arrM F.1.2.2 ma ad, momsW ad (fun _ _ => 0), stOv B initS, rw1 F.1.2.2 B initS, rw2 F.1.2.2 B initS, rw3 F.1.2.2 B initS, rw4 F.1.2.2 B initS, ptsA F.1.2.2 pts ap, poO (ap 0) 0 0 false 0 0 0 0, tpsA F.1.2.2 tps tp, tapeO (tp 1) rs rj false, rowW F.1.2.2 rs as 200 (fun _ => 0) 0, rowW F.1.2.2 rj aj 20 (fun _ => 0) 0, [(qo, .inl (F.1.2.2 5, np, .inr (.inr (.inr (.inr (adF aq np))))))], [(qc, .inl (F.1.2.2 0, 29, .inl cdF))], pairsR F.1.2.2 aq fc fn np] 40 [some (.ref b), some (.ref h), some (.ref qo), some (.int (nI many)), some (.int (nI j)), none, none, none, none, none, none, none, none, none, none, none, none, none, none, none, none, none] [] := by
    refine up_loop (Q := fun j => ∀ fi : Nat → Int32, G F 341 4143 [lanO h p ri A.1 hp pts 0 wts tps 0 (-1) B.1 ti, progO p rc rn rt, rowW F.1.2.2 rc ac 80 fc np, rowW F.1.2.2 rn an 80 fn np, rowW F.1.2.2 rt at0 80 ft np, rowW F.1.2.2 ri ai 20 fi (j), stOv A initS, rw1 F.1.2.2 A initS, rw2 F.1.2.2 A initS, rw3 F.1.2.2 A initS, rw4 F.1.2.2 A initS, pastO hp ma 0, arrM F.1.2.2 ma ad, momsW ad (fun _ _ => 0), stOv B initS, rw1 F.1.2.2 B initS, rw2 F.1.2.2 B initS, rw3 F.1.2.2 B initS, rw4 F.1.2.2 B initS, ptsA F.1.2.2 pts ap, poO (ap 0) 0 0 false 0 0 0 0, tpsA F.1.2.2 tps tp, tapeO (tp 1) rs rj false, rowW F.1.2.2 rs as 200 (fun _ => 0) 0, rowW F.1.2.2 rj aj 20 (fun _ => 0) 0, [(qo, .inl (F.1.2.2 5, np, .inr (.inr (.inr (.inr (adF aq np))))))], [(qc, .inl (F.1.2.2 0, 29, .inl cdF))], pairsR F.1.2.2 aq fc fn np] 40 [some (.ref b), some (.ref h), some (.ref qo), some (.int (nI many)), some (.int (nI j)), none, none, none, none, none, none, none, none, none, none, none, none, none, none, none, none, none] []) ?_ (fun j hi ih => ?_)
    · intro fi
      refine g_iload hF dL_law_40 rfl ?_
      refine g_iload_n hF dL_law_42 rfl ?_
      refine g_icmp_ge (tgt := 70) hF dL_law_43 (by decide) (fun c_43 => ?_) (fun c_43 => absurd (nI_le (Nat.le_refl many) (by omega)) c_43)
      refine g_iconst (v := (0)) hF dL_law_70 rfl ?_
      refine g_istore hF dL_law_71 (Nat.le_of_ble_eq_true rfl) rfl ?_
      refine g_iconst (v := (0)) hF dL_law_73 rfl ?_
      refine g_istore hF dL_law_74 (Nat.le_of_ble_eq_true rfl) rfl ?_
      refine g_forgetN [3] ?_
      dsimp only [List.foldl, List.set]
      exact kk h p ri hp pts wts tps ti rc rn rt ac an at0 np ai many ma rs rj as aj qo qc A B ad ap tp aq fc fn fi ft hnp (by omega) hall
    · intro fi
      refine g_iload hF dL_law_40 rfl ?_
      refine g_iload_n hF dL_law_42 rfl ?_
      refine g_icmp_ge (tgt := 70) hF dL_law_43 (by decide) (fun c_43 => absurd c_43 (nI_ge hi (by omega))) (fun c_43 => ?_)
      refine g_aload_n hF dL_law_46 rfl ?_
      refine g_aload_n hF dL_law_47 rfl ?_
      refine g_iconst (v := (2)) hF dL_law_48 rfl ?_
      refine g_iload hF dL_law_49 rfl ?_
      refine g_iadd hF dL_law_51 ?_
      rw [show (2 : Int32) + nI j = nI (2 + j) from nI_add 2 j]
      refine g_callSq hF (c_L_cell (j := 2 + j) hL (by omega)) cal_L_cell rfl m_814 (by decide) (Or.inr hXF.symm) (Nat.le_of_ble_eq_true rfl) (Nat.le_of_ble_eq_true rfl) [] rfl rfl rfl (Nat.le_of_ble_eq_true rfl) dL_law_52 ?_
      generalize celN L xs (2 + j) = y
      refine g_bipush (v := (7)) hF dL_law_55 rfl ?_
      refine g_callSq hF (c_L_below (by decide)) cal_L_below rfl m_810 (by decide) (Or.inl rfl) (Nat.le_of_ble_eq_true rfl) (Nat.le_of_ble_eq_true rfl) [] rfl rfl rfl (Nat.le_of_ble_eq_true rfl) dL_law_57 ?_
      refine g_callVd hF (c_give (by omega)) cal_X8_give rfl m_287 (by decide) (Or.inl rfl) (Nat.le_of_ble_eq_true rfl) (Nat.le_of_ble_eq_true rfl) 0 rfl rfl [0, 5] rfl rfl (Nat.le_of_ble_eq_true rfl) rfl (Nat.le_of_ble_eq_true rfl) dL_law_60 ?_
      try dsimp only [gput, gputA, List.set, stGs, List.cons_append, List.nil_append]
      refine g_pop hF dL_law_63 rfl ?_
      refine g_iinc (v := nI (j + 1)) hF dL_law_64 rfl (nI_1 j) rfl ?_
      refine g_goto (tgt := 40) hF dL_law_67 (by decide) ?_
      try dsimp only [gput, gputA, List.set, stGs, List.cons_append, List.nil_append]
      exact ih _
  exact loop 0 (Nat.zero_le _) _
set_option maxHeartbeats 4000000 in
set_option maxRecDepth 100000 in
/-- the law's body -/
theorem pAll {F : Fix} {b L : Nat} {xs : Nat → Int32} (hF : Ok F cL_law "LanternLaw" 7 645635 7164719) (hXF : F.2.2.2.2.2.2.2.2.2.2.2.2.1 = some (b, L, xs)) (hL : L < 2 ^ 31) (hEnd : ∀ (pc : Nat) (gs : List va_W) (lv : List (Option Value)), decode cL_law pc = .ok (.ireturn, 1) → G F 341 4143 gs pc lv [.int 1]) : G F 0 0 [] 0 [some (.ref b), none, none, none, none, none, none, none, none, none, none, none, none, none, none, none, none, none, none, none, none, none] [] := by
  refine pStart hF hXF hL (fun h p ri hp pts wts tps ti rc rn rt ac an at0 np ai many ma rs rj as aj qo qc A B ad ap tp aq fc fn fi ft hnp hni hall => ?_)
  refine pMain hF (Nat.le_of_ble_eq_true rfl) (Nat.le_of_ble_eq_true rfl) hnp hni hXF hL (fun j hj => (hall j hj).1) (fun ft v w cnt M r tot hw hI hT h1 h2 h3 => ?_) 0 (by decide) ft initS initS 0 (fun _ _ => 0) 0 0 okS_init inv_init (zero_times (fun i hi => (hall i hi).2)) (Nat.le_refl 0) (Nat.zero_le _) (Nat.zero_le _)
  exact pTail hF (Nat.le_of_ble_eq_true rfl) (Nat.le_of_ble_eq_true rfl) hnp hni hEnd (by decide) (by decide) hI hT h1 h2 h3
