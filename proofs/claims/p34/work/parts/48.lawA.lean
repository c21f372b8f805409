set_option maxHeartbeats 4000000 in
set_option maxRecDepth 100000 in
/-- the law, 83 to 162: what is foreseen, and the run -/
theorem pA {F : Fix} {kM nM k0 n0 : Nat} {b h p ri hp pts wts tps ti rc rn rt ac an at0 np ai ni ma rs rj as ns aj nj qo qc cnt : Nat} {A B : AV} {ad ap tp aq : Nat → Nat} {fc fn fi fs fj ft : Nat → Int32} {v w : SV} {M : Nat → Nat → Int32} {r : Int32} {rec' : Bool} {tot : Nat} {i L : Nat} {xs : Nat → Int32} (hF : Ok F cL_law "LanternLaw" 7 kM nM) (hkM : k0 ≤ kM) (hnM : n0 ≤ nM) (hnp : np < 32) (hni : ni ≤ 20) (hXF : F.2.2.2.2.2.2.2.2.2.2.2.2.1 = some (b, L, xs)) (hL : L < 2 ^ 31) (hi : i < 12) (hw : okS w) (hI : Inv (fc, np) (fn, np) (fi, ni) initS (ft, v, cnt, M)) (hT : TimesOk np tot ft) (hcn : cnt + 12 ≤ 200) (kk : ∀ (x : Int32) (k c came : Nat) (ft1 : Nat → Int32) (v1 w1 : SV) (M1 : Nat → Nat → Int32) (r1 : Int32), 1 ≤ k → k ≤ 12 → c < 4 → okS w1 → Inv (fc, np) (fn, np) (fi, ni) initS (ft1, v1, cnt + came, M1) → TimesOk np (tot + came) ft1 → came ≤ k → r1 = rsn v1.2.2.2.2.2.1 → ((¬ 0 ≤ endsV k (came, v1) → came = k ∧ v1.2.2.2.2.2.1 = 0) ∧ (0 ≤ endsV k (came, v1) → endsV k (came, v1) = nI came ∧ ¬ v1.2.2.2.2.2.1 = 0)) → (¬ v.2.2.2.2.2.1 = 0 → came = 0) → G F k0 n0 [lanO h p ri A.1 hp pts 0 wts tps r1 (-1) B.1 ti, progO p rc rn rt, rowW F.1.2.2 rc ac 80 fc np, rowW F.1.2.2 rn an 80 fn np, rowW F.1.2.2 rt at0 80 ft1 np, rowW F.1.2.2 ri ai 20 fi ni, stOv A v1, rw1 F.1.2.2 A v1, rw2 F.1.2.2 A v1, rw3 F.1.2.2 A v1, rw4 F.1.2.2 A v1, pastO hp ma (cnt + came), arrM F.1.2.2 ma ad, momsW ad M1, stOv B w1, rw1 F.1.2.2 B w1, rw2 F.1.2.2 B w1, rw3 F.1.2.2 B w1, rw4 F.1.2.2 B w1, ptsA F.1.2.2 pts ap, poO (ap 0) 0 0 false 0 0 0 0, tpsA F.1.2.2 tps tp, tapeO (tp 1) rs rj rec', rowW F.1.2.2 rs as 200 fs ns, rowW F.1.2.2 rj aj 20 fj nj, [(qo, .inl (F.1.2.2 5, np, .inr (.inr (.inr (.inr (adF aq np))))))], [(qc, .inl (F.1.2.2 0, 29, .inl cdF))], pairsR F.1.2.2 aq fc fn np] 162 [some (.ref b), some (.ref h), some (.ref qo), none, some (.int (nI (cnt + came))), some (.int (nI i)), some (.int x), some (.int (nI k)), some (.int (endsV k (came, v1))), some (.int (nI c)), some (.int (getR v1.2.1 (nI c))), some (.int (bI (decide (v.2.2.2.2.2.1 = 0)))), some (.int (nI came)), none, none, none, none, none, none, none, none, none] []) : G F k0 n0 [lanO h p ri A.1 hp pts 0 wts tps r (-1) B.1 ti, progO p rc rn rt, rowW F.1.2.2 rc ac 80 fc np, rowW F.1.2.2 rn an 80 fn np, rowW F.1.2.2 rt at0 80 ft np, rowW F.1.2.2 ri ai 20 fi ni, stOv A v, rw1 F.1.2.2 A v, rw2 F.1.2.2 A v, rw3 F.1.2.2 A v, rw4 F.1.2.2 A v, pastO hp ma cnt, arrM F.1.2.2 ma ad, momsW ad M, stOv B w, rw1 F.1.2.2 B w, rw2 F.1.2.2 B w, rw3 F.1.2.2 B w, rw4 F.1.2.2 B w, ptsA F.1.2.2 pts ap, poO (ap 0) 0 0 false 0 0 0 0, tpsA F.1.2.2 tps tp, tapeO (tp 1) rs rj rec', rowW F.1.2.2 rs as 200 fs ns, rowW F.1.2.2 rj aj 20 fj nj, [(qo, .inl (F.1.2.2 5, np, .inr (.inr (.inr (.inr (adF aq np))))))], [(qc, .inl (F.1.2.2 0, 29, .inl cdF))], pairsR F.1.2.2 aq fc fn np] 83 [some (.ref b), some (.ref h), some (.ref qo), none, some (.int (nI cnt)), some (.int (nI i)), none, none, none, none, none, none, none, none, none, none, none, none, none, none, none, none] [] := by
  have hv : okS v := hI.1
  refine g_aload_n hF dL_law_83 rfl ?_
  refine g_iload hF dL_law_84 rfl ?_
  refine g_iconst (v := (4)) hF dL_law_86 rfl ?_
  refine g_iadd hF dL_law_87 ?_
  rw [show nI i + 4 = nI (i + 4) from nI_add i 4]
  refine g_callSq hF (c_L_cell (j := i + 4) hL (by omega)) cal_L_cell rfl m_814 (by decide) (Or.inr hXF.symm) hkM hnM [] rfl rfl rfl (Nat.le_of_ble_eq_true rfl) dL_law_88 ?_
  generalize celN L xs (i + 4) = x
  refine g_istore hF dL_law_91 (Nat.le_of_ble_eq_true rfl) rfl ?_
  refine g_iconst (v := (1)) hF dL_law_93 rfl ?_
  refine g_iload hF dL_law_94 rfl ?_
  refine g_bipush (v := (12)) hF dL_law_96 rfl ?_
  refine g_callSq hF (c_L_below (by decide)) cal_L_below rfl m_810 (by decide) (Or.inl rfl) hkM hnM [] rfl rfl rfl (Nat.le_of_ble_eq_true rfl) dL_law_98 ?_
  refine g_iadd hF dL_law_101 ?_
  obtain ⟨k, hk1, hk2, ek⟩ := bel12 x
  rw [ek]
  refine g_istore hF dL_law_102 (Nat.le_of_ble_eq_true rfl) rfl ?_
  refine g_aload_n hF dL_law_104 rfl ?_
  refine g_iload hF dL_law_105 rfl ?_
  obtain ⟨came, ft1, v1, M1, r1, hx, hI1, hT1, hc1, htry, hr1, hlt, hfull, hout⟩ := iter_run (k := k) hnp hI hT hk1
  obtain ⟨w1, hw1, ew1⟩ : ∃ w1, okS w1 ∧ (tryF (fc, np) (fn, np) (fi, ni) k (copyF w v)).2 = w1 := ⟨_, okS_try k okS_copy, rfl⟩
  obtain ⟨w2, hw2, ew2⟩ : ∃ w2, okS w2 ∧ (tryF (fc, np) (fn, np) (fi, ni) k (copyF w1 v)).2 = w2 := ⟨_, okS_try k okS_copy, rfl⟩
  refine g_callVd hF (c_endsX hv hw (by omega) (by omega) (lt_500 hk1 (by omega)) (by omega) htry ew1) cal_X8_endsIn rfl m_751 (by decide) (Or.inl rfl) hkM hnM 0 rfl rfl [0, 1, 2, 3, 5, 6, 7, 8, 9, 10, 14, 15, 16, 17, 18] rfl rfl (Nat.le_of_ble_eq_true rfl) rfl (Nat.le_of_ble_eq_true rfl) dL_law_107 ?_
  try dsimp only [gput, gputA, List.set, stGs, List.cons_append, List.nil_append]
  refine g_istore hF dL_law_110 (Nat.le_of_ble_eq_true rfl) rfl ?_
  refine g_iload hF dL_law_112 rfl ?_
  refine g_iconst (v := (2)) hF dL_law_114 rfl ?_
  refine g_ishr hF dL_law_115 ?_
  generalize x >>> (2 &&& 31) = y
  refine g_iconst (v := (4)) hF dL_law_116 rfl ?_
  refine g_callSq hF (c_L_below (by decide)) cal_L_below rfl m_810 (by decide) (Or.inl rfl) hkM hnM [] rfl rfl rfl (Nat.le_of_ble_eq_true rfl) dL_law_117 ?_
  obtain ⟨c, hc4, ec⟩ := bel_ex y (n := 4) (by decide) (by decide)
  rw [show belI y 4 = nI c from ec]
  refine g_istore hF dL_law_120 (Nat.le_of_ble_eq_true rfl) rfl ?_
  refine g_aload_n hF dL_law_122 rfl ?_
  refine g_iload hF dL_law_123 rfl ?_
  refine g_iload hF dL_law_125 rfl ?_
  refine g_callVd hF (c_cellX hv hw1 (by omega) (by omega) (lt_500 hk1 (by omega)) (by omega) htry ew2 (isCell_nI (by omega))) cal_X8_cellIn rfl m_764 (by decide) (Or.inl rfl) hkM hnM 0 rfl rfl [0, 1, 2, 3, 5, 6, 7, 8, 9, 10, 14, 15, 16, 17, 18] rfl rfl (Nat.le_of_ble_eq_true rfl) rfl (Nat.le_of_ble_eq_true rfl) dL_law_127 ?_
  try dsimp only [gput, gputA, List.set, stGs, List.cons_append, List.nil_append]
  refine g_istore hF dL_law_130 (Nat.le_of_ble_eq_true rfl) rfl ?_
  refine g_aload_n hF dL_law_132 rfl ?_
  refine g_iconst (v := (1)) hF dL_law_133 rfl ?_
  refine g_callVq hF (c_told (by decide) (by decide)) cal_X8_told rfl m_617 (by decide) (Or.inl rfl) hkM hnM 0 rfl rfl [0, 6, 7, 9, 10, 11] rfl rfl rfl (Nat.le_of_ble_eq_true rfl) dL_law_134 ?_
  rw [told_1]
  refine g_if_ne (tgt := 144) hF dL_law_137 (by decide) (fun c_137 => ?_) (fun c_137 => ?_)
  · refine g_iconst (v := (0)) hF dL_law_144 rfl ?_
    refine g_istore hF dL_law_145 (Nat.le_of_ble_eq_true rfl) rfl ?_
    refine g_aload_n hF dL_law_147 rfl ?_
    refine g_iload hF dL_law_148 rfl ?_
    refine g_callVd hF (c_runX hv (by omega) (by omega) (lt_500 hk1 (by omega)) (by omega) (by omega) hx) cal_X8_run rfl m_439 (by decide) (Or.inl rfl) hkM hnM 0 rfl rfl [0, 1, 2, 3, 4, 5, 6, 7, 8, 9, 10, 11, 12, 13] rfl rfl (Nat.le_of_ble_eq_true rfl) rfl (Nat.le_of_ble_eq_true rfl) dL_law_150 ?_
    try dsimp only [gput, gputA, List.set, stGs, List.cons_append, List.nil_append]
    refine g_istore hF dL_law_153 (Nat.le_of_ble_eq_true rfl) rfl ?_
    refine g_iload hF dL_law_155 rfl ?_
    refine g_iload hF dL_law_157 rfl ?_
    refine g_iadd hF dL_law_159 ?_
    rw [nI_add]
    refine g_istore hF dL_law_160 (Nat.le_of_ble_eq_true rfl) rfl ?_
    try dsimp only [gput, gputA, List.set, stGs, List.cons_append, List.nil_append]
    have z := kk x k c came ft1 v1 w2 M1 r1 hk1 hk2 hc4 hw2 hI1 hT1 hc1 hr1 (ends_le (by omega) hc1 hlt hfull) hout
    rw [show bI (decide (v.2.2.2.2.2.1 = 0)) = 0 from by rw [decide_eq_false c_137]; rfl] at z
    exact z
  · refine g_iconst (v := (1)) hF dL_law_140 rfl ?_
    refine g_goto (tgt := 145) hF dL_law_141 (by decide) ?_
    refine g_istore hF dL_law_145 (Nat.le_of_ble_eq_true rfl) rfl ?_
    refine g_aload_n hF dL_law_147 rfl ?_
    refine g_iload hF dL_law_148 rfl ?_
    refine g_callVd hF (c_runX hv (by omega) (by omega) (lt_500 hk1 (by omega)) (by omega) (by omega) hx) cal_X8_run rfl m_439 (by decide) (Or.inl rfl) hkM hnM 0 rfl rfl [0, 1, 2, 3, 4, 5, 6, 7, 8, 9, 10, 11, 12, 13] rfl rfl (Nat.le_of_ble_eq_true rfl) rfl (Nat.le_of_ble_eq_true rfl) dL_law_150 ?_
    try dsimp only [gput, gputA, List.set, stGs, List.cons_append, List.nil_append]
    refine g_istore hF dL_law_153 (Nat.le_of_ble_eq_true rfl) rfl ?_
    refine g_iload hF dL_law_155 rfl ?_
    refine g_iload hF dL_law_157 rfl ?_
    refine g_iadd hF dL_law_159 ?_
    rw [nI_add]
    refine g_istore hF dL_law_160 (Nat.le_of_ble_eq_true rfl) rfl ?_
    try dsimp only [gput, gputA, List.set, stGs, List.cons_append, List.nil_append]
    have z := kk x k c came ft1 v1 w2 M1 r1 hk1 hk2 hc4 hw2 hI1 hT1 hc1 hr1 (ends_le (by omega) hc1 hlt hfull) hout
    rw [show bI (decide (v.2.2.2.2.2.1 = 0)) = 1 from by rw [decide_eq_true c_137]; rfl] at z
    exact z
set_option maxHeartbeats 4000000 in
set_option maxRecDepth 100000 in
/-- the law, 162 to 274: what came is what was foreseen -/
theorem pB {F : Fix} {kM nM k0 n0 : Nat} {b h p ri hp pts wts tps ti rc rn rt ac an at0 np ai ni ma rs rj as ns aj nj qo qc cnt : Nat} {A B : AV} {ad ap tp aq : Nat → Nat} {fc fn fi fs fj ft : Nat → Int32} {v w : SV} {M : Nat → Nat → Int32} {r : Int32} {rec' : Bool} {x e wz : Int32} {k c came i : Nat} (hF : Ok F cL_law "LanternLaw" 7 kM nM) (hkM : k0 ≤ kM) (hnM : n0 ≤ nM) (hnp : np < 32) (hni : ni ≤ 20) (hv : okS v) (hc : c < 12) (hck : v.2.2.2.2.2.2.2 = nI cnt) (hr : r = rsn v.2.2.2.2.2.1) (hE : (¬ 0 ≤ e → came = k ∧ v.2.2.2.2.2.1 = 0) ∧ (0 ≤ e → e = nI came ∧ ¬ v.2.2.2.2.2.1 = 0)) (hout : wz = 0 → came = 0) (kk : G F k0 n0 [lanO h p ri A.1 hp pts 0 wts tps r (-1) B.1 ti, progO p rc rn rt, rowW F.1.2.2 rc ac 80 fc np, rowW F.1.2.2 rn an 80 fn np, rowW F.1.2.2 rt at0 80 ft np, rowW F.1.2.2 ri ai 20 fi ni, stOv A v, rw1 F.1.2.2 A v, rw2 F.1.2.2 A v, rw3 F.1.2.2 A v, rw4 F.1.2.2 A v, pastO hp ma cnt, arrM F.1.2.2 ma ad, momsW ad M, stOv B w, rw1 F.1.2.2 B w, rw2 F.1.2.2 B w, rw3 F.1.2.2 B w, rw4 F.1.2.2 B w, ptsA F.1.2.2 pts ap, poO (ap 0) 0 0 false 0 0 0 0, tpsA F.1.2.2 tps tp, tapeO (tp 1) rs rj rec', rowW F.1.2.2 rs as 200 fs ns, rowW F.1.2.2 rj aj 20 fj nj, [(qo, .inl (F.1.2.2 5, np, .inr (.inr (.inr (.inr (adF aq np))))))], [(qc, .inl (F.1.2.2 0, 29, .inl cdF))], pairsR F.1.2.2 aq fc fn np] 274 [some (.ref b), some (.ref h), some (.ref qo), none, some (.int (nI cnt)), some (.int (nI i)), some (.int x), some (.int (nI k)), some (.int e), some (.int (nI c)), some (.int (getR v.2.1 (nI c))), some (.int wz), some (.int (nI came)), none, none, none, none, none, none, none, none, none] []) : G F k0 n0 [lanO h p ri A.1 hp pts 0 wts tps r (-1) B.1 ti, progO p rc rn rt, rowW F.1.2.2 rc ac 80 fc np, rowW F.1.2.2 rn an 80 fn np, rowW F.1.2.2 rt at0 80 ft np, rowW F.1.2.2 ri ai 20 fi ni, stOv A v, rw1 F.1.2.2 A v, rw2 F.1.2.2 A v, rw3 F.1.2.2 A v, rw4 F.1.2.2 A v, pastO hp ma cnt, arrM F.1.2.2 ma ad, momsW ad M, stOv B w, rw1 F.1.2.2 B w, rw2 F.1.2.2 B w, rw3 F.1.2.2 B w, rw4 F.1.2.2 B w, ptsA F.1.2.2 pts ap, poO (ap 0) 0 0 false 0 0 0 0, tpsA F.1.2.2 tps tp, tapeO (tp 1) rs rj rec', rowW F.1.2.2 rs as 200 fs ns, rowW F.1.2.2 rj aj 20 fj nj, [(qo, .inl (F.1.2.2 5, np, .inr (.inr (.inr (.inr (adF aq np))))))], [(qc, .inl (F.1.2.2 0, 29, .inl cdF))], pairsR F.1.2.2 aq fc fn np] 162 [some (.ref b), some (.ref h), some (.ref qo), none, some (.int (nI cnt)), some (.int (nI i)), some (.int x), some (.int (nI k)), some (.int e), some (.int (nI c)), some (.int (getR v.2.1 (nI c))), some (.int wz), some (.int (nI came)), none, none, none, none, none, none, none, none, none] [] := by
  have k262 : G F k0 n0 [lanO h p ri A.1 hp pts 0 wts tps r (-1) B.1 ti, progO p rc rn rt, rowW F.1.2.2 rc ac 80 fc np, rowW F.1.2.2 rn an 80 fn np, rowW F.1.2.2 rt at0 80 ft np, rowW F.1.2.2 ri ai 20 fi ni, stOv A v, rw1 F.1.2.2 A v, rw2 F.1.2.2 A v, rw3 F.1.2.2 A v, rw4 F.1.2.2 A v, pastO hp ma cnt, arrM F.1.2.2 ma ad, momsW ad M, stOv B w, rw1 F.1.2.2 B w, rw2 F.1.2.2 B w, rw3 F.1.2.2 B w, rw4 F.1.2.2 B w, ptsA F.1.2.2 pts ap, poO (ap 0) 0 0 false 0 0 0 0, tpsA F.1.2.2 tps tp, tapeO (tp 1) rs rj rec', rowW F.1.2.2 rs as 200 fs ns, rowW F.1.2.2 rj aj 20 fj nj, [(qo, .inl (F.1.2.2 5, np, .inr (.inr (.inr (.inr (adF aq np))))))], [(qc, .inl (F.1.2.2 0, 29, .inl cdF))], pairsR F.1.2.2 aq fc fn np] 262 [some (.ref b), some (.ref h), some (.ref qo), none, some (.int (nI cnt)), some (.int (nI i)), some (.int x), some (.int (nI k)), some (.int e), some (.int (nI c)), some (.int (getR v.2.1 (nI c))), some (.int wz), some (.int (nI came)), none, none, none, none, none, none, none, none, none] [] := by
    refine g_iload hF dL_law_262 rfl ?_
    refine g_if_ne (tgt := 274) hF dL_law_264 (by decide) (fun c_264 => ?_) (fun c_264 => ?_)
    · exact kk
    · refine g_iload hF dL_law_267 rfl ?_
      refine g_if_le (tgt := 274) hF dL_law_269 (by decide) (fun c_269 => ?_) (fun c_269 => absurd (show nI came ≤ 0 by rw [hout c_264]; decide +kernel) c_269)
      exact kk
  have k226 : G F k0 n0 [lanO h p ri A.1 hp pts 0 wts tps r (-1) B.1 ti, progO p rc rn rt, rowW F.1.2.2 rc ac 80 fc np, rowW F.1.2.2 rn an 80 fn np, rowW F.1.2.2 rt at0 80 ft np, rowW F.1.2.2 ri ai 20 fi ni, stOv A v, rw1 F.1.2.2 A v, rw2 F.1.2.2 A v, rw3 F.1.2.2 A v, rw4 F.1.2.2 A v, pastO hp ma cnt, arrM F.1.2.2 ma ad, momsW ad M, stOv B w, rw1 F.1.2.2 B w, rw2 F.1.2.2 B w, rw3 F.1.2.2 B w, rw4 F.1.2.2 B w, ptsA F.1.2.2 pts ap, poO (ap 0) 0 0 false 0 0 0 0, tpsA F.1.2.2 tps tp, tapeO (tp 1) rs rj rec', rowW F.1.2.2 rs as 200 fs ns, rowW F.1.2.2 rj aj 20 fj nj, [(qo, .inl (F.1.2.2 5, np, .inr (.inr (.inr (.inr (adF aq np))))))], [(qc, .inl (F.1.2.2 0, 29, .inl cdF))], pairsR F.1.2.2 aq fc fn np] 226 [some (.ref b), some (.ref h), some (.ref qo), none, some (.int (nI cnt)), some (.int (nI i)), some (.int x), some (.int (nI k)), some (.int e), some (.int (nI c)), some (.int (getR v.2.1 (nI c))), some (.int wz), some (.int (nI came)), none, none, none, none, none, none, none, none, none] [] := by
    refine g_aload_n hF dL_law_226 rfl ?_
    refine g_bipush (v := (8)) hF dL_law_227 rfl ?_
    refine g_callVq hF (c_told (by decide) (by decide)) cal_X8_told rfl m_617 (by decide) (Or.inl rfl) hkM hnM 0 rfl rfl [0, 6, 7, 9, 10, 11] rfl rfl rfl (Nat.le_of_ble_eq_true rfl) dL_law_229 ?_
    rw [told_8]
    refine g_aload_n hF dL_law_232 rfl ?_
    refine g_iconst (v := (1)) hF dL_law_233 rfl ?_
    refine g_callVq hF (c_told (by decide) (by decide)) cal_X8_told rfl m_617 (by decide) (Or.inl rfl) hkM hnM 0 rfl rfl [0, 6, 7, 9, 10, 11] rfl rfl rfl (Nat.le_of_ble_eq_true rfl) dL_law_234 ?_
    rw [told_1]
    refine g_if_ne (tgt := 245) hF dL_law_237 (by decide) (fun c_237 => ?_) (fun c_237 => ?_)
    · refine g_aload_n hF dL_law_245 rfl ?_
      refine g_iconst (v := (1)) hF dL_law_246 rfl ?_
      refine g_callVq hF (c_told (by decide) (by decide)) cal_X8_told rfl m_617 (by decide) (Or.inl rfl) hkM hnM 0 rfl rfl [0, 6, 7, 9, 10, 11] rfl rfl rfl (Nat.le_of_ble_eq_true rfl) dL_law_247 ?_
      rw [told_1]
      refine g_iconst (v := (1)) hF dL_law_250 rfl ?_
      refine g_icmp_ne (tgt := 258) hF dL_law_251 (by decide) (fun c_251 => ?_) (fun c_251 => ?_)
      · refine g_iconst (v := (2)) hF dL_law_258 rfl ?_
        refine g_icmp_ne (tgt := 272) hF dL_law_259 (by decide) (fun c_259 => absurd (show r = 2 from hr.trans (by unfold rsn; rw [if_neg c_237, if_neg c_251])) c_259) (fun c_259 => ?_)
        exact k262
      · refine g_iconst (v := (1)) hF dL_law_254 rfl ?_
        refine g_goto (tgt := 259) hF dL_law_255 (by decide) ?_
        refine g_icmp_ne (tgt := 272) hF dL_law_259 (by decide) (fun c_259 => absurd (show r = 1 from hr.trans (by rw [c_251]; rfl)) c_259) (fun c_259 => ?_)
        exact k262
    · refine g_bipush (v := (6)) hF dL_law_240 rfl ?_
      refine g_goto (tgt := 259) hF dL_law_242 (by decide) ?_
      refine g_icmp_ne (tgt := 272) hF dL_law_259 (by decide) (fun c_259 => absurd (show r = 6 from hr.trans (by rw [c_237]; rfl)) c_259) (fun c_259 => ?_)
      exact k262
  have k179 : G F k0 n0 [lanO h p ri A.1 hp pts 0 wts tps r (-1) B.1 ti, progO p rc rn rt, rowW F.1.2.2 rc ac 80 fc np, rowW F.1.2.2 rn an 80 fn np, rowW F.1.2.2 rt at0 80 ft np, rowW F.1.2.2 ri ai 20 fi ni, stOv A v, rw1 F.1.2.2 A v, rw2 F.1.2.2 A v, rw3 F.1.2.2 A v, rw4 F.1.2.2 A v, pastO hp ma cnt, arrM F.1.2.2 ma ad, momsW ad M, stOv B w, rw1 F.1.2.2 B w, rw2 F.1.2.2 B w, rw3 F.1.2.2 B w, rw4 F.1.2.2 B w, ptsA F.1.2.2 pts ap, poO (ap 0) 0 0 false 0 0 0 0, tpsA F.1.2.2 tps tp, tapeO (tp 1) rs rj rec', rowW F.1.2.2 rs as 200 fs ns, rowW F.1.2.2 rj aj 20 fj nj, [(qo, .inl (F.1.2.2 5, np, .inr (.inr (.inr (.inr (adF aq np))))))], [(qc, .inl (F.1.2.2 0, 29, .inl cdF))], pairsR F.1.2.2 aq fc fn np] 179 [some (.ref b), some (.ref h), some (.ref qo), none, some (.int (nI cnt)), some (.int (nI i)), some (.int x), some (.int (nI k)), some (.int e), some (.int (nI c)), some (.int (getR v.2.1 (nI c))), some (.int wz), some (.int (nI came)), none, none, none, none, none, none, none, none, none] [] := by
    refine g_aload_n hF dL_law_179 rfl ?_
    refine g_iload hF dL_law_180 rfl ?_
    refine g_callVq hF (c_cell hv.2.1 (isCell_nI hc)) cal_X8_cell rfl m_648 (by decide) (Or.inl rfl) hkM hnM 0 rfl rfl [0, 6, 8] rfl rfl rfl (Nat.le_of_ble_eq_true rfl) dL_law_182 ?_
    refine g_iload hF dL_law_185 rfl ?_
    refine g_icmp_ne (tgt := 272) hF dL_law_187 (by decide) (fun c_187 => absurd rfl c_187) (fun c_187 => ?_)
    refine g_aload_n hF dL_law_190 rfl ?_
    refine g_iconst (v := (2)) hF dL_law_191 rfl ?_
    refine g_callVq hF (c_told (by decide) (by decide)) cal_X8_told rfl m_617 (by decide) (Or.inl rfl) hkM hnM 0 rfl rfl [0, 6, 7, 9, 10, 11] rfl rfl rfl (Nat.le_of_ble_eq_true rfl) dL_law_192 ?_
    rw [told_2, hck]
    refine g_iload hF dL_law_195 rfl ?_
    refine g_icmp_ne (tgt := 272) hF dL_law_197 (by decide) (fun c_197 => absurd rfl c_197) (fun c_197 => ?_)
    refine g_aload_n hF dL_law_200 rfl ?_
    refine g_iconst (v := (1)) hF dL_law_201 rfl ?_
    refine g_callVq hF (c_told (by decide) (by decide)) cal_X8_told rfl m_617 (by decide) (Or.inl rfl) hkM hnM 0 rfl rfl [0, 6, 7, 9, 10, 11] rfl rfl rfl (Nat.le_of_ble_eq_true rfl) dL_law_202 ?_
    rw [told_1]
    refine g_if_ne (tgt := 212) hF dL_law_205 (by decide) (fun c_205 => ?_) (fun c_205 => ?_)
    · refine g_iconst (v := (0)) hF dL_law_212 rfl ?_
      refine g_iload hF dL_law_213 rfl ?_
      refine g_if_ge (tgt := 222) hF dL_law_215 (by decide) (fun c_215 => ?_) (fun c_215 => absurd (hE.1 c_215).2 c_205)
      refine g_iconst (v := (0)) hF dL_law_222 rfl ?_
      refine g_icmp_ne (tgt := 272) hF dL_law_223 (by decide) (fun c_223 => absurd c_223 (show ¬ (¬ ((0) : Int32) = (0)) by decide)) (fun c_223 => ?_)
      exact k226
    · refine g_iconst (v := (1)) hF dL_law_208 rfl ?_
      refine g_goto (tgt := 213) hF dL_law_209 (by decide) ?_
      refine g_iload hF dL_law_213 rfl ?_
      refine g_if_ge (tgt := 222) hF dL_law_215 (by decide) (fun c_215 => absurd c_205 (hE.2 c_215).2) (fun c_215 => ?_)
      refine g_iconst (v := (1)) hF dL_law_218 rfl ?_
      refine g_goto (tgt := 223) hF dL_law_219 (by decide) ?_
      refine g_icmp_ne (tgt := 272) hF dL_law_223 (by decide) (fun c_223 => absurd c_223 (show ¬ (¬ ((1) : Int32) = (1)) by decide)) (fun c_223 => ?_)
      exact k226
  refine g_iload hF dL_law_162 rfl ?_
  refine g_iload hF dL_law_164 rfl ?_
  refine g_if_ge (tgt := 174) hF dL_law_166 (by decide) (fun c_166 => ?_) (fun c_166 => ?_)
  · refine g_iload hF dL_law_174 rfl ?_
    refine g_icmp_ne (tgt := 272) hF dL_law_176 (by decide) (fun c_176 => absurd (show nI came = e from (hE.2 c_166).1.symm) c_176) (fun c_176 => ?_)
    exact k179
  · refine g_iload hF dL_law_169 rfl ?_
    refine g_goto (tgt := 176) hF dL_law_171 (by decide) ?_
    refine g_icmp_ne (tgt := 272) hF dL_law_176 (by decide) (fun c_176 => absurd (show nI came = nI k by rw [(hE.1 c_166).1]) c_176) (fun c_176 => ?_)
    exact k179
theorem rdy {s : Int32} (h : ¬ bI (!decide (2 ≤ s)) = 0) : s < 2 := i_lt (fun q => by
  have z := bI_n.mp h
  rw [decide_eq_true q] at z
  exact absurd z (by decide))
set_option maxHeartbeats 4000000 in
set_option maxRecDepth 100000 in
/-- the law, 274 to 416: back, and on again -/
theorem pC {F : Fix} {kM nM k0 n0 : Nat} {b h p ri hp pts wts tps ti rc rn rt ac an at0 np ai ni ma rs rj as ns aj nj qo qc cnt : Nat} {A B : AV} {ad ap tp aq : Nat → Nat} {fc fn fi fs fj ft : Nat → Int32} {v w : SV} {M : Nat → Nat → Int32} {r : Int32} {rec' : Bool} {x e u wz : Int32} {k c came i tot : Nat} (hF : Ok F cL_law "LanternLaw" 7 kM nM) (hkM : k0 ≤ kM) (hnM : n0 ≤ nM) (hnp : np < 32) (hni : ni ≤ 20) (hI : Inv (fc, np) (fn, np) (fi, ni) initS (ft, v, cnt, M)) (hT : TimesOk np tot ft) (hcc : came ≤ cnt) (hc12 : came ≤ 12) (hcn : cnt ≤ 200) (kk : ∀ (ft2 : Nat → Int32) (v2 : SV) (M2 : Nat → Nat → Int32) (r2 : Int32) (tot2 : Nat), Inv (fc, np) (fn, np) (fi, ni) initS (ft2, v2, cnt, M2) → TimesOk np tot2 ft2 → tot ≤ tot2 → tot2 ≤ tot + 12 → G F k0 n0 [lanO h p ri A.1 hp pts 0 wts tps r2 (-1) B.1 ti, progO p rc rn rt, rowW F.1.2.2 rc ac 80 fc np, rowW F.1.2.2 rn an 80 fn np, rowW F.1.2.2 rt at0 80 ft2 np, rowW F.1.2.2 ri ai 20 fi ni, stOv A v2, rw1 F.1.2.2 A v2, rw2 F.1.2.2 A v2, rw3 F.1.2.2 A v2, rw4 F.1.2.2 A v2, pastO hp ma cnt, arrM F.1.2.2 ma ad, momsW ad M2, stOv B w, rw1 F.1.2.2 B w, rw2 F.1.2.2 B w, rw3 F.1.2.2 B w, rw4 F.1.2.2 B w, ptsA F.1.2.2 pts ap, poO (ap 0) 0 0 false 0 0 0 0, tpsA F.1.2.2 tps tp, tapeO (tp 1) rs rj rec', rowW F.1.2.2 rs as 200 fs ns, rowW F.1.2.2 rj aj 20 fj nj, [(qo, .inl (F.1.2.2 5, np, .inr (.inr (.inr (.inr (adF aq np))))))], [(qc, .inl (F.1.2.2 0, 29, .inl cdF))], pairsR F.1.2.2 aq fc fn np] 416 [some (.ref b), some (.ref h), some (.ref qo), none, some (.int (nI cnt)), some (.int (nI i)), none, none, none, none, none, none, none, none, none, none, none, none, none, none, none, none] []) : G F k0 n0 [lanO h p ri A.1 hp pts 0 wts tps r (-1) B.1 ti, progO p rc rn rt, rowW F.1.2.2 rc ac 80 fc np, rowW F.1.2.2 rn an 80 fn np, rowW F.1.2.2 rt at0 80 ft np, rowW F.1.2.2 ri ai 20 fi ni, stOv A v, rw1 F.1.2.2 A v, rw2 F.1.2.2 A v, rw3 F.1.2.2 A v, rw4 F.1.2.2 A v, pastO hp ma cnt, arrM F.1.2.2 ma ad, momsW ad M, stOv B w, rw1 F.1.2.2 B w, rw2 F.1.2.2 B w, rw3 F.1.2.2 B w, rw4 F.1.2.2 B w, ptsA F.1.2.2 pts ap, poO (ap 0) 0 0 false 0 0 0 0, tpsA F.1.2.2 tps tp, tapeO (tp 1) rs rj rec', rowW F.1.2.2 rs as 200 fs ns, rowW F.1.2.2 rj aj 20 fj nj, [(qo, .inl (F.1.2.2 5, np, .inr (.inr (.inr (.inr (adF aq np))))))], [(qc, .inl (F.1.2.2 0, 29, .inl cdF))], pairsR F.1.2.2 aq fc fn np] 274 [some (.ref b), some (.ref h), some (.ref qo), none, some (.int (nI cnt)), some (.int (nI i)), some (.int x), some (.int (nI k)), some (.int e), some (.int (nI c)), some (.int u), some (.int wz), some (.int (nI came)), none, none, none, none, none, none, none, none, none] [] := by
  have hv : okS v := hI.1
  refine g_iload hF dL_law_274 rfl ?_
  refine g_iconst (v := (1)) hF dL_law_276 rfl ?_
  refine g_iload hF dL_law_277 rfl ?_
  refine g_iconst (v := (3)) hF dL_law_279 rfl ?_
  refine g_ishr hF dL_law_280 ?_
  generalize x >>> (3 &&& 31) = y
  refine g_bipush (v := (12)) hF dL_law_281 rfl ?_
  refine g_callSq hF (c_L_below (by decide)) cal_L_below rfl m_810 (by decide) (Or.inl rfl) hkM hnM [] rfl rfl rfl (Nat.le_of_ble_eq_true rfl) dL_law_283 ?_
  refine g_iadd hF dL_law_286 ?_
  obtain ⟨j, hj1, hj2, ej⟩ := bel12 y
  rw [ej]
  refine g_min hF m_858 m_388 m_4 m_389 (by decide) hkM hnM (Nat.le_of_ble_eq_true rfl) dL_law_287 ?_
  rw [min_nI (by omega) (by omega)]
  obtain ⟨bk, hbk, hbk2, ebk⟩ : ∃ bk, bk ≤ came ∧ bk ≤ 12 ∧ min came j = bk := ⟨_, Nat.min_le_left _ _, by omega, rfl⟩
  rw [ebk]
  refine g_istore hF dL_law_290 (Nat.le_of_ble_eq_true rfl) rfl ?_
  refine g_aload_n hF dL_law_292 rfl ?_
  refine g_iconst (v := (1)) hF dL_law_293 rfl ?_
  refine g_callVq hF (c_told (by decide) (by decide)) cal_X8_told rfl m_617 (by decide) (Or.inl rfl) hkM hnM 0 rfl rfl [0, 6, 7, 9, 10, 11] rfl rfl rfl (Nat.le_of_ble_eq_true rfl) dL_law_294 ?_
  rw [told_1]
  refine g_iconst (v := (2)) hF dL_law_297 rfl ?_
  have k306 : G F k0 n0 [lanO h p ri A.1 hp pts 0 wts tps r (-1) B.1 ti, progO p rc rn rt, rowW F.1.2.2 rc ac 80 fc np, rowW F.1.2.2 rn an 80 fn np, rowW F.1.2.2 rt at0 80 ft np, rowW F.1.2.2 ri ai 20 fi ni, stOv A v, rw1 F.1.2.2 A v, rw2 F.1.2.2 A v, rw3 F.1.2.2 A v, rw4 F.1.2.2 A v, pastO hp ma cnt, arrM F.1.2.2 ma ad, momsW ad M, stOv B w, rw1 F.1.2.2 B w, rw2 F.1.2.2 B w, rw3 F.1.2.2 B w, rw4 F.1.2.2 B w, ptsA F.1.2.2 pts ap, poO (ap 0) 0 0 false 0 0 0 0, tpsA F.1.2.2 tps tp, tapeO (tp 1) rs rj rec', rowW F.1.2.2 rs as 200 fs ns, rowW F.1.2.2 rj aj 20 fj nj, [(qo, .inl (F.1.2.2 5, np, .inr (.inr (.inr (.inr (adF aq np))))))], [(qc, .inl (F.1.2.2 0, 29, .inl cdF))], pairsR F.1.2.2 aq fc fn np] 306 [some (.ref b), some (.ref h), some (.ref qo), none, some (.int (nI cnt)), some (.int (nI i)), some (.int x), some (.int (nI k)), some (.int e), some (.int (nI c)), some (.int u), some (.int wz), some (.int (nI came)), some (.int (nI bk)), none, none, none, none, none, none, none, none] [.int (bI (!decide (2 ≤ v.2.2.2.2.2.1)))] := by
    refine g_istore hF dL_law_306 (Nat.le_of_ble_eq_true rfl) rfl ?_
    refine g_aload_n hF dL_law_308 rfl ?_
    refine g_callSq hF (c_L_state hv (by omega)) cal_L_state rfl m_843 (by decide) (Or.inl rfl) hkM hnM [0, 6, 7, 8, 9, 10, 11, 12, 13] rfl rfl rfl (Nat.le_of_ble_eq_true rfl) dL_law_309 ?_
    refine g_lstore hF dL_law_312 (Nat.le_of_ble_eq_true rfl) rfl ?_
    refine g_aload_n hF dL_law_314 rfl ?_
    refine g_iconst (v := (3)) hF dL_law_315 rfl ?_
    refine g_callVq hF (c_told (by decide) (by decide)) cal_X8_told rfl m_617 (by decide) (Or.inl rfl) hkM hnM 0 rfl rfl [0, 6, 7, 9, 10, 11] rfl rfl rfl (Nat.le_of_ble_eq_true rfl) dL_law_316 ?_
    rw [told_3]
    have k331 : G F k0 n0 [lanO h p ri A.1 hp pts 0 wts tps r (-1) B.1 ti, progO p rc rn rt, rowW F.1.2.2 rc ac 80 fc np, rowW F.1.2.2 rn an 80 fn np, rowW F.1.2.2 rt at0 80 ft np, rowW F.1.2.2 ri ai 20 fi ni, stOv A v, rw1 F.1.2.2 A v, rw2 F.1.2.2 A v, rw3 F.1.2.2 A v, rw4 F.1.2.2 A v, pastO hp ma cnt, arrM F.1.2.2 ma ad, momsW ad M, stOv B w, rw1 F.1.2.2 B w, rw2 F.1.2.2 B w, rw3 F.1.2.2 B w, rw4 F.1.2.2 B w, ptsA F.1.2.2 pts ap, poO (ap 0) 0 0 false 0 0 0 0, tpsA F.1.2.2 tps tp, tapeO (tp 1) rs rj rec', rowW F.1.2.2 rs as 200 fs ns, rowW F.1.2.2 rj aj 20 fj nj, [(qo, .inl (F.1.2.2 5, np, .inr (.inr (.inr (.inr (adF aq np))))))], [(qc, .inl (F.1.2.2 0, 29, .inl cdF))], pairsR F.1.2.2 aq fc fn np] 331 [some (.ref b), some (.ref h), some (.ref qo), none, some (.int (nI cnt)), some (.int (nI i)), some (.int x), some (.int (nI k)), some (.int e), some (.int (nI c)), some (.int u), some (.int wz), some (.int (nI came)), some (.int (nI bk)), some (.int (bI (!decide (2 ≤ v.2.2.2.2.2.1)))), some (.long (stateL r (-1) cnt v M)), none, none, none, none, none, none] [.int (topV v)] := by
      refine g_istore hF dL_law_331 (Nat.le_of_ble_eq_true rfl) rfl ?_
      refine g_iload hF dL_law_333 rfl ?_
      refine g_if_le (tgt := 416) hF dL_law_335 (by decide) (fun c_335 => ?_) (fun c_335 => ?_)
      · refine g_forgetN [6, 7, 8, 9, 10, 11, 12, 13, 14, 15, 17] ?_
        dsimp only [List.foldl, List.set]
        exact kk ft v M r tot hI hT (Nat.le_refl _) (by omega)
      · have hb1 : 1 ≤ bk := Nat.pos_of_ne_zero (fun z => c_335 (by rw [z]; decide +kernel))
        obtain ⟨hvb, hckb, hstb, ft2, v2, M2, r2, hx, hI2, hT2, hse⟩ := iter_back (b := bk) (tot := tot) hnp hI hT hb1 (by omega)
        have hv2 : okS v2 := hI2.1
        refine g_aload_n hF dL_law_338 rfl ?_
        refine g_iload hF dL_law_339 rfl ?_
        refine g_callVd hF (c_back hv (by omega) (by omega) hb1) cal_X8_back rfl m_595 (by decide) (Or.inl rfl) hkM hnM 0 rfl rfl [0, 6, 7, 8, 9, 10, 11, 12, 13] rfl rfl (Nat.le_of_ble_eq_true rfl) rfl (Nat.le_of_ble_eq_true rfl) dL_law_341 ?_
        try dsimp only [gput, gputA, List.set, stGs, List.cons_append, List.nil_append]
        refine g_iload hF dL_law_344 rfl ?_
        refine g_icmp_ne (tgt := 414) hF dL_law_346 (by decide) (fun c_346 => absurd rfl c_346) (fun c_346 => ?_)
        refine g_aload_n hF dL_law_349 rfl ?_
        refine g_iconst (v := (2)) hF dL_law_350 rfl ?_
        refine g_callVq hF (c_told (by decide) (by decide)) cal_X8_told rfl m_617 (by decide) (Or.inl rfl) hkM hnM 0 rfl rfl [0, 6, 7, 9, 10, 11] rfl rfl rfl (Nat.le_of_ble_eq_true rfl) dL_law_351 ?_
        rw [told_2, hckb]
        refine g_iload hF dL_law_354 rfl ?_
        refine g_iload hF dL_law_356 rfl ?_
        refine g_isub hF dL_law_358 ?_
        rw [pk_sub (show bk ≤ cnt by omega)]
        refine g_icmp_ne (tgt := 414) hF dL_law_359 (by decide) (fun c_359 => absurd rfl c_359) (fun c_359 => ?_)
        refine g_aload_n hF dL_law_362 rfl ?_
        refine g_iconst (v := (1)) hF dL_law_363 rfl ?_
        refine g_callVq hF (c_told (by decide) (by decide)) cal_X8_told rfl m_617 (by decide) (Or.inl rfl) hkM hnM 0 rfl rfl [0, 6, 7, 9, 10, 11] rfl rfl rfl (Nat.le_of_ble_eq_true rfl) dL_law_364 ?_
        rw [told_1, hstb]
        refine g_if_ne (tgt := 414) hF dL_law_367 (by decide) (fun c_367 => absurd rfl c_367) (fun c_367 => ?_)
        refine g_aload_n hF dL_law_370 rfl ?_
        refine g_iload hF dL_law_371 rfl ?_
        refine g_callVd hF (c_runX hvb (by omega) (by omega) (lt_500 hb1 (by omega)) (by omega) (by omega) hx) cal_X8_run rfl m_439 (by decide) (Or.inl rfl) hkM hnM 0 rfl rfl [0, 1, 2, 3, 4, 5, 6, 7, 8, 9, 10, 11, 12, 13] rfl rfl (Nat.le_of_ble_eq_true rfl) rfl (Nat.le_of_ble_eq_true rfl) dL_law_373 ?_
        try dsimp only [gput, gputA, List.set, stGs, List.cons_append, List.nil_append]
        refine g_iload hF dL_law_376 rfl ?_
        refine g_icmp_ne (tgt := 414) hF dL_law_378 (by decide) (fun c_378 => absurd rfl c_378) (fun c_378 => ?_)
        refine g_iload hF dL_law_381 rfl ?_
        try dsimp only [gput, gputA, List.set, stGs, List.cons_append, List.nil_append]
        have k396 : G F k0 n0 [lanO h p ri A.1 hp pts 0 wts tps r2 (-1) B.1 ti, progO p rc rn rt, rowW F.1.2.2 rc ac 80 fc np, rowW F.1.2.2 rn an 80 fn np, rowW F.1.2.2 rt at0 80 ft2 np, rowW F.1.2.2 ri ai 20 fi ni, stOv A v2, rw1 F.1.2.2 A v2, rw2 F.1.2.2 A v2, rw3 F.1.2.2 A v2, rw4 F.1.2.2 A v2, pastO hp ma cnt, arrM F.1.2.2 ma ad, momsW ad M2, stOv B w, rw1 F.1.2.2 B w, rw2 F.1.2.2 B w, rw3 F.1.2.2 B w, rw4 F.1.2.2 B w, ptsA F.1.2.2 pts ap, poO (ap 0) 0 0 false 0 0 0 0, tpsA F.1.2.2 tps tp, tapeO (tp 1) rs rj rec', rowW F.1.2.2 rs as 200 fs ns, rowW F.1.2.2 rj aj 20 fj nj, [(qo, .inl (F.1.2.2 5, np, .inr (.inr (.inr (.inr (adF aq np))))))], [(qc, .inl (F.1.2.2 0, 29, .inl cdF))], pairsR F.1.2.2 aq fc fn np] 396 [some (.ref b), some (.ref h), some (.ref qo), none, some (.int (nI cnt)), some (.int (nI i)), some (.int x), some (.int (nI k)), some (.int e), some (.int (nI c)), some (.int u), some (.int wz), some (.int (nI came)), some (.int (nI bk)), some (.int (bI (!decide (2 ≤ v.2.2.2.2.2.1)))), some (.long (stateL r (-1) cnt v M)), none, some (.int (topV v)), none, none, none, none] [] := by
          refine g_aload_n hF dL_law_396 rfl ?_
          refine g_iconst (v := (3)) hF dL_law_397 rfl ?_
          refine g_callVq hF (c_told (by decide) (by decide)) cal_X8_told rfl m_617 (by decide) (Or.inl rfl) hkM hnM 0 rfl rfl [0, 6, 7, 9, 10, 11] rfl rfl rfl (Nat.le_of_ble_eq_true rfl) dL_law_398 ?_
          rw [told_3]
          refine g_if_le (tgt := 416) hF dL_law_401 (by decide) (fun c_401 => ?_) (fun c_401 => ?_)
          · refine g_forgetN [6, 7, 8, 9, 10, 11, 12, 13, 14, 15, 17] ?_
            dsimp only [List.foldl, List.set]
            exact kk ft2 v2 M2 r2 (tot + bk) hI2 hT2 (by omega) (by omega)
          · refine g_aload_n hF dL_law_404 rfl ?_
            refine g_iconst (v := (0)) hF dL_law_405 rfl ?_
            refine g_callVq hF (c_stack hv2.1 (has0 c_401)) cal_X8_stack rfl m_626 (by decide) (Or.inl rfl) hkM hnM 0 rfl rfl [0, 6, 7] rfl rfl rfl (Nat.le_of_ble_eq_true rfl) dL_law_406 ?_
            refine g_iload hF dL_law_409 rfl ?_
            refine g_icmp_eq (tgt := 416) hF dL_law_411 (by decide) (fun c_411 => ?_) (fun c_411 => absurd (topV_eq (inv_stack hI hI2) c_401) c_411)
            refine g_forgetN [6, 7, 8, 9, 10, 11, 12, 13, 14, 15, 17] ?_
            dsimp only [List.foldl, List.set]
            exact kk ft2 v2 M2 r2 (tot + bk) hI2 hT2 (by omega) (by omega)
        refine g_if_eq (tgt := 396) hF dL_law_383 (by decide) (fun c_383 => ?_) (fun c_383 => ?_)
        · try dsimp only [gput, gputA, List.set, stGs, List.cons_append, List.nil_append]
          exact k396
        · refine g_aload_n hF dL_law_386 rfl ?_
          refine g_callSq hF (c_L_state hv2 (by omega)) cal_L_state rfl m_843 (by decide) (Or.inl rfl) hkM hnM [0, 6, 7, 8, 9, 10, 11, 12, 13] rfl rfl rfl (Nat.le_of_ble_eq_true rfl) dL_law_387 ?_
          rw [← stateL_eq (r := r) (c := (-1)) (hse (rdy c_383)) (inv_8 hI hI2)]
          refine g_lload hF dL_law_390 rfl ?_
          refine g_lcmp hF dL_law_392 ?_
          refine g_if_ne (tgt := 414) hF dL_law_393 (by decide) (fun c_393 => absurd (lcmp_self _) c_393) (fun c_393 => ?_)
          try dsimp only [gput, gputA, List.set, stGs, List.cons_append, List.nil_append]
          exact k396
    refine g_if_le (tgt := 330) hF dL_law_319 (by decide) (fun c_319 => ?_) (fun c_319 => ?_)
    · refine g_iconst (v := (0)) hF dL_law_330 rfl ?_
      try dsimp only [gput, gputA, List.set, stGs, List.cons_append, List.nil_append]
      have z := k331
      rw [show topV v = 0 from if_pos c_319] at z
      exact z
    · refine g_aload_n hF dL_law_322 rfl ?_
      refine g_iconst (v := (0)) hF dL_law_323 rfl ?_
      refine g_callVq hF (c_stack hv.1 (has0 c_319)) cal_X8_stack rfl m_626 (by decide) (Or.inl rfl) hkM hnM 0 rfl rfl [0, 6, 7] rfl rfl rfl (Nat.le_of_ble_eq_true rfl) dL_law_324 ?_
      refine g_goto (tgt := 331) hF dL_law_327 (by decide) ?_
      try dsimp only [gput, gputA, List.set, stGs, List.cons_append, List.nil_append]
      have z := k331
      rw [show topV v = topR v.1 0 from if_neg c_319] at z
      exact z
  refine g_icmp_ge (tgt := 305) hF dL_law_298 (by decide) (fun c_298 => ?_) (fun c_298 => ?_)
  · refine g_iconst (v := (0)) hF dL_law_305 rfl ?_
    try dsimp only [gput, gputA, List.set, stGs, List.cons_append, List.nil_append]
    have z := k306
    rw [show (bI (!decide (2 ≤ v.2.2.2.2.2.1))) = 0 from by rw [decide_eq_true c_298]; rfl] at z
    exact z
  · refine g_iconst (v := (1)) hF dL_law_301 rfl ?_
    refine g_goto (tgt := 306) hF dL_law_302 (by decide) ?_
    try dsimp only [gput, gputA, List.set, stGs, List.cons_append, List.nil_append]
    have z := k306
    rw [show (bI (!decide (2 ≤ v.2.2.2.2.2.1))) = 1 from by rw [decide_eq_false c_298]; rfl] at z
    exact z
