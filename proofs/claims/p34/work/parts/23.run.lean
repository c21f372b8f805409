/-! Lantern: steps, runs, going back, trying out -/
section GSJ
variable {F : Fix} {k n pc : Nat} {gs : List va_W} {lv : List (Option Value)} {st : List Value}
theorem g_split3 (j : Nat) {x y z w : va_W} (hg : gs[j]? = some w) (e : w = x ++ (y ++ z)) (kk : G F k n (gs.take j ++ (x :: y :: z :: gs.drop (j + 1))) pc lv st) : G F k n gs pc lv st := by
  refine g_regroup ?_ kk
  obtain ⟨hl, hw⟩ := List.getElem?_eq_some_iff.mp hg
  have h1 : gs = gs.take j ++ (w :: gs.drop (j + 1)) := by rw [← hw, ← List.drop_eq_getElem_cons hl, List.take_append_drop]
  rw [List.flatten_append, List.flatten_cons, List.flatten_cons, List.flatten_cons]
  conv => lhs; rw [h1, List.flatten_append, List.flatten_cons, e]
  simp only [List.append_assoc]
theorem g_join3 (j : Nat) {x y z w : va_W} {rest : List va_W} (hg : gs.drop j = x :: y :: z :: rest) (e : x ++ (y ++ z) = w) (kk : G F k n (gs.take j ++ (w :: rest)) pc lv st) : G F k n gs pc lv st := by
  refine g_regroup ?_ kk
  have h1 : gs = gs.take j ++ (x :: y :: z :: rest) := by rw [← hg, List.take_append_drop]
  rw [List.flatten_append, List.flatten_cons, ← e]
  conv => lhs; rw [h1, List.flatten_append, List.flatten_cons, List.flatten_cons, List.flatten_cons]
  simp only [List.append_assoc]
end GSJ
abbrev RS : Type := (Nat → Int32) × SV × Nat × (Nat → Nat → Int32)
def stepR (pc pn inp : RV) (x : RS) : RS := (rowPut x.1 pc.2 (readyF pc x.2.1).2.2.2.2.1 (rowGet x.1 pc.2 (readyF pc x.2.1).2.2.2.2.1 + 1), perfF (rowGet pc.1 pc.2 (readyF pc x.2.1).2.2.2.2.1) (rowGet pn.1 pn.2 (readyF pc x.2.1).2.2.2.2.1) inp (readyF pc x.2.1), x.2.2.1 + 1, updM x.2.2.2 x.2.2.1 (descM (rowGet pc.1 pc.2 (readyF pc x.2.1).2.2.2.2.1) (rowGet pn.1 pn.2 (readyF pc x.2.1).2.2.2.2.1) (x.2.2.2 x.2.2.1) (readyF pc x.2.1)))
def readR (pc : RV) (x : RS) : RS := (x.1, readyF pc x.2.1, x.2.2.1, x.2.2.2)
def runR (pc pn inp : RV) (hit : SV → Bool) : Nat → RS → Nat × RS × Int32
  | 0, x => (0, x, 6)
  | k + 1, x => if ¬ (readyF pc x.2.1).2.2.2.2.2.1 = 0 then (0, readR pc x, if (readyF pc x.2.1).2.2.2.2.2.1 = 1 then 1 else 2) else if (stepR pc pn inp x).2.1.2.2.2.2.2.1 = 1 then (1, stepR pc pn inp x, 1) else if hit (stepR pc pn inp x).2.1 = true then (1, stepR pc pn inp x, 5) else ((runR pc pn inp hit k (stepR pc pn inp x)).1 + 1, (runR pc pn inp hit k (stepR pc pn inp x)).2)
def tryF (pc pn inp : RV) : Nat → SV → Nat × SV
  | 0, v => (0, v)
  | k + 1, v => if ¬ (readyF pc v).2.2.2.2.2.1 = 0 then (0, readyF pc v) else ((tryF pc pn inp k (perfF (rowGet pc.1 pc.2 (readyF pc v).2.2.2.2.1) (rowGet pn.1 pn.2 (readyF pc v).2.2.2.2.1) inp (readyF pc v))).1 + 1, (tryF pc pn inp k (perfF (rowGet pc.1 pc.2 (readyF pc v).2.2.2.2.1) (rowGet pn.1 pn.2 (readyF pc v).2.2.2.2.1) inp (readyF pc v))).2)
set_option maxHeartbeats 4000000 in
set_option maxRecDepth 100000 in
theorem c_doStep_yes {E : Env3} {h p ri hp pts wts tps ti rc rn rt ac an at0 np ai ni ma cnt : Nat} {A : AV} {B : AV} {v : SV} {ad : Nat → Nat} {fc : Nat → Int32} {fn : Nat → Int32} {ft : Nat → Int32} {fi : Nat → Int32} {M : Nat → Nat → Int32} {reason : Int32} {cause : Int32} {pc : Int32} (hv : okS v) (hnp : np ≤ 80) (hni : ni ≤ 20) (hc : cnt < 200) (hr : (readyF (fc, np) v).2.2.2.2.2.1 = 0)  : Cd E none 4 yX8_doStep cX8_doStep 1 (some .boolean) [.ref h] [lanO h p ri A.1 hp pts pc wts tps reason cause B.1 ti, progO p rc rn rt, rowW E.2.2 rc ac 80 fc np, rowW E.2.2 rn an 80 fn np, rowW E.2.2 rt at0 80 ft np, rowW E.2.2 ri ai 20 fi ni, stOv A v, rw1 E.2.2 A v, rw2 E.2.2 A v, rw3 E.2.2 A v, rw4 E.2.2 A v, pastO hp ma cnt, arrM E.2.2 ma ad, momsW ad M] (some (.int 1)) [lanO h p ri A.1 hp pts pc wts tps reason cause B.1 ti, progO p rc rn rt, rowW E.2.2 rc ac 80 fc np, rowW E.2.2 rn an 80 fn np, rowW E.2.2 rt at0 80 (rowPut ft np (readyF (fc, np) v).2.2.2.2.1 (rowGet ft np (readyF (fc, np) v).2.2.2.2.1 + 1)) np, rowW E.2.2 ri ai 20 fi ni, stOv A (perfF (rowGet fc np (readyF (fc, np) v).2.2.2.2.1) (rowGet fn np (readyF (fc, np) v).2.2.2.2.1) (fi, ni) (readyF (fc, np) v)), rw1 E.2.2 A (perfF (rowGet fc np (readyF (fc, np) v).2.2.2.2.1) (rowGet fn np (readyF (fc, np) v).2.2.2.2.1) (fi, ni) (readyF (fc, np) v)), rw2 E.2.2 A (perfF (rowGet fc np (readyF (fc, np) v).2.2.2.2.1) (rowGet fn np (readyF (fc, np) v).2.2.2.2.1) (fi, ni) (readyF (fc, np) v)), rw3 E.2.2 A (perfF (rowGet fc np (readyF (fc, np) v).2.2.2.2.1) (rowGet fn np (readyF (fc, np) v).2.2.2.2.1) (fi, ni) (readyF (fc, np) v)), rw4 E.2.2 A (perfF (rowGet fc np (readyF (fc, np) v).2.2.2.2.1) (rowGet fn np (readyF (fc, np) v).2.2.2.2.1) (fi, ni) (readyF (fc, np) v)), pastO hp ma (cnt + 1), arrM E.2.2 ma ad, momsW ad (updM M cnt (descM (rowGet fc np (readyF (fc, np) v).2.2.2.2.1) (rowGet fn np (readyF (fc, np) v).2.2.2.2.1) (M cnt) (readyF (fc, np) v)))] := by
  refine Ct.of [some (.ref h)] (by decide +kernel) rfl (Nat.le_of_ble_eq_true rfl) (fun F hE hF hR hN => ?_)
  subst hE
  refine g_aload_n hF dX8_doStep_0 rfl ?_
  refine g_get (j := 2) hF 0 rfl rfl (by decide) rfl m_249 rfl dX8_doStep_1 ?_
  refine g_aload_n hF dX8_doStep_4 rfl ?_
  refine g_get (j := 0) hF 0 rfl rfl (by decide) rfl m_247 rfl dX8_doStep_5 ?_
  refine g_callVd hF (c_S_readies (by first | assumption | exact okS_ready (by assumption) | exact okS_perf (okS_ready (by assumption)) | exact okS_perf (by assumption) | exact okS_copy | exact okS_clear | exact okS_back (by assumption)) (by omega)) cal_X5_readies rfl m_455 (by decide) (Or.inl rfl) (Nat.zero_le _) (Nat.zero_le _) 6 rfl rfl [6, 7, 8, 9, 10, 1, 2] rfl rfl (Nat.le_of_ble_eq_true rfl) rfl (Nat.le_of_ble_eq_true rfl) dX8_doStep_8 ?_
  try dsimp only [gput, gputA, List.set, stGs, List.cons_append, List.nil_append]
  refine g_if_ne (tgt := 16) hF dX8_doStep_11 (by decide) (fun c_11 => ?_) (fun c_11 => absurd c_11 (bI_n.mpr (decide_eq_true hr)))
  refine g_aload_n hF dX8_doStep_16 rfl ?_
  refine g_get (j := 0) hF 0 rfl rfl (by decide) rfl m_247 rfl dX8_doStep_17 ?_
  refine g_aload_n hF dX8_doStep_20 rfl ?_
  refine g_get (j := 2) hF 0 rfl rfl (by decide) rfl m_249 rfl dX8_doStep_21 ?_
  refine g_getN (j := 4) hF 6 rfl rfl (by decide) rfl m_84 rfl dX8_doStep_24 ?_
  refine g_callVd hF (c_Prog_countTime (by omega)) cal_X3_countTime rfl m_496 (by decide) (Or.inl rfl) (Nat.zero_le _) (Nat.zero_le _) 1 rfl rfl [1, 4] rfl rfl (Nat.le_of_ble_eq_true rfl) rfl (Nat.le_of_ble_eq_true rfl) dX8_doStep_27 ?_
  try dsimp only [gput, gputA, List.set, stGs, List.cons_append, List.nil_append]
  refine g_aload_n hF dX8_doStep_30 rfl ?_
  refine g_get (j := 2) hF 0 rfl rfl (by decide) rfl m_249 rfl dX8_doStep_31 ?_
  refine g_aload_n hF dX8_doStep_34 rfl ?_
  refine g_get (j := 3) hF 0 rfl rfl (by decide) rfl m_250 rfl dX8_doStep_35 ?_
  refine g_callVd hF (c_Past_newest (by omega)) cal_X1_newest rfl m_500 (by decide) (Or.inl rfl) (Nat.zero_le _) (Nat.zero_le _) 11 rfl rfl [11, 12] rfl rfl (Nat.le_of_ble_eq_true rfl) rfl (Nat.le_of_ble_eq_true rfl) dX8_doStep_38 ?_
  try dsimp only [gput, gputA, List.set, stGs, List.cons_append, List.nil_append]
  refine g_split3 13 rfl (mom_split (k := cnt) (by omega)) ?_
  try dsimp only [List.take, List.drop, List.cons_append, List.nil_append]
  refine g_aload_n hF dX8_doStep_41 rfl ?_
  refine g_get (j := 0) hF 0 rfl rfl (by decide) rfl m_247 rfl dX8_doStep_42 ?_
  refine g_callVd hF (c_S_describe (by first | assumption | exact okS_ready (by assumption) | exact okS_perf (okS_ready (by assumption)) | exact okS_perf (by assumption) | exact okS_copy | exact okS_clear | exact okS_back (by assumption)) (by omega) (by omega)) cal_X5_describe rfl m_504 (by decide) (Or.inl rfl) (Nat.zero_le _) (Nat.zero_le _) 6 rfl rfl [6, 7, 8, 9, 10, 14, 1, 2, 3] rfl rfl (Nat.le_of_ble_eq_true rfl) rfl (Nat.le_of_ble_eq_true rfl) dX8_doStep_45 ?_
  try dsimp only [gput, gputA, List.set, stGs, List.cons_append, List.nil_append]
  refine g_join3 13 rfl (mom_join (k := cnt) (by omega)) ?_
  try dsimp only [List.take, List.drop, List.cons_append, List.nil_append]
  refine g_aload_n hF dX8_doStep_48 rfl ?_
  refine g_get (j := 2) hF 0 rfl rfl (by decide) rfl m_249 rfl dX8_doStep_49 ?_
  refine g_aload_n hF dX8_doStep_52 rfl ?_
  refine g_get (j := 0) hF 0 rfl rfl (by decide) rfl m_247 rfl dX8_doStep_53 ?_
  refine g_aload_n hF dX8_doStep_56 rfl ?_
  refine g_get (j := 1) hF 0 rfl rfl (by decide) rfl m_248 rfl dX8_doStep_57 ?_
  refine g_callVd hF (c_S_perform (by first | assumption | exact okS_ready (by assumption) | exact okS_perf (okS_ready (by assumption)) | exact okS_perf (by assumption) | exact okS_copy | exact okS_clear | exact okS_back (by assumption)) (by omega) (by omega) (by omega)) cal_X5_perform rfl m_517 (by decide) (Or.inl rfl) (Nat.zero_le _) (Nat.zero_le _) 6 rfl rfl [6, 7, 8, 9, 10, 1, 2, 3, 5] rfl rfl (Nat.le_of_ble_eq_true rfl) rfl (Nat.le_of_ble_eq_true rfl) dX8_doStep_60 ?_
  try dsimp only [gput, gputA, List.set, stGs, List.cons_append, List.nil_append]
  refine g_iconst (v := (1)) hF dX8_doStep_63 rfl ?_
  exact g_zret hF hR dX8_doStep_64 rfl ⟨rfl, rfl⟩
set_option maxHeartbeats 4000000 in
set_option maxRecDepth 100000 in
theorem c_doStep_no {E : Env3} {h p ri hp pts wts tps ti rc rn rt ac an at0 np ai ni ma cnt : Nat} {A : AV} {B : AV} {v : SV} {ad : Nat → Nat} {fc : Nat → Int32} {fn : Nat → Int32} {ft : Nat → Int32} {fi : Nat → Int32} {M : Nat → Nat → Int32} {reason : Int32} {cause : Int32} {pc : Int32} (hv : okS v) (hnp : np ≤ 80) (hni : ni ≤ 20) (hr : ¬ (readyF (fc, np) v).2.2.2.2.2.1 = 0)  : Cd E none 4 yX8_doStep cX8_doStep 1 (some .boolean) [.ref h] [lanO h p ri A.1 hp pts pc wts tps reason cause B.1 ti, progO p rc rn rt, rowW E.2.2 rc ac 80 fc np, rowW E.2.2 rn an 80 fn np, rowW E.2.2 rt at0 80 ft np, rowW E.2.2 ri ai 20 fi ni, stOv A v, rw1 E.2.2 A v, rw2 E.2.2 A v, rw3 E.2.2 A v, rw4 E.2.2 A v, pastO hp ma cnt, arrM E.2.2 ma ad, momsW ad M] (some (.int 0)) [lanO h p ri A.1 hp pts pc wts tps reason cause B.1 ti, progO p rc rn rt, rowW E.2.2 rc ac 80 fc np, rowW E.2.2 rn an 80 fn np, rowW E.2.2 rt at0 80 ft np, rowW E.2.2 ri ai 20 fi ni, stOv A (readyF (fc, np) v), rw1 E.2.2 A (readyF (fc, np) v), rw2 E.2.2 A (readyF (fc, np) v), rw3 E.2.2 A (readyF (fc, np) v), rw4 E.2.2 A (readyF (fc, np) v), pastO hp ma cnt, arrM E.2.2 ma ad, momsW ad M] := by
  refine Ct.of [some (.ref h)] (by decide +kernel) rfl (Nat.le_of_ble_eq_true rfl) (fun F hE hF hR hN => ?_)
  subst hE
  refine g_aload_n hF dX8_doStep_0 rfl ?_
  refine g_get (j := 2) hF 0 rfl rfl (by decide) rfl m_249 rfl dX8_doStep_1 ?_
  refine g_aload_n hF dX8_doStep_4 rfl ?_
  refine g_get (j := 0) hF 0 rfl rfl (by decide) rfl m_247 rfl dX8_doStep_5 ?_
  refine g_callVd hF (c_S_readies (by first | assumption | exact okS_ready (by assumption) | exact okS_perf (okS_ready (by assumption)) | exact okS_perf (by assumption) | exact okS_copy | exact okS_clear | exact okS_back (by assumption)) (by omega)) cal_X5_readies rfl m_455 (by decide) (Or.inl rfl) (Nat.zero_le _) (Nat.zero_le _) 6 rfl rfl [6, 7, 8, 9, 10, 1, 2] rfl rfl (Nat.le_of_ble_eq_true rfl) rfl (Nat.le_of_ble_eq_true rfl) dX8_doStep_8 ?_
  try dsimp only [gput, gputA, List.set, stGs, List.cons_append, List.nil_append]
  refine g_if_ne (tgt := 16) hF dX8_doStep_11 (by decide) (fun c_11 => absurd (bI_0.mpr (decide_eq_false hr)) c_11) (fun c_11 => ?_)
  refine g_iconst (v := (0)) hF dX8_doStep_14 rfl ?_
  exact g_zret hF hR dX8_doStep_15 rfl ⟨rfl, rfl⟩
