theorem perf_17 (m : Int32) (inp : RV) (v : SV) : perfF 17 m inp v = withAt v (popR v.1) v.2.1 v.2.2.1 v.2.2.2.1 (if popV v.1 = 0 then m else v.2.2.2.2.1 + 1) v.2.2.2.2.2.2.1 := rfl
theorem perf_11 (m : Int32) (inp : RV) (v : SV) : perfF 11 m inp v = withAt v (pushR 24 (popR v.1) (bI (decide (popV v.1 = 0)))) v.2.1 v.2.2.1 v.2.2.2.1 (v.2.2.2.2.1 + 1) v.2.2.2.2.2.2.1 := rfl
set_option maxHeartbeats 4000000 in
set_option maxRecDepth 100000 in
theorem c_S_perform {E : Env3} {A : AV} {v : SV} {p rc rn rt ac an : Nat} {fc fn : Nat → Int32} {nc nn : Nat} {ri ai ni : Nat} {fi : Nat → Int32} (hv : okS v) (hc : nc ≤ 80) (hnn : nn ≤ 80) (hi : ni ≤ 20)  : Cd E none 3 yX5_perform cX5_perform 6 none [.ref A.1, .ref p, .ref ri] (stGs E.2.2 A v ++ [progO p rc rn rt, rowW E.2.2 rc ac 80 fc nc, rowW E.2.2 rn an 80 fn nn, rowW E.2.2 ri ai 20 fi ni]) none (stGs E.2.2 A (perfF (rowGet fc nc v.2.2.2.2.1) (rowGet fn nn v.2.2.2.2.1) (fi, ni) v) ++ [progO p rc rn rt, rowW E.2.2 rc ac 80 fc nc, rowW E.2.2 rn an 80 fn nn, rowW E.2.2 ri ai 20 fi ni]) := by
  refine Ct.of [some (.ref A.1), some (.ref p), some (.ref ri), none, none, none] (by decide +kernel) rfl (Nat.le_of_ble_eq_true rfl) (fun F hE hF hR hN => ?_)
  subst hE
  obtain ⟨⟨f1, n1⟩, ⟨f2, n2⟩, ⟨f3, n3⟩, ⟨f4, n4⟩, at', status, rd, ck⟩ := v
  obtain ⟨h, ⟨r1, a1⟩, ⟨r2, a2⟩, ⟨r3, a3⟩, r4, a4⟩ := A
  obtain ⟨h1, h2, h3, h4⟩ := hv
  dsimp only at h1 h2 h3 h4
  refine g_regroup (gs' := [stO h r1 r2 r3 r4 at' status rd ck, rowW F.1.2.2 r1 a1 24 f1 n1, rowW F.1.2.2 r2 a2 12 f2 n2, rowW F.1.2.2 r3 a3 8 f3 n3, rowW F.1.2.2 r4 a4 30 f4 n4, progO p rc rn rt, rowW F.1.2.2 rc ac 80 fc nc, rowW F.1.2.2 rn an 80 fn nn, rowW F.1.2.2 ri ai 20 fi ni]) rfl ?_
  refine g_aload_n hF dX5_perform_0 rfl ?_
  refine g_aload_n hF dX5_perform_1 rfl ?_
  refine g_get (j := 4) hF 0 rfl rfl (by decide) rfl m_82 rfl dX5_perform_2 ?_
  refine g_callVq hF (c_Prog_codeAt (by omega)) cal_X3_codeAt rfl m_471 (by decide) (Or.inl rfl) (Nat.zero_le _) (Nat.zero_le _) 5 rfl rfl [5, 6] rfl rfl rfl (Nat.le_of_ble_eq_true rfl) dX5_perform_5 ?_
  refine g_istore_n hF dX5_perform_8 (Nat.le_of_ble_eq_true rfl) rfl ?_
  refine g_aload_n hF dX5_perform_9 rfl ?_
  refine g_aload_n hF dX5_perform_10 rfl ?_
  refine g_get (j := 4) hF 0 rfl rfl (by decide) rfl m_82 rfl dX5_perform_11 ?_
  refine g_callVq hF (c_Prog_numberAt (by omega)) cal_X3_numberAt rfl m_508 (by decide) (Or.inl rfl) (Nat.zero_le _) (Nat.zero_le _) 5 rfl rfl [5, 7] rfl rfl rfl (Nat.le_of_ble_eq_true rfl) dX5_perform_14 ?_
  refine g_istore hF dX5_perform_17 (Nat.le_of_ble_eq_true rfl) rfl ?_
  refine g_aload_n hF dX5_perform_19 rfl ?_
  refine g_get (j := 4) hF 0 rfl rfl (by decide) rfl m_82 rfl dX5_perform_20 ?_
  refine g_iconst (v := (1)) hF dX5_perform_23 rfl ?_
  refine g_iadd hF dX5_perform_24 ?_
  refine g_istore hF dX5_perform_25 (Nat.le_of_ble_eq_true rfl) rfl ?_
  refine g_iload_n hF dX5_perform_27 rfl ?_
  by_cases t28_0 : rowGet fc nc at' = 0
  · refine g_tableIn (off := 108) (tgt := 136) hF dX5_perform_28 (by rw [t28_0]; decide) (by rw [t28_0]; decide) (by rw [t28_0]; rfl) (by decide) ?_
    refine g_aload_n hF dX5_perform_136 rfl ?_
    refine g_get (j := 0) hF 0 rfl rfl (by decide) rfl m_73 rfl dX5_perform_137 ?_
    refine g_iload hF dX5_perform_140 rfl ?_
    refine g_callVd hF (c_Row_push (by first | omega | exact clampI_le | (split <;> omega)) (by omega)) cal_X4_push rfl m_521 (by decide) (Or.inl rfl) (Nat.zero_le _) (Nat.zero_le _) 1 rfl rfl [1] rfl rfl (Nat.le_of_ble_eq_true rfl) rfl (Nat.le_of_ble_eq_true rfl) dX5_perform_142 ?_
    try dsimp only [gput, gputA, List.set, stGs, List.cons_append, List.nil_append]
    refine g_goto (tgt := 407) hF dX5_perform_145 (by decide) ?_
    refine g_aload_n hF dX5_perform_407 rfl ?_
    refine g_iload hF dX5_perform_408 rfl ?_
    refine g_put (j := 4) hF 0 rfl rfl (by decide) rfl m_82 rfl (tyX5_ok 4 (by decide)) rfl rfl (Nat.le_of_ble_eq_true rfl) dX5_perform_410 ?_
    try dsimp only [gput, gputA, List.set, stGs, List.cons_append, List.nil_append]
    refine g_aload_n hF dX5_perform_413 rfl ?_
    refine g_dup hF dX5_perform_414 rfl ?_
    refine g_get (j := 7) hF 0 rfl rfl (by decide) rfl m_90 rfl dX5_perform_415 ?_
    refine g_iconst (v := (1)) hF dX5_perform_418 rfl ?_
    refine g_iadd hF dX5_perform_419 ?_
    refine g_put (j := 7) hF 0 rfl rfl (by decide) rfl m_90 rfl (tyX5_ok 7 (by decide)) rfl rfl (Nat.le_of_ble_eq_true rfl) dX5_perform_420 ?_
    try dsimp only [gput, gputA, List.set, stGs, List.cons_append, List.nil_append]
    refine g_regroup (gs' := stGs F.1.2.2 (h, (r1, a1), (r2, a2), (r3, a3), r4, a4) (perfF (rowGet fc nc ((f1, n1), (f2, n2), (f3, n3), (f4, n4), at', status, rd, ck).2.2.2.2.1) (rowGet fn nn ((f1, n1), (f2, n2), (f3, n3), (f4, n4), at', status, rd, ck).2.2.2.2.1) (fi, ni) ((f1, n1), (f2, n2), (f3, n3), (f4, n4), at', status, rd, ck)) ++ [progO p rc rn rt, rowW F.1.2.2 rc ac 80 fc nc, rowW F.1.2.2 rn an 80 fn nn, rowW F.1.2.2 ri ai 20 fi ni]) (by simp only [t28_0]; rfl) ?_
    exact g_vret hF hR dX5_perform_423 ⟨rfl, rfl⟩
  by_cases t28_1 : rowGet fc nc at' = 1
  · refine g_tableIn (off := 120) (tgt := 148) hF dX5_perform_28 (by rw [t28_1]; decide) (by rw [t28_1]; decide) (by rw [t28_1]; rfl) (by decide) ?_
    refine g_aload_n hF dX5_perform_148 rfl ?_
    refine g_get (j := 0) hF 0 rfl rfl (by decide) rfl m_73 rfl dX5_perform_149 ?_
    refine g_callVd hF (c_Row_pop (by first | omega | exact clampI_le | (split <;> omega)) (by omega)) cal_X4_pop rfl m_522 (by decide) (Or.inl rfl) (Nat.zero_le _) (Nat.zero_le _) 1 rfl rfl [1] rfl rfl (Nat.le_of_ble_eq_true rfl) rfl (Nat.le_of_ble_eq_true rfl) dX5_perform_152 ?_
    try dsimp only [gput, gputA, List.set, stGs, List.cons_append, List.nil_append]
    refine g_pop hF dX5_perform_155 rfl ?_
    refine g_goto (tgt := 407) hF dX5_perform_156 (by decide) ?_
    refine g_aload_n hF dX5_perform_407 rfl ?_
    refine g_iload hF dX5_perform_408 rfl ?_
    refine g_put (j := 4) hF 0 rfl rfl (by decide) rfl m_82 rfl (tyX5_ok 4 (by decide)) rfl rfl (Nat.le_of_ble_eq_true rfl) dX5_perform_410 ?_
    try dsimp only [gput, gputA, List.set, stGs, List.cons_append, List.nil_append]
    refine g_aload_n hF dX5_perform_413 rfl ?_
    refine g_dup hF dX5_perform_414 rfl ?_
    refine g_get (j := 7) hF 0 rfl rfl (by decide) rfl m_90 rfl dX5_perform_415 ?_
    refine g_iconst (v := (1)) hF dX5_perform_418 rfl ?_
    refine g_iadd hF dX5_perform_419 ?_
    refine g_put (j := 7) hF 0 rfl rfl (by decide) rfl m_90 rfl (tyX5_ok 7 (by decide)) rfl rfl (Nat.le_of_ble_eq_true rfl) dX5_perform_420 ?_
    try dsimp only [gput, gputA, List.set, stGs, List.cons_append, List.nil_append]
    refine g_regroup (gs' := stGs F.1.2.2 (h, (r1, a1), (r2, a2), (r3, a3), r4, a4) (perfF (rowGet fc nc ((f1, n1), (f2, n2), (f3, n3), (f4, n4), at', status, rd, ck).2.2.2.2.1) (rowGet fn nn ((f1, n1), (f2, n2), (f3, n3), (f4, n4), at', status, rd, ck).2.2.2.2.1) (fi, ni) ((f1, n1), (f2, n2), (f3, n3), (f4, n4), at', status, rd, ck)) ++ [progO p rc rn rt, rowW F.1.2.2 rc ac 80 fc nc, rowW F.1.2.2 rn an 80 fn nn, rowW F.1.2.2 ri ai 20 fi ni]) (by simp only [t28_1]; rfl) ?_
    exact g_vret hF hR dX5_perform_423 ⟨rfl, rfl⟩
  by_cases t28_2 : rowGet fc nc at' = 2
  · refine g_tableIn (off := 131) (tgt := 159) hF dX5_perform_28 (by rw [t28_2]; decide) (by rw [t28_2]; decide) (by rw [t28_2]; rfl) (by decide) ?_
    refine g_aload_n hF dX5_perform_159 rfl ?_
    refine g_get (j := 0) hF 0 rfl rfl (by decide) rfl m_73 rfl dX5_perform_160 ?_
    refine g_aload_n hF dX5_perform_163 rfl ?_
    refine g_get (j := 0) hF 0 rfl rfl (by decide) rfl m_73 rfl dX5_perform_164 ?_
    refine g_iconst (v := (0)) hF dX5_perform_167 rfl ?_
    refine g_callVq hF (c_Row_fromTop (by first | omega | exact clampI_le | (split <;> omega)) (by omega)) cal_X4_fromTop rfl m_483 (by decide) (Or.inl rfl) (Nat.zero_le _) (Nat.zero_le _) 1 rfl rfl [1] rfl rfl rfl (Nat.le_of_ble_eq_true rfl) dX5_perform_168 ?_
    refine g_callVd hF (c_Row_push (by first | omega | exact clampI_le | (split <;> omega)) (by omega)) cal_X4_push rfl m_521 (by decide) (Or.inl rfl) (Nat.zero_le _) (Nat.zero_le _) 1 rfl rfl [1] rfl rfl (Nat.le_of_ble_eq_true rfl) rfl (Nat.le_of_ble_eq_true rfl) dX5_perform_171 ?_
    try dsimp only [gput, gputA, List.set, stGs, List.cons_append, List.nil_append]
    refine g_goto (tgt := 407) hF dX5_perform_174 (by decide) ?_
    refine g_aload_n hF dX5_perform_407 rfl ?_
    refine g_iload hF dX5_perform_408 rfl ?_
    refine g_put (j := 4) hF 0 rfl rfl (by decide) rfl m_82 rfl (tyX5_ok 4 (by decide)) rfl rfl (Nat.le_of_ble_eq_true rfl) dX5_perform_410 ?_
    try dsimp only [gput, gputA, List.set, stGs, List.cons_append, List.nil_append]
    refine g_aload_n hF dX5_perform_413 rfl ?_
    refine g_dup hF dX5_perform_414 rfl ?_
    refine g_get (j := 7) hF 0 rfl rfl (by decide) rfl m_90 rfl dX5_perform_415 ?_
    refine g_iconst (v := (1)) hF dX5_perform_418 rfl ?_
    refine g_iadd hF dX5_perform_419 ?_
    refine g_put (j := 7) hF 0 rfl rfl (by decide) rfl m_90 rfl (tyX5_ok 7 (by decide)) rfl rfl (Nat.le_of_ble_eq_true rfl) dX5_perform_420 ?_
    try dsimp only [gput, gputA, List.set, stGs, List.cons_append, List.nil_append]
    refine g_regroup (gs' := stGs F.1.2.2 (h, (r1, a1), (r2, a2), (r3, a3), r4, a4) (perfF (rowGet fc nc ((f1, n1), (f2, n2), (f3, n3), (f4, n4), at', status, rd, ck).2.2.2.2.1) (rowGet fn nn ((f1, n1), (f2, n2), (f3, n3), (f4, n4), at', status, rd, ck).2.2.2.2.1) (fi, ni) ((f1, n1), (f2, n2), (f3, n3), (f4, n4), at', status, rd, ck)) ++ [progO p rc rn rt, rowW F.1.2.2 rc ac 80 fc nc, rowW F.1.2.2 rn an 80 fn nn, rowW F.1.2.2 ri ai 20 fi ni]) (by simp only [t28_2]; rfl) ?_
    exact g_vret hF hR dX5_perform_423 ⟨rfl, rfl⟩
  by_cases t28_3 : rowGet fc nc at' = 3
  · refine g_tableIn (off := 149) (tgt := 177) hF dX5_perform_28 (by rw [t28_3]; decide) (by rw [t28_3]; decide) (by rw [t28_3]; rfl) (by decide) ?_
    refine g_aload_n hF dX5_perform_177 rfl ?_
    refine g_callVd hF (c_St_swap (by omega)) cal_X5_swap rfl m_526 (by decide) (Or.inl rfl) (Nat.zero_le _) (Nat.zero_le _) 0 rfl rfl [0, 1] rfl rfl (Nat.le_of_ble_eq_true rfl) rfl (Nat.le_of_ble_eq_true rfl) dX5_perform_178 ?_
    try dsimp only [gput, gputA, List.set, stGs, List.cons_append, List.nil_append]
    refine g_goto (tgt := 407) hF dX5_perform_181 (by decide) ?_
    refine g_aload_n hF dX5_perform_407 rfl ?_
    refine g_iload hF dX5_perform_408 rfl ?_
    refine g_put (j := 4) hF 0 rfl rfl (by decide) rfl m_82 rfl (tyX5_ok 4 (by decide)) rfl rfl (Nat.le_of_ble_eq_true rfl) dX5_perform_410 ?_
    try dsimp only [gput, gputA, List.set, stGs, List.cons_append, List.nil_append]
    refine g_aload_n hF dX5_perform_413 rfl ?_
    refine g_dup hF dX5_perform_414 rfl ?_
    refine g_get (j := 7) hF 0 rfl rfl (by decide) rfl m_90 rfl dX5_perform_415 ?_
    refine g_iconst (v := (1)) hF dX5_perform_418 rfl ?_
    refine g_iadd hF dX5_perform_419 ?_
    refine g_put (j := 7) hF 0 rfl rfl (by decide) rfl m_90 rfl (tyX5_ok 7 (by decide)) rfl rfl (Nat.le_of_ble_eq_true rfl) dX5_perform_420 ?_
    try dsimp only [gput, gputA, List.set, stGs, List.cons_append, List.nil_append]
    refine g_regroup (gs' := stGs F.1.2.2 (h, (r1, a1), (r2, a2), (r3, a3), r4, a4) (perfF (rowGet fc nc ((f1, n1), (f2, n2), (f3, n3), (f4, n4), at', status, rd, ck).2.2.2.2.1) (rowGet fn nn ((f1, n1), (f2, n2), (f3, n3), (f4, n4), at', status, rd, ck).2.2.2.2.1) (fi, ni) ((f1, n1), (f2, n2), (f3, n3), (f4, n4), at', status, rd, ck)) ++ [progO p rc rn rt, rowW F.1.2.2 rc ac 80 fc nc, rowW F.1.2.2 rn an 80 fn nn, rowW F.1.2.2 ri ai 20 fi ni]) (by simp only [t28_3]; rfl) ?_
    exact g_vret hF hR dX5_perform_423 ⟨rfl, rfl⟩
  by_cases t28_4 : rowGet fc nc at' = 4
  · refine g_tableIn (off := 156) (tgt := 184) hF dX5_perform_28 (by rw [t28_4]; decide) (by rw [t28_4]; decide) (by rw [t28_4]; rfl) (by decide) ?_
    refine g_aload_n hF dX5_perform_184 rfl ?_
    refine g_get (j := 0) hF 0 rfl rfl (by decide) rfl m_73 rfl dX5_perform_185 ?_
    refine g_aload_n hF dX5_perform_188 rfl ?_
    refine g_get (j := 0) hF 0 rfl rfl (by decide) rfl m_73 rfl dX5_perform_189 ?_
    refine g_iconst (v := (1)) hF dX5_perform_192 rfl ?_
    refine g_callVq hF (c_Row_fromTop (by first | omega | exact clampI_le | (split <;> omega)) (by omega)) cal_X4_fromTop rfl m_483 (by decide) (Or.inl rfl) (Nat.zero_le _) (Nat.zero_le _) 1 rfl rfl [1] rfl rfl rfl (Nat.le_of_ble_eq_true rfl) dX5_perform_193 ?_
    refine g_callVd hF (c_Row_push (by first | omega | exact clampI_le | (split <;> omega)) (by omega)) cal_X4_push rfl m_521 (by decide) (Or.inl rfl) (Nat.zero_le _) (Nat.zero_le _) 1 rfl rfl [1] rfl rfl (Nat.le_of_ble_eq_true rfl) rfl (Nat.le_of_ble_eq_true rfl) dX5_perform_196 ?_
    try dsimp only [gput, gputA, List.set, stGs, List.cons_append, List.nil_append]
    refine g_goto (tgt := 407) hF dX5_perform_199 (by decide) ?_
    refine g_aload_n hF dX5_perform_407 rfl ?_
    refine g_iload hF dX5_perform_408 rfl ?_
    refine g_put (j := 4) hF 0 rfl rfl (by decide) rfl m_82 rfl (tyX5_ok 4 (by decide)) rfl rfl (Nat.le_of_ble_eq_true rfl) dX5_perform_410 ?_
    try dsimp only [gput, gputA, List.set, stGs, List.cons_append, List.nil_append]
    refine g_aload_n hF dX5_perform_413 rfl ?_
    refine g_dup hF dX5_perform_414 rfl ?_
    refine g_get (j := 7) hF 0 rfl rfl (by decide) rfl m_90 rfl dX5_perform_415 ?_
    refine g_iconst (v := (1)) hF dX5_perform_418 rfl ?_
    refine g_iadd hF dX5_perform_419 ?_
    refine g_put (j := 7) hF 0 rfl rfl (by decide) rfl m_90 rfl (tyX5_ok 7 (by decide)) rfl rfl (Nat.le_of_ble_eq_true rfl) dX5_perform_420 ?_
    try dsimp only [gput, gputA, List.set, stGs, List.cons_append, List.nil_append]
    refine g_regroup (gs' := stGs F.1.2.2 (h, (r1, a1), (r2, a2), (r3, a3), r4, a4) (perfF (rowGet fc nc ((f1, n1), (f2, n2), (f3, n3), (f4, n4), at', status, rd, ck).2.2.2.2.1) (rowGet fn nn ((f1, n1), (f2, n2), (f3, n3), (f4, n4), at', status, rd, ck).2.2.2.2.1) (fi, ni) ((f1, n1), (f2, n2), (f3, n3), (f4, n4), at', status, rd, ck)) ++ [progO p rc rn rt, rowW F.1.2.2 rc ac 80 fc nc, rowW F.1.2.2 rn an 80 fn nn, rowW F.1.2.2 ri ai 20 fi ni]) (by simp only [t28_4]; rfl) ?_
    exact g_vret hF hR dX5_perform_423 ⟨rfl, rfl⟩
  by_cases t28_5 : rowGet fc nc at' = 5
  · refine g_tableIn (off := 374) (tgt := 402) hF dX5_perform_28 (by rw [t28_5]; decide) (by rw [t28_5]; decide) (by rw [t28_5]; rfl) (by decide) ?_
    refine g_aload_n hF dX5_perform_402 rfl ?_
    refine g_iload_n hF dX5_perform_403 rfl ?_
    refine g_callVd hF (c_St_reckon (by omega)) cal_X5_reckon rfl m_543 (by decide) (Or.inl rfl) (Nat.zero_le _) (Nat.zero_le _) 0 rfl rfl [0, 1] rfl rfl (Nat.le_of_ble_eq_true rfl) rfl (Nat.le_of_ble_eq_true rfl) dX5_perform_404 ?_
    try dsimp only [gput, gputA, List.set, stGs, List.cons_append, List.nil_append]
    refine g_aload_n hF dX5_perform_407 rfl ?_
    refine g_iload hF dX5_perform_408 rfl ?_
    refine g_put (j := 4) hF 0 rfl rfl (by decide) rfl m_82 rfl (tyX5_ok 4 (by decide)) rfl rfl (Nat.le_of_ble_eq_true rfl) dX5_perform_410 ?_
    try dsimp only [gput, gputA, List.set, stGs, List.cons_append, List.nil_append]
    refine g_aload_n hF dX5_perform_413 rfl ?_
    refine g_dup hF dX5_perform_414 rfl ?_
    refine g_get (j := 7) hF 0 rfl rfl (by decide) rfl m_90 rfl dX5_perform_415 ?_
    refine g_iconst (v := (1)) hF dX5_perform_418 rfl ?_
    refine g_iadd hF dX5_perform_419 ?_
    refine g_put (j := 7) hF 0 rfl rfl (by decide) rfl m_90 rfl (tyX5_ok 7 (by decide)) rfl rfl (Nat.le_of_ble_eq_true rfl) dX5_perform_420 ?_
    try dsimp only [gput, gputA, List.set, stGs, List.cons_append, List.nil_append]
    refine g_regroup (gs' := stGs F.1.2.2 (h, (r1, a1), (r2, a2), (r3, a3), r4, a4) (perfF (rowGet fc nc ((f1, n1), (f2, n2), (f3, n3), (f4, n4), at', status, rd, ck).2.2.2.2.1) (rowGet fn nn ((f1, n1), (f2, n2), (f3, n3), (f4, n4), at', status, rd, ck).2.2.2.2.1) (fi, ni) ((f1, n1), (f2, n2), (f3, n3), (f4, n4), at', status, rd, ck)) ++ [progO p rc rn rt, rowW F.1.2.2 rc ac 80 fc nc, rowW F.1.2.2 rn an 80 fn nn, rowW F.1.2.2 ri ai 20 fi ni]) (by simp only [t28_5]; rfl) ?_
    exact g_vret hF hR dX5_perform_423 ⟨rfl, rfl⟩
  by_cases t28_6 : rowGet fc nc at' = 6
  · refine g_tableIn (off := 374) (tgt := 402) hF dX5_perform_28 (by rw [t28_6]; decide) (by rw [t28_6]; decide) (by rw [t28_6]; rfl) (by decide) ?_
    refine g_aload_n hF dX5_perform_402 rfl ?_
    refine g_iload_n hF dX5_perform_403 rfl ?_
    refine g_callVd hF (c_St_reckon (by omega)) cal_X5_reckon rfl m_543 (by decide) (Or.inl rfl) (Nat.zero_le _) (Nat.zero_le _) 0 rfl rfl [0, 1] rfl rfl (Nat.le_of_ble_eq_true rfl) rfl (Nat.le_of_ble_eq_true rfl) dX5_perform_404 ?_
    try dsimp only [gput, gputA, List.set, stGs, List.cons_append, List.nil_append]
    refine g_aload_n hF dX5_perform_407 rfl ?_
    refine g_iload hF dX5_perform_408 rfl ?_
    refine g_put (j := 4) hF 0 rfl rfl (by decide) rfl m_82 rfl (tyX5_ok 4 (by decide)) rfl rfl (Nat.le_of_ble_eq_true rfl) dX5_perform_410 ?_
    try dsimp only [gput, gputA, List.set, stGs, List.cons_append, List.nil_append]
    refine g_aload_n hF dX5_perform_413 rfl ?_
    refine g_dup hF dX5_perform_414 rfl ?_
    refine g_get (j := 7) hF 0 rfl rfl (by decide) rfl m_90 rfl dX5_perform_415 ?_
    refine g_iconst (v := (1)) hF dX5_perform_418 rfl ?_
    refine g_iadd hF dX5_perform_419 ?_
    refine g_put (j := 7) hF 0 rfl rfl (by decide) rfl m_90 rfl (tyX5_ok 7 (by decide)) rfl rfl (Nat.le_of_ble_eq_true rfl) dX5_perform_420 ?_
    try dsimp only [gput, gputA, List.set, stGs, List.cons_append, List.nil_append]
    refine g_regroup (gs' := stGs F.1.2.2 (h, (r1, a1), (r2, a2), (r3, a3), r4, a4) (perfF (rowGet fc nc ((f1, n1), (f2, n2), (f3, n3), (f4, n4), at', status, rd, ck).2.2.2.2.1) (rowGet fn nn ((f1, n1), (f2, n2), (f3, n3), (f4, n4), at', status, rd, ck).2.2.2.2.1) (fi, ni) ((f1, n1), (f2, n2), (f3, n3), (f4, n4), at', status, rd, ck)) ++ [progO p rc rn rt, rowW F.1.2.2 rc ac 80 fc nc, rowW F.1.2.2 rn an 80 fn nn, rowW F.1.2.2 ri ai 20 fi ni]) (by simp only [t28_6]; rfl) ?_
    exact g_vret hF hR dX5_perform_423 ⟨rfl, rfl⟩
  by_cases t28_7 : rowGet fc nc at' = 7
  · refine g_tableIn (off := 374) (tgt := 402) hF dX5_perform_28 (by rw [t28_7]; decide) (by rw [t28_7]; decide) (by rw [t28_7]; rfl) (by decide) ?_
    refine g_aload_n hF dX5_perform_402 rfl ?_
    refine g_iload_n hF dX5_perform_403 rfl ?_
    refine g_callVd hF (c_St_reckon (by omega)) cal_X5_reckon rfl m_543 (by decide) (Or.inl rfl) (Nat.zero_le _) (Nat.zero_le _) 0 rfl rfl [0, 1] rfl rfl (Nat.le_of_ble_eq_true rfl) rfl (Nat.le_of_ble_eq_true rfl) dX5_perform_404 ?_
    try dsimp only [gput, gputA, List.set, stGs, List.cons_append, List.nil_append]
    refine g_aload_n hF dX5_perform_407 rfl ?_
    refine g_iload hF dX5_perform_408 rfl ?_
    refine g_put (j := 4) hF 0 rfl rfl (by decide) rfl m_82 rfl (tyX5_ok 4 (by decide)) rfl rfl (Nat.le_of_ble_eq_true rfl) dX5_perform_410 ?_
    try dsimp only [gput, gputA, List.set, stGs, List.cons_append, List.nil_append]
    refine g_aload_n hF dX5_perform_413 rfl ?_
    refine g_dup hF dX5_perform_414 rfl ?_
    refine g_get (j := 7) hF 0 rfl rfl (by decide) rfl m_90 rfl dX5_perform_415 ?_
    refine g_iconst (v := (1)) hF dX5_perform_418 rfl ?_
    refine g_iadd hF dX5_perform_419 ?_
    refine g_put (j := 7) hF 0 rfl rfl (by decide) rfl m_90 rfl (tyX5_ok 7 (by decide)) rfl rfl (Nat.le_of_ble_eq_true rfl) dX5_perform_420 ?_
    try dsimp only [gput, gputA, List.set, stGs, List.cons_append, List.nil_append]
    refine g_regroup (gs' := stGs F.1.2.2 (h, (r1, a1), (r2, a2), (r3, a3), r4, a4) (perfF (rowGet fc nc ((f1, n1), (f2, n2), (f3, n3), (f4, n4), at', status, rd, ck).2.2.2.2.1) (rowGet fn nn ((f1, n1), (f2, n2), (f3, n3), (f4, n4), at', status, rd, ck).2.2.2.2.1) (fi, ni) ((f1, n1), (f2, n2), (f3, n3), (f4, n4), at', status, rd, ck)) ++ [progO p rc rn rt, rowW F.1.2.2 rc ac 80 fc nc, rowW F.1.2.2 rn an 80 fn nn, rowW F.1.2.2 ri ai 20 fi ni]) (by simp only [t28_7]; rfl) ?_
    exact g_vret hF hR dX5_perform_423 ⟨rfl, rfl⟩
  by_cases t28_8 : rowGet fc nc at' = 8
  · refine g_tableIn (off := 374) (tgt := 402) hF dX5_perform_28 (by rw [t28_8]; decide) (by rw [t28_8]; decide) (by rw [t28_8]; rfl) (by decide) ?_
    refine g_aload_n hF dX5_perform_402 rfl ?_
    refine g_iload_n hF dX5_perform_403 rfl ?_
    refine g_callVd hF (c_St_reckon (by omega)) cal_X5_reckon rfl m_543 (by decide) (Or.inl rfl) (Nat.zero_le _) (Nat.zero_le _) 0 rfl rfl [0, 1] rfl rfl (Nat.le_of_ble_eq_true rfl) rfl (Nat.le_of_ble_eq_true rfl) dX5_perform_404 ?_
    try dsimp only [gput, gputA, List.set, stGs, List.cons_append, List.nil_append]
    refine g_aload_n hF dX5_perform_407 rfl ?_
    refine g_iload hF dX5_perform_408 rfl ?_
    refine g_put (j := 4) hF 0 rfl rfl (by decide) rfl m_82 rfl (tyX5_ok 4 (by decide)) rfl rfl (Nat.le_of_ble_eq_true rfl) dX5_perform_410 ?_
    try dsimp only [gput, gputA, List.set, stGs, List.cons_append, List.nil_append]
    refine g_aload_n hF dX5_perform_413 rfl ?_
    refine g_dup hF dX5_perform_414 rfl ?_
    refine g_get (j := 7) hF 0 rfl rfl (by decide) rfl m_90 rfl dX5_perform_415 ?_
    refine g_iconst (v := (1)) hF dX5_perform_418 rfl ?_
    refine g_iadd hF dX5_perform_419 ?_
    refine g_put (j := 7) hF 0 rfl rfl (by decide) rfl m_90 rfl (tyX5_ok 7 (by decide)) rfl rfl (Nat.le_of_ble_eq_true rfl) dX5_perform_420 ?_
    try dsimp only [gput, gputA, List.set, stGs, List.cons_append, List.nil_append]
    refine g_regroup (gs' := stGs F.1.2.2 (h, (r1, a1), (r2, a2), (r3, a3), r4, a4) (perfF (rowGet fc nc ((f1, n1), (f2, n2), (f3, n3), (f4, n4), at', status, rd, ck).2.2.2.2.1) (rowGet fn nn ((f1, n1), (f2, n2), (f3, n3), (f4, n4), at', status, rd, ck).2.2.2.2.1) (fi, ni) ((f1, n1), (f2, n2), (f3, n3), (f4, n4), at', status, rd, ck)) ++ [progO p rc rn rt, rowW F.1.2.2 rc ac 80 fc nc, rowW F.1.2.2 rn an 80 fn nn, rowW F.1.2.2 ri ai 20 fi ni]) (by simp only [t28_8]; rfl) ?_
    exact g_vret hF hR dX5_perform_423 ⟨rfl, rfl⟩
  by_cases t28_9 : rowGet fc nc at' = 9
  · refine g_tableIn (off := 374) (tgt := 402) hF dX5_perform_28 (by rw [t28_9]; decide) (by rw [t28_9]; decide) (by rw [t28_9]; rfl) (by decide) ?_
    refine g_aload_n hF dX5_perform_402 rfl ?_
    refine g_iload_n hF dX5_perform_403 rfl ?_
    refine g_callVd hF (c_St_reckon (by omega)) cal_X5_reckon rfl m_543 (by decide) (Or.inl rfl) (Nat.zero_le _) (Nat.zero_le _) 0 rfl rfl [0, 1] rfl rfl (Nat.le_of_ble_eq_true rfl) rfl (Nat.le_of_ble_eq_true rfl) dX5_perform_404 ?_
    try dsimp only [gput, gputA, List.set, stGs, List.cons_append, List.nil_append]
    refine g_aload_n hF dX5_perform_407 rfl ?_
    refine g_iload hF dX5_perform_408 rfl ?_
    refine g_put (j := 4) hF 0 rfl rfl (by decide) rfl m_82 rfl (tyX5_ok 4 (by decide)) rfl rfl (Nat.le_of_ble_eq_true rfl) dX5_perform_410 ?_
    try dsimp only [gput, gputA, List.set, stGs, List.cons_append, List.nil_append]
    refine g_aload_n hF dX5_perform_413 rfl ?_
    refine g_dup hF dX5_perform_414 rfl ?_
    refine g_get (j := 7) hF 0 rfl rfl (by decide) rfl m_90 rfl dX5_perform_415 ?_
    refine g_iconst (v := (1)) hF dX5_perform_418 rfl ?_
    refine g_iadd hF dX5_perform_419 ?_
    refine g_put (j := 7) hF 0 rfl rfl (by decide) rfl m_90 rfl (tyX5_ok 7 (by decide)) rfl rfl (Nat.le_of_ble_eq_true rfl) dX5_perform_420 ?_
    try dsimp only [gput, gputA, List.set, stGs, List.cons_append, List.nil_append]
    refine g_regroup (gs' := stGs F.1.2.2 (h, (r1, a1), (r2, a2), (r3, a3), r4, a4) (perfF (rowGet fc nc ((f1, n1), (f2, n2), (f3, n3), (f4, n4), at', status, rd, ck).2.2.2.2.1) (rowGet fn nn ((f1, n1), (f2, n2), (f3, n3), (f4, n4), at', status, rd, ck).2.2.2.2.1) (fi, ni) ((f1, n1), (f2, n2), (f3, n3), (f4, n4), at', status, rd, ck)) ++ [progO p rc rn rt, rowW F.1.2.2 rc ac 80 fc nc, rowW F.1.2.2 rn an 80 fn nn, rowW F.1.2.2 ri ai 20 fi ni]) (by simp only [t28_9]; rfl) ?_
    exact g_vret hF hR dX5_perform_423 ⟨rfl, rfl⟩
  by_cases t28_10 : rowGet fc nc at' = 10
  · refine g_tableIn (off := 374) (tgt := 402) hF dX5_perform_28 (by rw [t28_10]; decide) (by rw [t28_10]; decide) (by rw [t28_10]; rfl) (by decide) ?_
    refine g_aload_n hF dX5_perform_402 rfl ?_
    refine g_iload_n hF dX5_perform_403 rfl ?_
    refine g_callVd hF (c_St_reckon (by omega)) cal_X5_reckon rfl m_543 (by decide) (Or.inl rfl) (Nat.zero_le _) (Nat.zero_le _) 0 rfl rfl [0, 1] rfl rfl (Nat.le_of_ble_eq_true rfl) rfl (Nat.le_of_ble_eq_true rfl) dX5_perform_404 ?_
    try dsimp only [gput, gputA, List.set, stGs, List.cons_append, List.nil_append]
    refine g_aload_n hF dX5_perform_407 rfl ?_
    refine g_iload hF dX5_perform_408 rfl ?_
    refine g_put (j := 4) hF 0 rfl rfl (by decide) rfl m_82 rfl (tyX5_ok 4 (by decide)) rfl rfl (Nat.le_of_ble_eq_true rfl) dX5_perform_410 ?_
    try dsimp only [gput, gputA, List.set, stGs, List.cons_append, List.nil_append]
    refine g_aload_n hF dX5_perform_413 rfl ?_
    refine g_dup hF dX5_perform_414 rfl ?_
    refine g_get (j := 7) hF 0 rfl rfl (by decide) rfl m_90 rfl dX5_perform_415 ?_
    refine g_iconst (v := (1)) hF dX5_perform_418 rfl ?_
    refine g_iadd hF dX5_perform_419 ?_
    refine g_put (j := 7) hF 0 rfl rfl (by decide) rfl m_90 rfl (tyX5_ok 7 (by decide)) rfl rfl (Nat.le_of_ble_eq_true rfl) dX5_perform_420 ?_
    try dsimp only [gput, gputA, List.set, stGs, List.cons_append, List.nil_append]
    refine g_regroup (gs' := stGs F.1.2.2 (h, (r1, a1), (r2, a2), (r3, a3), r4, a4) (perfF (rowGet fc nc ((f1, n1), (f2, n2), (f3, n3), (f4, n4), at', status, rd, ck).2.2.2.2.1) (rowGet fn nn ((f1, n1), (f2, n2), (f3, n3), (f4, n4), at', status, rd, ck).2.2.2.2.1) (fi, ni) ((f1, n1), (f2, n2), (f3, n3), (f4, n4), at', status, rd, ck)) ++ [progO p rc rn rt, rowW F.1.2.2 rc ac 80 fc nc, rowW F.1.2.2 rn an 80 fn nn, rowW F.1.2.2 ri ai 20 fi ni]) (by simp only [t28_10]; rfl) ?_
    exact g_vret hF hR dX5_perform_423 ⟨rfl, rfl⟩
  by_cases t28_11 : rowGet fc nc at' = 11
  · refine g_tableIn (off := 174) (tgt := 202) hF dX5_perform_28 (by rw [t28_11]; decide) (by rw [t28_11]; decide) (by rw [t28_11]; rfl) (by decide) ?_
    refine g_aload_n hF dX5_perform_202 rfl ?_
    refine g_get (j := 0) hF 0 rfl rfl (by decide) rfl m_73 rfl dX5_perform_203 ?_
    refine g_aload_n hF dX5_perform_206 rfl ?_
    refine g_get (j := 0) hF 0 rfl rfl (by decide) rfl m_73 rfl dX5_perform_207 ?_
    refine g_callVd hF (c_Row_pop (by first | omega | exact clampI_le | (split <;> omega)) (by omega)) cal_X4_pop rfl m_522 (by decide) (Or.inl rfl) (Nat.zero_le _) (Nat.zero_le _) 1 rfl rfl [1] rfl rfl (Nat.le_of_ble_eq_true rfl) rfl (Nat.le_of_ble_eq_true rfl) dX5_perform_210 ?_
    try dsimp only [gput, gputA, List.set, stGs, List.cons_append, List.nil_append]
    refine g_if_ne (tgt := 220) hF dX5_perform_213 (by decide) (fun c_213 => ?_) (fun c_213 => ?_)
    · refine g_iconst (v := (0)) hF dX5_perform_220 rfl ?_
      refine g_callSNq hF (c_truth (b := false)) cal_X8_truth rfl m_530 (by decide) (Or.inl rfl) (Nat.zero_le _) (Nat.zero_le _) [] rfl rfl rfl (Nat.le_of_ble_eq_true rfl) dX5_perform_221 ?_
      refine g_callVd hF (c_Row_push (by first | omega | exact clampI_le | (split <;> omega)) (by omega)) cal_X4_push rfl m_521 (by decide) (Or.inl rfl) (Nat.zero_le _) (Nat.zero_le _) 1 rfl rfl [1] rfl rfl (Nat.le_of_ble_eq_true rfl) rfl (Nat.le_of_ble_eq_true rfl) dX5_perform_224 ?_
      try dsimp only [gput, gputA, List.set, stGs, List.cons_append, List.nil_append]
      refine g_goto (tgt := 407) hF dX5_perform_227 (by decide) ?_
      refine g_aload_n hF dX5_perform_407 rfl ?_
      refine g_iload hF dX5_perform_408 rfl ?_
      refine g_put (j := 4) hF 0 rfl rfl (by decide) rfl m_82 rfl (tyX5_ok 4 (by decide)) rfl rfl (Nat.le_of_ble_eq_true rfl) dX5_perform_410 ?_
      try dsimp only [gput, gputA, List.set, stGs, List.cons_append, List.nil_append]
      refine g_aload_n hF dX5_perform_413 rfl ?_
      refine g_dup hF dX5_perform_414 rfl ?_
      refine g_get (j := 7) hF 0 rfl rfl (by decide) rfl m_90 rfl dX5_perform_415 ?_
      refine g_iconst (v := (1)) hF dX5_perform_418 rfl ?_
      refine g_iadd hF dX5_perform_419 ?_
      refine g_put (j := 7) hF 0 rfl rfl (by decide) rfl m_90 rfl (tyX5_ok 7 (by decide)) rfl rfl (Nat.le_of_ble_eq_true rfl) dX5_perform_420 ?_
      try dsimp only [gput, gputA, List.set, stGs, List.cons_append, List.nil_append]
      refine g_regroup (gs' := stGs F.1.2.2 (h, (r1, a1), (r2, a2), (r3, a3), r4, a4) (perfF (rowGet fc nc ((f1, n1), (f2, n2), (f3, n3), (f4, n4), at', status, rd, ck).2.2.2.2.1) (rowGet fn nn ((f1, n1), (f2, n2), (f3, n3), (f4, n4), at', status, rd, ck).2.2.2.2.1) (fi, ni) ((f1, n1), (f2, n2), (f3, n3), (f4, n4), at', status, rd, ck)) ++ [progO p rc rn rt, rowW F.1.2.2 rc ac 80 fc nc, rowW F.1.2.2 rn an 80 fn nn, rowW F.1.2.2 ri ai 20 fi ni]) (by simp only [t28_11]; rw [perf_11, decide_eq_false (show ¬ popV (f1, n1) = 0 from c_213)]; rfl) ?_
      exact g_vret hF hR dX5_perform_423 ⟨rfl, rfl⟩
    · refine g_iconst (v := (1)) hF dX5_perform_216 rfl ?_
      refine g_goto (tgt := 221) hF dX5_perform_217 (by decide) ?_
      refine g_callSNq hF (c_truth (b := true)) cal_X8_truth rfl m_530 (by decide) (Or.inl rfl) (Nat.zero_le _) (Nat.zero_le _) [] rfl rfl rfl (Nat.le_of_ble_eq_true rfl) dX5_perform_221 ?_
      refine g_callVd hF (c_Row_push (by first | omega | exact clampI_le | (split <;> omega)) (by omega)) cal_X4_push rfl m_521 (by decide) (Or.inl rfl) (Nat.zero_le _) (Nat.zero_le _) 1 rfl rfl [1] rfl rfl (Nat.le_of_ble_eq_true rfl) rfl (Nat.le_of_ble_eq_true rfl) dX5_perform_224 ?_
      try dsimp only [gput, gputA, List.set, stGs, List.cons_append, List.nil_append]
      refine g_goto (tgt := 407) hF dX5_perform_227 (by decide) ?_
      refine g_aload_n hF dX5_perform_407 rfl ?_
      refine g_iload hF dX5_perform_408 rfl ?_
      refine g_put (j := 4) hF 0 rfl rfl (by decide) rfl m_82 rfl (tyX5_ok 4 (by decide)) rfl rfl (Nat.le_of_ble_eq_true rfl) dX5_perform_410 ?_
      try dsimp only [gput, gputA, List.set, stGs, List.cons_append, List.nil_append]
      refine g_aload_n hF dX5_perform_413 rfl ?_
      refine g_dup hF dX5_perform_414 rfl ?_
      refine g_get (j := 7) hF 0 rfl rfl (by decide) rfl m_90 rfl dX5_perform_415 ?_
      refine g_iconst (v := (1)) hF dX5_perform_418 rfl ?_
      refine g_iadd hF dX5_perform_419 ?_
      refine g_put (j := 7) hF 0 rfl rfl (by decide) rfl m_90 rfl (tyX5_ok 7 (by decide)) rfl rfl (Nat.le_of_ble_eq_true rfl) dX5_perform_420 ?_
      try dsimp only [gput, gputA, List.set, stGs, List.cons_append, List.nil_append]
      refine g_regroup (gs' := stGs F.1.2.2 (h, (r1, a1), (r2, a2), (r3, a3), r4, a4) (perfF (rowGet fc nc ((f1, n1), (f2, n2), (f3, n3), (f4, n4), at', status, rd, ck).2.2.2.2.1) (rowGet fn nn ((f1, n1), (f2, n2), (f3, n3), (f4, n4), at', status, rd, ck).2.2.2.2.1) (fi, ni) ((f1, n1), (f2, n2), (f3, n3), (f4, n4), at', status, rd, ck)) ++ [progO p rc rn rt, rowW F.1.2.2 rc ac 80 fc nc, rowW F.1.2.2 rn an 80 fn nn, rowW F.1.2.2 ri ai 20 fi ni]) (by simp only [t28_11]; rw [perf_11, decide_eq_true (show popV (f1, n1) = 0 from c_213)]; rfl) ?_
      exact g_vret hF hR dX5_perform_423 ⟨rfl, rfl⟩
  by_cases t28_12 : rowGet fc nc at' = 12
  · refine g_tableIn (off := 202) (tgt := 230) hF dX5_perform_28 (by rw [t28_12]; decide) (by rw [t28_12]; decide) (by rw [t28_12]; rfl) (by decide) ?_
    refine g_aload_n hF dX5_perform_230 rfl ?_
    refine g_get (j := 0) hF 0 rfl rfl (by decide) rfl m_73 rfl dX5_perform_231 ?_
    refine g_aload_n hF dX5_perform_234 rfl ?_
    refine g_get (j := 1) hF 0 rfl rfl (by decide) rfl m_75 rfl dX5_perform_235 ?_
    refine g_iload hF dX5_perform_238 rfl ?_
    refine g_callVq hF (c_Row_get (by first | omega | exact clampI_le | (split <;> omega)) (by omega)) cal_X4_get rfl m_512 (by decide) (Or.inl rfl) (Nat.zero_le _) (Nat.zero_le _) 2 rfl rfl [2] rfl rfl rfl (Nat.le_of_ble_eq_true rfl) dX5_perform_240 ?_
    refine g_callVd hF (c_Row_push (by first | omega | exact clampI_le | (split <;> omega)) (by omega)) cal_X4_push rfl m_521 (by decide) (Or.inl rfl) (Nat.zero_le _) (Nat.zero_le _) 1 rfl rfl [1] rfl rfl (Nat.le_of_ble_eq_true rfl) rfl (Nat.le_of_ble_eq_true rfl) dX5_perform_243 ?_
    try dsimp only [gput, gputA, List.set, stGs, List.cons_append, List.nil_append]
    refine g_goto (tgt := 407) hF dX5_perform_246 (by decide) ?_
    refine g_aload_n hF dX5_perform_407 rfl ?_
    refine g_iload hF dX5_perform_408 rfl ?_
    refine g_put (j := 4) hF 0 rfl rfl (by decide) rfl m_82 rfl (tyX5_ok 4 (by decide)) rfl rfl (Nat.le_of_ble_eq_true rfl) dX5_perform_410 ?_
    try dsimp only [gput, gputA, List.set, stGs, List.cons_append, List.nil_append]
    refine g_aload_n hF dX5_perform_413 rfl ?_
    refine g_dup hF dX5_perform_414 rfl ?_
    refine g_get (j := 7) hF 0 rfl rfl (by decide) rfl m_90 rfl dX5_perform_415 ?_
    refine g_iconst (v := (1)) hF dX5_perform_418 rfl ?_
    refine g_iadd hF dX5_perform_419 ?_
    refine g_put (j := 7) hF 0 rfl rfl (by decide) rfl m_90 rfl (tyX5_ok 7 (by decide)) rfl rfl (Nat.le_of_ble_eq_true rfl) dX5_perform_420 ?_
    try dsimp only [gput, gputA, List.set, stGs, List.cons_append, List.nil_append]
    refine g_regroup (gs' := stGs F.1.2.2 (h, (r1, a1), (r2, a2), (r3, a3), r4, a4) (perfF (rowGet fc nc ((f1, n1), (f2, n2), (f3, n3), (f4, n4), at', status, rd, ck).2.2.2.2.1) (rowGet fn nn ((f1, n1), (f2, n2), (f3, n3), (f4, n4), at', status, rd, ck).2.2.2.2.1) (fi, ni) ((f1, n1), (f2, n2), (f3, n3), (f4, n4), at', status, rd, ck)) ++ [progO p rc rn rt, rowW F.1.2.2 rc ac 80 fc nc, rowW F.1.2.2 rn an 80 fn nn, rowW F.1.2.2 ri ai 20 fi ni]) (by simp only [t28_12]; rfl) ?_
    exact g_vret hF hR dX5_perform_423 ⟨rfl, rfl⟩
  by_cases t28_13 : rowGet fc nc at' = 13
  · refine g_tableIn (off := 221) (tgt := 249) hF dX5_perform_28 (by rw [t28_13]; decide) (by rw [t28_13]; decide) (by rw [t28_13]; rfl) (by decide) ?_
    refine g_aload_n hF dX5_perform_249 rfl ?_
    refine g_get (j := 1) hF 0 rfl rfl (by decide) rfl m_75 rfl dX5_perform_250 ?_
    refine g_iload hF dX5_perform_253 rfl ?_
    refine g_aload_n hF dX5_perform_255 rfl ?_
    refine g_get (j := 0) hF 0 rfl rfl (by decide) rfl m_73 rfl dX5_perform_256 ?_
    refine g_callVd hF (c_Row_pop (by first | omega | exact clampI_le | (split <;> omega)) (by omega)) cal_X4_pop rfl m_522 (by decide) (Or.inl rfl) (Nat.zero_le _) (Nat.zero_le _) 1 rfl rfl [1] rfl rfl (Nat.le_of_ble_eq_true rfl) rfl (Nat.le_of_ble_eq_true rfl) dX5_perform_259 ?_
    try dsimp only [gput, gputA, List.set, stGs, List.cons_append, List.nil_append]
    refine g_callVd hF (c_Row_put (by first | omega | exact clampI_le | (split <;> omega)) (by omega)) cal_X4_put rfl m_533 (by decide) (Or.inl rfl) (Nat.zero_le _) (Nat.zero_le _) 2 rfl rfl [2] rfl rfl (Nat.le_of_ble_eq_true rfl) rfl (Nat.le_of_ble_eq_true rfl) dX5_perform_262 ?_
    try dsimp only [gput, gputA, List.set, stGs, List.cons_append, List.nil_append]
    refine g_goto (tgt := 407) hF dX5_perform_265 (by decide) ?_
    refine g_aload_n hF dX5_perform_407 rfl ?_
    refine g_iload hF dX5_perform_408 rfl ?_
    refine g_put (j := 4) hF 0 rfl rfl (by decide) rfl m_82 rfl (tyX5_ok 4 (by decide)) rfl rfl (Nat.le_of_ble_eq_true rfl) dX5_perform_410 ?_
    try dsimp only [gput, gputA, List.set, stGs, List.cons_append, List.nil_append]
    refine g_aload_n hF dX5_perform_413 rfl ?_
    refine g_dup hF dX5_perform_414 rfl ?_
    refine g_get (j := 7) hF 0 rfl rfl (by decide) rfl m_90 rfl dX5_perform_415 ?_
    refine g_iconst (v := (1)) hF dX5_perform_418 rfl ?_
    refine g_iadd hF dX5_perform_419 ?_
    refine g_put (j := 7) hF 0 rfl rfl (by decide) rfl m_90 rfl (tyX5_ok 7 (by decide)) rfl rfl (Nat.le_of_ble_eq_true rfl) dX5_perform_420 ?_
    try dsimp only [gput, gputA, List.set, stGs, List.cons_append, List.nil_append]
    refine g_regroup (gs' := stGs F.1.2.2 (h, (r1, a1), (r2, a2), (r3, a3), r4, a4) (perfF (rowGet fc nc ((f1, n1), (f2, n2), (f3, n3), (f4, n4), at', status, rd, ck).2.2.2.2.1) (rowGet fn nn ((f1, n1), (f2, n2), (f3, n3), (f4, n4), at', status, rd, ck).2.2.2.2.1) (fi, ni) ((f1, n1), (f2, n2), (f3, n3), (f4, n4), at', status, rd, ck)) ++ [progO p rc rn rt, rowW F.1.2.2 rc ac 80 fc nc, rowW F.1.2.2 rn an 80 fn nn, rowW F.1.2.2 ri ai 20 fi ni]) (by simp only [t28_13]; rfl) ?_
    exact g_vret hF hR dX5_perform_423 ⟨rfl, rfl⟩
  by_cases t28_14 : rowGet fc nc at' = 14
  · refine g_tableIn (off := 240) (tgt := 268) hF dX5_perform_28 (by rw [t28_14]; decide) (by rw [t28_14]; decide) (by rw [t28_14]; rfl) (by decide) ?_
    refine g_aload_n hF dX5_perform_268 rfl ?_
    refine g_get (j := 0) hF 0 rfl rfl (by decide) rfl m_73 rfl dX5_perform_269 ?_
    refine g_aload_n hF dX5_perform_272 rfl ?_
    refine g_get (j := 1) hF 0 rfl rfl (by decide) rfl m_75 rfl dX5_perform_273 ?_
    refine g_aload_n hF dX5_perform_276 rfl ?_
    refine g_get (j := 0) hF 0 rfl rfl (by decide) rfl m_73 rfl dX5_perform_277 ?_
    refine g_callVd hF (c_Row_pop (by first | omega | exact clampI_le | (split <;> omega)) (by omega)) cal_X4_pop rfl m_522 (by decide) (Or.inl rfl) (Nat.zero_le _) (Nat.zero_le _) 1 rfl rfl [1] rfl rfl (Nat.le_of_ble_eq_true rfl) rfl (Nat.le_of_ble_eq_true rfl) dX5_perform_280 ?_
    try dsimp only [gput, gputA, List.set, stGs, List.cons_append, List.nil_append]
    refine g_callVq hF (c_Row_get (by first | omega | exact clampI_le | (split <;> omega)) (by omega)) cal_X4_get rfl m_512 (by decide) (Or.inl rfl) (Nat.zero_le _) (Nat.zero_le _) 2 rfl rfl [2] rfl rfl rfl (Nat.le_of_ble_eq_true rfl) dX5_perform_283 ?_
    refine g_callVd hF (c_Row_push (by first | omega | exact clampI_le | (split <;> omega)) (by omega)) cal_X4_push rfl m_521 (by decide) (Or.inl rfl) (Nat.zero_le _) (Nat.zero_le _) 1 rfl rfl [1] rfl rfl (Nat.le_of_ble_eq_true rfl) rfl (Nat.le_of_ble_eq_true rfl) dX5_perform_286 ?_
    try dsimp only [gput, gputA, List.set, stGs, List.cons_append, List.nil_append]
    refine g_goto (tgt := 407) hF dX5_perform_289 (by decide) ?_
    refine g_aload_n hF dX5_perform_407 rfl ?_
    refine g_iload hF dX5_perform_408 rfl ?_
    refine g_put (j := 4) hF 0 rfl rfl (by decide) rfl m_82 rfl (tyX5_ok 4 (by decide)) rfl rfl (Nat.le_of_ble_eq_true rfl) dX5_perform_410 ?_
    try dsimp only [gput, gputA, List.set, stGs, List.cons_append, List.nil_append]
    refine g_aload_n hF dX5_perform_413 rfl ?_
    refine g_dup hF dX5_perform_414 rfl ?_
    refine g_get (j := 7) hF 0 rfl rfl (by decide) rfl m_90 rfl dX5_perform_415 ?_
    refine g_iconst (v := (1)) hF dX5_perform_418 rfl ?_
    refine g_iadd hF dX5_perform_419 ?_
    refine g_put (j := 7) hF 0 rfl rfl (by decide) rfl m_90 rfl (tyX5_ok 7 (by decide)) rfl rfl (Nat.le_of_ble_eq_true rfl) dX5_perform_420 ?_
    try dsimp only [gput, gputA, List.set, stGs, List.cons_append, List.nil_append]
    refine g_regroup (gs' := stGs F.1.2.2 (h, (r1, a1), (r2, a2), (r3, a3), r4, a4) (perfF (rowGet fc nc ((f1, n1), (f2, n2), (f3, n3), (f4, n4), at', status, rd, ck).2.2.2.2.1) (rowGet fn nn ((f1, n1), (f2, n2), (f3, n3), (f4, n4), at', status, rd, ck).2.2.2.2.1) (fi, ni) ((f1, n1), (f2, n2), (f3, n3), (f4, n4), at', status, rd, ck)) ++ [progO p rc rn rt, rowW F.1.2.2 rc ac 80 fc nc, rowW F.1.2.2 rn an 80 fn nn, rowW F.1.2.2 ri ai 20 fi ni]) (by simp only [t28_14]; rfl) ?_
    exact g_vret hF hR dX5_perform_423 ⟨rfl, rfl⟩
  by_cases t28_15 : rowGet fc nc at' = 15
  · refine g_tableIn (off := 264) (tgt := 292) hF dX5_perform_28 (by rw [t28_15]; decide) (by rw [t28_15]; decide) (by rw [t28_15]; rfl) (by decide) ?_
    refine g_aload_n hF dX5_perform_292 rfl ?_
    refine g_callVd hF (c_St_storeAt (by omega) (by omega)) cal_X5_storeAt rfl m_534 (by decide) (Or.inl rfl) (Nat.zero_le _) (Nat.zero_le _) 0 rfl rfl [0, 1, 2] rfl rfl (Nat.le_of_ble_eq_true rfl) rfl (Nat.le_of_ble_eq_true rfl) dX5_perform_293 ?_
    try dsimp only [gput, gputA, List.set, stGs, List.cons_append, List.nil_append]
    refine g_goto (tgt := 407) hF dX5_perform_296 (by decide) ?_
    refine g_aload_n hF dX5_perform_407 rfl ?_
    refine g_iload hF dX5_perform_408 rfl ?_
    refine g_put (j := 4) hF 0 rfl rfl (by decide) rfl m_82 rfl (tyX5_ok 4 (by decide)) rfl rfl (Nat.le_of_ble_eq_true rfl) dX5_perform_410 ?_
    try dsimp only [gput, gputA, List.set, stGs, List.cons_append, List.nil_append]
    refine g_aload_n hF dX5_perform_413 rfl ?_
    refine g_dup hF dX5_perform_414 rfl ?_
    refine g_get (j := 7) hF 0 rfl rfl (by decide) rfl m_90 rfl dX5_perform_415 ?_
    refine g_iconst (v := (1)) hF dX5_perform_418 rfl ?_
    refine g_iadd hF dX5_perform_419 ?_
    refine g_put (j := 7) hF 0 rfl rfl (by decide) rfl m_90 rfl (tyX5_ok 7 (by decide)) rfl rfl (Nat.le_of_ble_eq_true rfl) dX5_perform_420 ?_
    try dsimp only [gput, gputA, List.set, stGs, List.cons_append, List.nil_append]
    refine g_regroup (gs' := stGs F.1.2.2 (h, (r1, a1), (r2, a2), (r3, a3), r4, a4) (perfF (rowGet fc nc ((f1, n1), (f2, n2), (f3, n3), (f4, n4), at', status, rd, ck).2.2.2.2.1) (rowGet fn nn ((f1, n1), (f2, n2), (f3, n3), (f4, n4), at', status, rd, ck).2.2.2.2.1) (fi, ni) ((f1, n1), (f2, n2), (f3, n3), (f4, n4), at', status, rd, ck)) ++ [progO p rc rn rt, rowW F.1.2.2 rc ac 80 fc nc, rowW F.1.2.2 rn an 80 fn nn, rowW F.1.2.2 ri ai 20 fi ni]) (by simp only [t28_15]; rfl) ?_
    exact g_vret hF hR dX5_perform_423 ⟨rfl, rfl⟩
  by_cases t28_16 : rowGet fc nc at' = 16
  · refine g_tableIn (off := 271) (tgt := 299) hF dX5_perform_28 (by rw [t28_16]; decide) (by rw [t28_16]; decide) (by rw [t28_16]; rfl) (by decide) ?_
    refine g_iload hF dX5_perform_299 rfl ?_
    refine g_istore hF dX5_perform_301 (Nat.le_of_ble_eq_true rfl) rfl ?_
    refine g_goto (tgt := 407) hF dX5_perform_303 (by decide) ?_
    refine g_aload_n hF dX5_perform_407 rfl ?_
    refine g_iload hF dX5_perform_408 rfl ?_
    refine g_put (j := 4) hF 0 rfl rfl (by decide) rfl m_82 rfl (tyX5_ok 4 (by decide)) rfl rfl (Nat.le_of_ble_eq_true rfl) dX5_perform_410 ?_
    try dsimp only [gput, gputA, List.set, stGs, List.cons_append, List.nil_append]
    refine g_aload_n hF dX5_perform_413 rfl ?_
    refine g_dup hF dX5_perform_414 rfl ?_
    refine g_get (j := 7) hF 0 rfl rfl (by decide) rfl m_90 rfl dX5_perform_415 ?_
    refine g_iconst (v := (1)) hF dX5_perform_418 rfl ?_
    refine g_iadd hF dX5_perform_419 ?_
    refine g_put (j := 7) hF 0 rfl rfl (by decide) rfl m_90 rfl (tyX5_ok 7 (by decide)) rfl rfl (Nat.le_of_ble_eq_true rfl) dX5_perform_420 ?_
    try dsimp only [gput, gputA, List.set, stGs, List.cons_append, List.nil_append]
    refine g_regroup (gs' := stGs F.1.2.2 (h, (r1, a1), (r2, a2), (r3, a3), r4, a4) (perfF (rowGet fc nc ((f1, n1), (f2, n2), (f3, n3), (f4, n4), at', status, rd, ck).2.2.2.2.1) (rowGet fn nn ((f1, n1), (f2, n2), (f3, n3), (f4, n4), at', status, rd, ck).2.2.2.2.1) (fi, ni) ((f1, n1), (f2, n2), (f3, n3), (f4, n4), at', status, rd, ck)) ++ [progO p rc rn rt, rowW F.1.2.2 rc ac 80 fc nc, rowW F.1.2.2 rn an 80 fn nn, rowW F.1.2.2 ri ai 20 fi ni]) (by simp only [t28_16]; rfl) ?_
    exact g_vret hF hR dX5_perform_423 ⟨rfl, rfl⟩
  by_cases t28_17 : rowGet fc nc at' = 17
  · refine g_tableIn (off := 278) (tgt := 306) hF dX5_perform_28 (by rw [t28_17]; decide) (by rw [t28_17]; decide) (by rw [t28_17]; rfl) (by decide) ?_
    refine g_aload_n hF dX5_perform_306 rfl ?_
    refine g_get (j := 0) hF 0 rfl rfl (by decide) rfl m_73 rfl dX5_perform_307 ?_
    refine g_callVd hF (c_Row_pop (by first | omega | exact clampI_le | (split <;> omega)) (by omega)) cal_X4_pop rfl m_522 (by decide) (Or.inl rfl) (Nat.zero_le _) (Nat.zero_le _) 1 rfl rfl [1] rfl rfl (Nat.le_of_ble_eq_true rfl) rfl (Nat.le_of_ble_eq_true rfl) dX5_perform_310 ?_
    try dsimp only [gput, gputA, List.set, stGs, List.cons_append, List.nil_append]
    refine g_if_ne (tgt := 321) hF dX5_perform_313 (by decide) (fun c_313 => ?_) (fun c_313 => ?_)
    · refine g_iload hF dX5_perform_321 rfl ?_
      refine g_istore hF dX5_perform_323 (Nat.le_of_ble_eq_true rfl) rfl ?_
      refine g_goto (tgt := 407) hF dX5_perform_325 (by decide) ?_
      refine g_aload_n hF dX5_perform_407 rfl ?_
      refine g_iload hF dX5_perform_408 rfl ?_
      refine g_put (j := 4) hF 0 rfl rfl (by decide) rfl m_82 rfl (tyX5_ok 4 (by decide)) rfl rfl (Nat.le_of_ble_eq_true rfl) dX5_perform_410 ?_
      try dsimp only [gput, gputA, List.set, stGs, List.cons_append, List.nil_append]
      refine g_aload_n hF dX5_perform_413 rfl ?_
      refine g_dup hF dX5_perform_414 rfl ?_
      refine g_get (j := 7) hF 0 rfl rfl (by decide) rfl m_90 rfl dX5_perform_415 ?_
      refine g_iconst (v := (1)) hF dX5_perform_418 rfl ?_
      refine g_iadd hF dX5_perform_419 ?_
      refine g_put (j := 7) hF 0 rfl rfl (by decide) rfl m_90 rfl (tyX5_ok 7 (by decide)) rfl rfl (Nat.le_of_ble_eq_true rfl) dX5_perform_420 ?_
      try dsimp only [gput, gputA, List.set, stGs, List.cons_append, List.nil_append]
      refine g_regroup (gs' := stGs F.1.2.2 (h, (r1, a1), (r2, a2), (r3, a3), r4, a4) (perfF (rowGet fc nc ((f1, n1), (f2, n2), (f3, n3), (f4, n4), at', status, rd, ck).2.2.2.2.1) (rowGet fn nn ((f1, n1), (f2, n2), (f3, n3), (f4, n4), at', status, rd, ck).2.2.2.2.1) (fi, ni) ((f1, n1), (f2, n2), (f3, n3), (f4, n4), at', status, rd, ck)) ++ [progO p rc rn rt, rowW F.1.2.2 rc ac 80 fc nc, rowW F.1.2.2 rn an 80 fn nn, rowW F.1.2.2 ri ai 20 fi ni]) (by simp only [t28_17]; rw [perf_17, if_neg (show ¬ popV (f1, n1) = 0 from c_313)]; rfl) ?_
      exact g_vret hF hR dX5_perform_423 ⟨rfl, rfl⟩
    · refine g_iload hF dX5_perform_316 rfl ?_
      refine g_goto (tgt := 323) hF dX5_perform_318 (by decide) ?_
      refine g_istore hF dX5_perform_323 (Nat.le_of_ble_eq_true rfl) rfl ?_
      refine g_goto (tgt := 407) hF dX5_perform_325 (by decide) ?_
      refine g_aload_n hF dX5_perform_407 rfl ?_
      refine g_iload hF dX5_perform_408 rfl ?_
      refine g_put (j := 4) hF 0 rfl rfl (by decide) rfl m_82 rfl (tyX5_ok 4 (by decide)) rfl rfl (Nat.le_of_ble_eq_true rfl) dX5_perform_410 ?_
      try dsimp only [gput, gputA, List.set, stGs, List.cons_append, List.nil_append]
      refine g_aload_n hF dX5_perform_413 rfl ?_
      refine g_dup hF dX5_perform_414 rfl ?_
      refine g_get (j := 7) hF 0 rfl rfl (by decide) rfl m_90 rfl dX5_perform_415 ?_
      refine g_iconst (v := (1)) hF dX5_perform_418 rfl ?_
      refine g_iadd hF dX5_perform_419 ?_
      refine g_put (j := 7) hF 0 rfl rfl (by decide) rfl m_90 rfl (tyX5_ok 7 (by decide)) rfl rfl (Nat.le_of_ble_eq_true rfl) dX5_perform_420 ?_
      try dsimp only [gput, gputA, List.set, stGs, List.cons_append, List.nil_append]
      refine g_regroup (gs' := stGs F.1.2.2 (h, (r1, a1), (r2, a2), (r3, a3), r4, a4) (perfF (rowGet fc nc ((f1, n1), (f2, n2), (f3, n3), (f4, n4), at', status, rd, ck).2.2.2.2.1) (rowGet fn nn ((f1, n1), (f2, n2), (f3, n3), (f4, n4), at', status, rd, ck).2.2.2.2.1) (fi, ni) ((f1, n1), (f2, n2), (f3, n3), (f4, n4), at', status, rd, ck)) ++ [progO p rc rn rt, rowW F.1.2.2 rc ac 80 fc nc, rowW F.1.2.2 rn an 80 fn nn, rowW F.1.2.2 ri ai 20 fi ni]) (by simp only [t28_17]; rw [perf_17, if_pos (show  popV (f1, n1) = 0 from c_313)]; rfl) ?_
      exact g_vret hF hR dX5_perform_423 ⟨rfl, rfl⟩
  by_cases t28_18 : rowGet fc nc at' = 18
  · refine g_tableIn (off := 300) (tgt := 328) hF dX5_perform_28 (by rw [t28_18]; decide) (by rw [t28_18]; decide) (by rw [t28_18]; rfl) (by decide) ?_
    refine g_aload_n hF dX5_perform_328 rfl ?_
    refine g_get (j := 2) hF 0 rfl rfl (by decide) rfl m_78 rfl dX5_perform_329 ?_
    refine g_iload hF dX5_perform_332 rfl ?_
    refine g_callVd hF (c_Row_push (by first | omega | exact clampI_le | (split <;> omega)) (by omega)) cal_X4_push rfl m_521 (by decide) (Or.inl rfl) (Nat.zero_le _) (Nat.zero_le _) 3 rfl rfl [3] rfl rfl (Nat.le_of_ble_eq_true rfl) rfl (Nat.le_of_ble_eq_true rfl) dX5_perform_334 ?_
    try dsimp only [gput, gputA, List.set, stGs, List.cons_append, List.nil_append]
    refine g_iload hF dX5_perform_337 rfl ?_
    refine g_istore hF dX5_perform_339 (Nat.le_of_ble_eq_true rfl) rfl ?_
    refine g_goto (tgt := 407) hF dX5_perform_341 (by decide) ?_
    refine g_aload_n hF dX5_perform_407 rfl ?_
    refine g_iload hF dX5_perform_408 rfl ?_
    refine g_put (j := 4) hF 0 rfl rfl (by decide) rfl m_82 rfl (tyX5_ok 4 (by decide)) rfl rfl (Nat.le_of_ble_eq_true rfl) dX5_perform_410 ?_
    try dsimp only [gput, gputA, List.set, stGs, List.cons_append, List.nil_append]
    refine g_aload_n hF dX5_perform_413 rfl ?_
    refine g_dup hF dX5_perform_414 rfl ?_
    refine g_get (j := 7) hF 0 rfl rfl (by decide) rfl m_90 rfl dX5_perform_415 ?_
    refine g_iconst (v := (1)) hF dX5_perform_418 rfl ?_
    refine g_iadd hF dX5_perform_419 ?_
    refine g_put (j := 7) hF 0 rfl rfl (by decide) rfl m_90 rfl (tyX5_ok 7 (by decide)) rfl rfl (Nat.le_of_ble_eq_true rfl) dX5_perform_420 ?_
    try dsimp only [gput, gputA, List.set, stGs, List.cons_append, List.nil_append]
    refine g_regroup (gs' := stGs F.1.2.2 (h, (r1, a1), (r2, a2), (r3, a3), r4, a4) (perfF (rowGet fc nc ((f1, n1), (f2, n2), (f3, n3), (f4, n4), at', status, rd, ck).2.2.2.2.1) (rowGet fn nn ((f1, n1), (f2, n2), (f3, n3), (f4, n4), at', status, rd, ck).2.2.2.2.1) (fi, ni) ((f1, n1), (f2, n2), (f3, n3), (f4, n4), at', status, rd, ck)) ++ [progO p rc rn rt, rowW F.1.2.2 rc ac 80 fc nc, rowW F.1.2.2 rn an 80 fn nn, rowW F.1.2.2 ri ai 20 fi ni]) (by simp only [t28_18]; rfl) ?_
    exact g_vret hF hR dX5_perform_423 ⟨rfl, rfl⟩
  by_cases t28_19 : rowGet fc nc at' = 19
  · refine g_tableIn (off := 316) (tgt := 344) hF dX5_perform_28 (by rw [t28_19]; decide) (by rw [t28_19]; decide) (by rw [t28_19]; rfl) (by decide) ?_
    refine g_aload_n hF dX5_perform_344 rfl ?_
    refine g_get (j := 2) hF 0 rfl rfl (by decide) rfl m_78 rfl dX5_perform_345 ?_
    refine g_callVd hF (c_Row_pop (by first | omega | exact clampI_le | (split <;> omega)) (by omega)) cal_X4_pop rfl m_522 (by decide) (Or.inl rfl) (Nat.zero_le _) (Nat.zero_le _) 3 rfl rfl [3] rfl rfl (Nat.le_of_ble_eq_true rfl) rfl (Nat.le_of_ble_eq_true rfl) dX5_perform_348 ?_
    try dsimp only [gput, gputA, List.set, stGs, List.cons_append, List.nil_append]
    refine g_istore hF dX5_perform_351 (Nat.le_of_ble_eq_true rfl) rfl ?_
    refine g_goto (tgt := 407) hF dX5_perform_353 (by decide) ?_
    refine g_aload_n hF dX5_perform_407 rfl ?_
    refine g_iload hF dX5_perform_408 rfl ?_
    refine g_put (j := 4) hF 0 rfl rfl (by decide) rfl m_82 rfl (tyX5_ok 4 (by decide)) rfl rfl (Nat.le_of_ble_eq_true rfl) dX5_perform_410 ?_
    try dsimp only [gput, gputA, List.set, stGs, List.cons_append, List.nil_append]
    refine g_aload_n hF dX5_perform_413 rfl ?_
    refine g_dup hF dX5_perform_414 rfl ?_
    refine g_get (j := 7) hF 0 rfl rfl (by decide) rfl m_90 rfl dX5_perform_415 ?_
    refine g_iconst (v := (1)) hF dX5_perform_418 rfl ?_
    refine g_iadd hF dX5_perform_419 ?_
    refine g_put (j := 7) hF 0 rfl rfl (by decide) rfl m_90 rfl (tyX5_ok 7 (by decide)) rfl rfl (Nat.le_of_ble_eq_true rfl) dX5_perform_420 ?_
    try dsimp only [gput, gputA, List.set, stGs, List.cons_append, List.nil_append]
    refine g_regroup (gs' := stGs F.1.2.2 (h, (r1, a1), (r2, a2), (r3, a3), r4, a4) (perfF (rowGet fc nc ((f1, n1), (f2, n2), (f3, n3), (f4, n4), at', status, rd, ck).2.2.2.2.1) (rowGet fn nn ((f1, n1), (f2, n2), (f3, n3), (f4, n4), at', status, rd, ck).2.2.2.2.1) (fi, ni) ((f1, n1), (f2, n2), (f3, n3), (f4, n4), at', status, rd, ck)) ++ [progO p rc rn rt, rowW F.1.2.2 rc ac 80 fc nc, rowW F.1.2.2 rn an 80 fn nn, rowW F.1.2.2 ri ai 20 fi ni]) (by simp only [t28_19]; rfl) ?_
    exact g_vret hF hR dX5_perform_423 ⟨rfl, rfl⟩
  by_cases t28_20 : rowGet fc nc at' = 20
  · refine g_tableIn (off := 328) (tgt := 356) hF dX5_perform_28 (by rw [t28_20]; decide) (by rw [t28_20]; decide) (by rw [t28_20]; rfl) (by decide) ?_
    refine g_aload_n hF dX5_perform_356 rfl ?_
    refine g_get (j := 0) hF 0 rfl rfl (by decide) rfl m_73 rfl dX5_perform_357 ?_
    refine g_aload_n hF dX5_perform_360 rfl ?_
    refine g_aload_n hF dX5_perform_361 rfl ?_
    refine g_callVd hF (c_St_readFrom (by omega)) cal_X5_readFrom rfl m_538 (by decide) (Or.inl rfl) (Nat.zero_le _) (Nat.zero_le _) 0 rfl rfl [0, 8] rfl rfl (Nat.le_of_ble_eq_true rfl) rfl (Nat.le_of_ble_eq_true rfl) dX5_perform_362 ?_
    try dsimp only [gput, gputA, List.set, stGs, List.cons_append, List.nil_append]
    refine g_callVd hF (c_Row_push (by first | omega | exact clampI_le | (split <;> omega)) (by omega)) cal_X4_push rfl m_521 (by decide) (Or.inl rfl) (Nat.zero_le _) (Nat.zero_le _) 1 rfl rfl [1] rfl rfl (Nat.le_of_ble_eq_true rfl) rfl (Nat.le_of_ble_eq_true rfl) dX5_perform_365 ?_
    try dsimp only [gput, gputA, List.set, stGs, List.cons_append, List.nil_append]
    refine g_goto (tgt := 407) hF dX5_perform_368 (by decide) ?_
    refine g_aload_n hF dX5_perform_407 rfl ?_
    refine g_iload hF dX5_perform_408 rfl ?_
    refine g_put (j := 4) hF 0 rfl rfl (by decide) rfl m_82 rfl (tyX5_ok 4 (by decide)) rfl rfl (Nat.le_of_ble_eq_true rfl) dX5_perform_410 ?_
    try dsimp only [gput, gputA, List.set, stGs, List.cons_append, List.nil_append]
    refine g_aload_n hF dX5_perform_413 rfl ?_
    refine g_dup hF dX5_perform_414 rfl ?_
    refine g_get (j := 7) hF 0 rfl rfl (by decide) rfl m_90 rfl dX5_perform_415 ?_
    refine g_iconst (v := (1)) hF dX5_perform_418 rfl ?_
    refine g_iadd hF dX5_perform_419 ?_
    refine g_put (j := 7) hF 0 rfl rfl (by decide) rfl m_90 rfl (tyX5_ok 7 (by decide)) rfl rfl (Nat.le_of_ble_eq_true rfl) dX5_perform_420 ?_
    try dsimp only [gput, gputA, List.set, stGs, List.cons_append, List.nil_append]
    refine g_regroup (gs' := stGs F.1.2.2 (h, (r1, a1), (r2, a2), (r3, a3), r4, a4) (perfF (rowGet fc nc ((f1, n1), (f2, n2), (f3, n3), (f4, n4), at', status, rd, ck).2.2.2.2.1) (rowGet fn nn ((f1, n1), (f2, n2), (f3, n3), (f4, n4), at', status, rd, ck).2.2.2.2.1) (fi, ni) ((f1, n1), (f2, n2), (f3, n3), (f4, n4), at', status, rd, ck)) ++ [progO p rc rn rt, rowW F.1.2.2 rc ac 80 fc nc, rowW F.1.2.2 rn an 80 fn nn, rowW F.1.2.2 ri ai 20 fi ni]) (by simp only [t28_20]; rfl) ?_
    exact g_vret hF hR dX5_perform_423 ⟨rfl, rfl⟩
  by_cases t28_21 : rowGet fc nc at' = 21
  · refine g_tableIn (off := 343) (tgt := 371) hF dX5_perform_28 (by rw [t28_21]; decide) (by rw [t28_21]; decide) (by rw [t28_21]; rfl) (by decide) ?_
    refine g_aload_n hF dX5_perform_371 rfl ?_
    refine g_get (j := 3) hF 0 rfl rfl (by decide) rfl m_80 rfl dX5_perform_372 ?_
    refine g_aload_n hF dX5_perform_375 rfl ?_
    refine g_get (j := 0) hF 0 rfl rfl (by decide) rfl m_73 rfl dX5_perform_376 ?_
    refine g_callVd hF (c_Row_pop (by first | omega | exact clampI_le | (split <;> omega)) (by omega)) cal_X4_pop rfl m_522 (by decide) (Or.inl rfl) (Nat.zero_le _) (Nat.zero_le _) 1 rfl rfl [1] rfl rfl (Nat.le_of_ble_eq_true rfl) rfl (Nat.le_of_ble_eq_true rfl) dX5_perform_379 ?_
    try dsimp only [gput, gputA, List.set, stGs, List.cons_append, List.nil_append]
    refine g_callVd hF (c_Row_push (by first | omega | exact clampI_le | (split <;> omega)) (by omega)) cal_X4_push rfl m_521 (by decide) (Or.inl rfl) (Nat.zero_le _) (Nat.zero_le _) 4 rfl rfl [4] rfl rfl (Nat.le_of_ble_eq_true rfl) rfl (Nat.le_of_ble_eq_true rfl) dX5_perform_382 ?_
    try dsimp only [gput, gputA, List.set, stGs, List.cons_append, List.nil_append]
    refine g_goto (tgt := 407) hF dX5_perform_385 (by decide) ?_
    refine g_aload_n hF dX5_perform_407 rfl ?_
    refine g_iload hF dX5_perform_408 rfl ?_
    refine g_put (j := 4) hF 0 rfl rfl (by decide) rfl m_82 rfl (tyX5_ok 4 (by decide)) rfl rfl (Nat.le_of_ble_eq_true rfl) dX5_perform_410 ?_
    try dsimp only [gput, gputA, List.set, stGs, List.cons_append, List.nil_append]
    refine g_aload_n hF dX5_perform_413 rfl ?_
    refine g_dup hF dX5_perform_414 rfl ?_
    refine g_get (j := 7) hF 0 rfl rfl (by decide) rfl m_90 rfl dX5_perform_415 ?_
    refine g_iconst (v := (1)) hF dX5_perform_418 rfl ?_
    refine g_iadd hF dX5_perform_419 ?_
    refine g_put (j := 7) hF 0 rfl rfl (by decide) rfl m_90 rfl (tyX5_ok 7 (by decide)) rfl rfl (Nat.le_of_ble_eq_true rfl) dX5_perform_420 ?_
    try dsimp only [gput, gputA, List.set, stGs, List.cons_append, List.nil_append]
    refine g_regroup (gs' := stGs F.1.2.2 (h, (r1, a1), (r2, a2), (r3, a3), r4, a4) (perfF (rowGet fc nc ((f1, n1), (f2, n2), (f3, n3), (f4, n4), at', status, rd, ck).2.2.2.2.1) (rowGet fn nn ((f1, n1), (f2, n2), (f3, n3), (f4, n4), at', status, rd, ck).2.2.2.2.1) (fi, ni) ((f1, n1), (f2, n2), (f3, n3), (f4, n4), at', status, rd, ck)) ++ [progO p rc rn rt, rowW F.1.2.2 rc ac 80 fc nc, rowW F.1.2.2 rn an 80 fn nn, rowW F.1.2.2 ri ai 20 fi ni]) (by simp only [t28_21]; rfl) ?_
    exact g_vret hF hR dX5_perform_423 ⟨rfl, rfl⟩
  by_cases t28_22 : rowGet fc nc at' = 22
  · refine g_tableIn (off := 360) (tgt := 388) hF dX5_perform_28 (by rw [t28_22]; decide) (by rw [t28_22]; decide) (by rw [t28_22]; rfl) (by decide) ?_
    refine g_aload_n hF dX5_perform_388 rfl ?_
    refine g_iconst (v := (1)) hF dX5_perform_389 rfl ?_
    refine g_put (j := 5) hF 0 rfl rfl (by decide) rfl m_85 rfl (tyX5_ok 5 (by decide)) rfl rfl (Nat.le_of_ble_eq_true rfl) dX5_perform_390 ?_
    try dsimp only [gput, gputA, List.set, stGs, List.cons_append, List.nil_append]
    refine g_aload_n hF dX5_perform_393 rfl ?_
    refine g_get (j := 4) hF 0 rfl rfl (by decide) rfl m_82 rfl dX5_perform_394 ?_
    refine g_istore hF dX5_perform_397 (Nat.le_of_ble_eq_true rfl) rfl ?_
    refine g_goto (tgt := 407) hF dX5_perform_399 (by decide) ?_
    refine g_aload_n hF dX5_perform_407 rfl ?_
    refine g_iload hF dX5_perform_408 rfl ?_
    refine g_put (j := 4) hF 0 rfl rfl (by decide) rfl m_82 rfl (tyX5_ok 4 (by decide)) rfl rfl (Nat.le_of_ble_eq_true rfl) dX5_perform_410 ?_
    try dsimp only [gput, gputA, List.set, stGs, List.cons_append, List.nil_append]
    refine g_aload_n hF dX5_perform_413 rfl ?_
    refine g_dup hF dX5_perform_414 rfl ?_
    refine g_get (j := 7) hF 0 rfl rfl (by decide) rfl m_90 rfl dX5_perform_415 ?_
    refine g_iconst (v := (1)) hF dX5_perform_418 rfl ?_
    refine g_iadd hF dX5_perform_419 ?_
    refine g_put (j := 7) hF 0 rfl rfl (by decide) rfl m_90 rfl (tyX5_ok 7 (by decide)) rfl rfl (Nat.le_of_ble_eq_true rfl) dX5_perform_420 ?_
    try dsimp only [gput, gputA, List.set, stGs, List.cons_append, List.nil_append]
    refine g_regroup (gs' := stGs F.1.2.2 (h, (r1, a1), (r2, a2), (r3, a3), r4, a4) (perfF (rowGet fc nc ((f1, n1), (f2, n2), (f3, n3), (f4, n4), at', status, rd, ck).2.2.2.2.1) (rowGet fn nn ((f1, n1), (f2, n2), (f3, n3), (f4, n4), at', status, rd, ck).2.2.2.2.1) (fi, ni) ((f1, n1), (f2, n2), (f3, n3), (f4, n4), at', status, rd, ck)) ++ [progO p rc rn rt, rowW F.1.2.2 rc ac 80 fc nc, rowW F.1.2.2 rn an 80 fn nn, rowW F.1.2.2 ri ai 20 fi ni]) (by simp only [t28_22]; rfl) ?_
    exact g_vret hF hR dX5_perform_423 ⟨rfl, rfl⟩
  refine g_tableOut (tgt := 402) hF dX5_perform_28 (by have z0 := lv_neT t28_0 (a := 0) rfl; have z1 := lv_neT t28_1 (a := 1) rfl; have z2 := lv_neT t28_2 (a := 2) rfl; have z3 := lv_neT t28_3 (a := 3) rfl; have z4 := lv_neT t28_4 (a := 4) rfl; have z5 := lv_neT t28_5 (a := 5) rfl; have z6 := lv_neT t28_6 (a := 6) rfl; have z7 := lv_neT t28_7 (a := 7) rfl; have z8 := lv_neT t28_8 (a := 8) rfl; have z9 := lv_neT t28_9 (a := 9) rfl; have z10 := lv_neT t28_10 (a := 10) rfl; have z11 := lv_neT t28_11 (a := 11) rfl; have z12 := lv_neT t28_12 (a := 12) rfl; have z13 := lv_neT t28_13 (a := 13) rfl; have z14 := lv_neT t28_14 (a := 14) rfl; have z15 := lv_neT t28_15 (a := 15) rfl; have z16 := lv_neT t28_16 (a := 16) rfl; have z17 := lv_neT t28_17 (a := 17) rfl; have z18 := lv_neT t28_18 (a := 18) rfl; have z19 := lv_neT t28_19 (a := 19) rfl; have z20 := lv_neT t28_20 (a := 20) rfl; have z21 := lv_neT t28_21 (a := 21) rfl; have z22 := lv_neT t28_22 (a := 22) rfl; omega) (by decide) ?_
  refine g_aload_n hF dX5_perform_402 rfl ?_
  refine g_iload_n hF dX5_perform_403 rfl ?_
  refine g_callVd hF (c_St_reckon (by omega)) cal_X5_reckon rfl m_543 (by decide) (Or.inl rfl) (Nat.zero_le _) (Nat.zero_le _) 0 rfl rfl [0, 1] rfl rfl (Nat.le_of_ble_eq_true rfl) rfl (Nat.le_of_ble_eq_true rfl) dX5_perform_404 ?_
  try dsimp only [gput, gputA, List.set, stGs, List.cons_append, List.nil_append]
  refine g_aload_n hF dX5_perform_407 rfl ?_
  refine g_iload hF dX5_perform_408 rfl ?_
  refine g_put (j := 4) hF 0 rfl rfl (by decide) rfl m_82 rfl (tyX5_ok 4 (by decide)) rfl rfl (Nat.le_of_ble_eq_true rfl) dX5_perform_410 ?_
  try dsimp only [gput, gputA, List.set, stGs, List.cons_append, List.nil_append]
  refine g_aload_n hF dX5_perform_413 rfl ?_
  refine g_dup hF dX5_perform_414 rfl ?_
  refine g_get (j := 7) hF 0 rfl rfl (by decide) rfl m_90 rfl dX5_perform_415 ?_
  refine g_iconst (v := (1)) hF dX5_perform_418 rfl ?_
  refine g_iadd hF dX5_perform_419 ?_
  refine g_put (j := 7) hF 0 rfl rfl (by decide) rfl m_90 rfl (tyX5_ok 7 (by decide)) rfl rfl (Nat.le_of_ble_eq_true rfl) dX5_perform_420 ?_
  try dsimp only [gput, gputA, List.set, stGs, List.cons_append, List.nil_append]
  refine g_regroup (gs' := stGs F.1.2.2 (h, (r1, a1), (r2, a2), (r3, a3), r4, a4) (perfF (rowGet fc nc ((f1, n1), (f2, n2), (f3, n3), (f4, n4), at', status, rd, ck).2.2.2.2.1) (rowGet fn nn ((f1, n1), (f2, n2), (f3, n3), (f4, n4), at', status, rd, ck).2.2.2.2.1) (fi, ni) ((f1, n1), (f2, n2), (f3, n3), (f4, n4), at', status, rd, ck)) ++ [progO p rc rn rt, rowW F.1.2.2 rc ac 80 fc nc, rowW F.1.2.2 rn an 80 fn nn, rowW F.1.2.2 ri ai 20 fi ni]) (by simp only [perfF, eq_false t28_0, eq_false t28_1, eq_false t28_2, eq_false t28_3, eq_false t28_4, eq_false t28_11, eq_false t28_12, eq_false t28_13, eq_false t28_14, eq_false t28_15, eq_false t28_16, eq_false t28_17, eq_false t28_18, eq_false t28_19, eq_false t28_20, eq_false t28_21, eq_false t28_22, if_false]; rfl) ?_
  exact g_vret hF hR dX5_perform_423 ⟨rfl, rfl⟩
