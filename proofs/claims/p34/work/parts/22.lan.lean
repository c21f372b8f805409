/-! Lantern: its picture -/
def stOv (A : AV) (v : SV) : va_W := stO A.1 A.2.1.1 A.2.2.1.1 A.2.2.2.1.1 A.2.2.2.2.1 v.2.2.2.2.1 v.2.2.2.2.2.1 v.2.2.2.2.2.2.1 v.2.2.2.2.2.2.2
def rw1 (cy : Nat → ClassId) (A : AV) (v : SV) : va_W := rowW cy A.2.1.1 A.2.1.2 24 v.1.1 v.1.2
def rw2 (cy : Nat → ClassId) (A : AV) (v : SV) : va_W := rowW cy A.2.2.1.1 A.2.2.1.2 12 v.2.1.1 v.2.1.2
def rw3 (cy : Nat → ClassId) (A : AV) (v : SV) : va_W := rowW cy A.2.2.2.1.1 A.2.2.2.1.2 8 v.2.2.1.1 v.2.2.1.2
def rw4 (cy : Nat → ClassId) (A : AV) (v : SV) : va_W := rowW cy A.2.2.2.2.1 A.2.2.2.2.2 30 v.2.2.2.1.1 v.2.2.2.1.2
def lanO (h p ri hs hp pts : Nat) (pc : Int32) (wts tps : Nat) (reason cause : Int32) (hT ti : Nat) : va_W := [(h, .inr (8, [.ref p, .ref ri, .ref hs, .ref hp, .ref pts, .int pc, .ref wts, .int 0, .ref tps, .int reason, .int cause, .ref hT, .ref ti]))]
def ptsA (cy : Nat → ClassId) (pts : Nat) (ap : Nat → Nat) : va_W := [(pts, .inl (cy 2, 6, .inr (.inr (.inr (.inr (adF ap 6))))))]
def tpsA (cy : Nat → ClassId) (tps : Nat) (tp : Nat → Nat) : va_W := [(tps, .inl (cy 4, 3, .inr (.inr (.inr (.inr (adF tp 3))))))]
theorem okS_ready {pc : RV} {v : SV} (h : okS v) : okS (readyF pc v) := by
  unfold readyF
  by_cases e : v.2.2.2.2.2.1 = 0
  · rw [if_pos e]; exact h
  · rw [if_neg e]; exact h
theorem pushR_le {cap : Nat} {r : RV} {x : Int32} (h : r.2 ≤ cap) : (pushR cap r x).2 ≤ cap := by
  show (if r.2 < cap then r.2 + 1 else r.2) ≤ cap
  split <;> omega
theorem popR_le {cap : Nat} {r : RV} (h : r.2 ≤ cap) : (popR r).2 ≤ cap := by
  show r.2 - 1 ≤ cap
  omega
theorem okS_ite {p : Prop} [Decidable p] {a b : SV} (ha : okS a) (hb : okS b) : okS (if p then a else b) := by
  by_cases h : p
  · rw [if_pos h]; exact ha
  · rw [if_neg h]; exact hb
theorem okS_mk {s c f u : RV} {a b r k : Int32} (h1 : s.2 ≤ 24) (h2 : c.2 ≤ 12) (h3 : f.2 ≤ 8) (h4 : u.2 ≤ 30) : okS (s, c, f, u, a, b, r, k) := ⟨h1, h2, h3, h4⟩
theorem okS_at {v : SV} {s c f u : RV} {a r : Int32} (h1 : s.2 ≤ 24) (h2 : c.2 ≤ 12) (h3 : f.2 ≤ 8) (h4 : u.2 ≤ 30) : okS (withAt v s c f u a r) := ⟨h1, h2, h3, h4⟩
theorem okS_perf {c m : Int32} {inp : RV} {v : SV} (h : okS v) : okS (perfF c m inp v) := by
  obtain ⟨h1, h2, h3, h4⟩ := h
  unfold perfF
  refine okS_ite (okS_at (pushR_le h1) h2 h3 h4) ?_
  refine okS_ite (okS_at (popR_le h1) h2 h3 h4) ?_
  refine okS_ite (okS_at (pushR_le h1) h2 h3 h4) ?_
  refine okS_ite (okS_at (pushR_le (pushR_le (popR_le (popR_le h1)))) h2 h3 h4) ?_
  refine okS_ite (okS_at (pushR_le h1) h2 h3 h4) ?_
  refine okS_ite (okS_at (pushR_le (popR_le h1)) h2 h3 h4) ?_
  refine okS_ite (okS_at (pushR_le h1) h2 h3 h4) ?_
  refine okS_ite (okS_at (popR_le h1) h2 h3 h4) ?_
  refine okS_ite (okS_at (pushR_le (popR_le h1)) h2 h3 h4) ?_
  refine okS_ite (okS_at (popR_le (popR_le h1)) h2 h3 h4) ?_
  refine okS_ite (okS_at h1 h2 h3 h4) ?_
  refine okS_ite (okS_at (popR_le h1) h2 h3 h4) ?_
  refine okS_ite (okS_at h1 h2 (pushR_le h3) h4) ?_
  refine okS_ite (okS_at h1 h2 (popR_le h3) h4) ?_
  refine okS_ite (okS_at (pushR_le h1) h2 h3 h4) ?_
  refine okS_ite (okS_at (popR_le h1) h2 h3 (pushR_le h4)) ?_
  refine okS_ite (okS_mk h1 h2 h3 h4) ?_
  exact okS_at (pushR_le (popR_le (popR_le h1))) h2 h3 h4
theorem okS_back {μ : Nat → Int32} {v : SV} (h : okS v) : okS (backF μ v) := okS_mk (show clampI (μ 1) 24 ≤ 24 from clampI_le) h.2.1 (show clampI (μ 4) 8 ≤ 8 from clampI_le) (show clampI (μ 7) 30 ≤ 30 from clampI_le)
theorem okS_clear {v : SV} : okS (clearF v) := okS_mk (show clampI 0 24 ≤ 24 from clampI_le) (Nat.le_refl 12) (show clampI 0 8 ≤ 8 from clampI_le) (show clampI 0 30 ≤ 30 from clampI_le)
theorem okS_copy {t v : SV} : okS (copyF t v) := okS_mk (Nat.min_le_right v.1.2 24) (Nat.min_le_right v.2.1.2 12) (Nat.min_le_right v.2.2.1.2 8) (Nat.min_le_right v.2.2.2.1.2 30)
theorem okS_init : okS initS := ⟨Nat.zero_le _, Nat.le_refl _, Nat.zero_le _, Nat.zero_le _⟩
set_option maxHeartbeats 4000000 in
set_option maxRecDepth 100000 in
theorem c_stopBy {E : Env3} {h p ri hp pts wts tps ti : Nat} {A : AV} {B : AV} {reason : Int32} {cause : Int32} {pc : Int32} {x y : Int32} : Cd E none 0 yX8_stopBy cX8_stopBy 3 none [.ref h, .int x, .int y] [lanO h p ri A.1 hp pts pc wts tps reason cause B.1 ti] none [lanO h p ri A.1 hp pts pc wts tps x y B.1 ti] := by
  refine Ct.of [some (.ref h), some (.int x), some (.int y)] (by decide +kernel) rfl (Nat.le_of_ble_eq_true rfl) (fun F hE hF hR hN => ?_)
  subst hE
  refine g_aload_n hF dX8_stopBy_0 rfl ?_
  refine g_iload_n hF dX8_stopBy_1 rfl ?_
  refine g_put (j := 9) hF 0 rfl rfl (by decide) rfl m_256 rfl (tyX8_ok 9 (by decide)) rfl rfl (Nat.le_of_ble_eq_true rfl) dX8_stopBy_2 ?_
  try dsimp only [gput, gputA, List.set]
  refine g_aload_n hF dX8_stopBy_5 rfl ?_
  refine g_iload_n hF dX8_stopBy_6 rfl ?_
  refine g_put (j := 10) hF 0 rfl rfl (by decide) rfl m_257 rfl (tyX8_ok 10 (by decide)) rfl rfl (Nat.le_of_ble_eq_true rfl) dX8_stopBy_7 ?_
  try dsimp only [gput, gputA, List.set]
  exact g_vret hF hR dX8_stopBy_10 ⟨rfl, rfl⟩
set_option maxHeartbeats 4000000 in
set_option maxRecDepth 100000 in
theorem c_pointNumbered_m1 {E : Env3} {h p ri hp pts wts tps ti : Nat} {A : AV} {B : AV} {reason : Int32} {cause : Int32} {pc : Int32}  : Cd E none 0 yX8_pointNumbered cX8_pointNumbered 2 (some (.object "Lantern$Point")) [.ref h, .int (-1)] [lanO h p ri A.1 hp pts pc wts tps reason cause B.1 ti] (some .null) [lanO h p ri A.1 hp pts pc wts tps reason cause B.1 ti] := by
  refine Ct.of [some (.ref h), some (.int (-1))] (by decide +kernel) rfl (Nat.le_of_ble_eq_true rfl) (fun F hE hF hR hN => ?_)
  subst hE
  refine g_iload_n hF dX8_pointNumbered_0 rfl ?_
  refine g_if_lt (tgt := 30) hF dX8_pointNumbered_1 (by decide) (fun c_1 => ?_) (fun c_1 => absurd (by decide) c_1)
  refine g_null hF dX8_pointNumbered_30 ?_
  exact g_aret hF hR (Or.inl ⟨_, rfl⟩) (Or.inl rfl) dX8_pointNumbered_31 ⟨rfl, rfl⟩
set_option maxHeartbeats 4000000 in
set_option maxRecDepth 100000 in
theorem c_pointNumbered_0 {E : Env3} {h p ri hp pts wts tps ti : Nat} {A : AV} {B : AV} {ap : Nat → Nat} {reason : Int32} {cause : Int32}  : Cd E none 0 yX8_pointNumbered cX8_pointNumbered 2 (some (.object "Lantern$Point")) [.ref h, .int 0] [lanO h p ri A.1 hp pts 1 wts tps reason cause B.1 ti, ptsA E.2.2 pts ap] (some (.ref (ap 0))) [lanO h p ri A.1 hp pts 1 wts tps reason cause B.1 ti, ptsA E.2.2 pts ap] := by
  refine Ct.of [some (.ref h), some (.int 0)] (by decide +kernel) rfl (Nat.le_of_ble_eq_true rfl) (fun F hE hF hR hN => ?_)
  subst hE
  refine g_iload_n hF dX8_pointNumbered_0 rfl ?_
  refine g_if_lt (tgt := 30) hF dX8_pointNumbered_1 (by decide) (fun c_1 => absurd c_1 (by decide)) (fun c_1 => ?_)
  refine g_iload_n hF dX8_pointNumbered_4 rfl ?_
  refine g_aload_n hF dX8_pointNumbered_5 rfl ?_
  refine g_get (j := 5) hF 0 rfl rfl (by decide) rfl m_252 rfl dX8_pointNumbered_6 ?_
  refine g_icmp_ge (tgt := 30) hF dX8_pointNumbered_9 (by decide) (fun c_9 => absurd c_9 (show ¬ (1 : Int32) ≤ 0 by decide)) (fun c_9 => ?_)
  refine g_iload_n hF dX8_pointNumbered_12 rfl ?_
  refine g_aload_n hF dX8_pointNumbered_13 rfl ?_
  refine g_get (j := 4) hF 0 rfl rfl (by decide) rfl m_251 rfl dX8_pointNumbered_14 ?_
  refine g_alen hF rfl 1 2 rfl rfl rfl dX8_pointNumbered_17 ?_
  refine g_icmp_ge (tgt := 30) hF dX8_pointNumbered_18 (by decide) (fun c_18 => absurd c_18 (show ¬ (6 : Int32) ≤ 0 by decide)) (fun c_18 => ?_)
  refine g_aload_n hF dX8_pointNumbered_21 rfl ?_
  refine g_get (j := 4) hF 0 rfl rfl (by decide) rfl m_251 rfl dX8_pointNumbered_22 ?_
  refine g_iload_n hF dX8_pointNumbered_25 rfl ?_
  refine g_aald hF rfl 1 2 rfl rfl (vp_in_nI (n := 0) (by decide) (by decide)) (adF_in (k := 0) rfl (by decide) (by decide)) dX8_pointNumbered_26 ?_
  refine g_goto (tgt := 31) hF dX8_pointNumbered_27 (by decide) ?_
  exact g_aret hF hR (Or.inl ⟨_, rfl⟩) (Or.inr ⟨_, rfl⟩) dX8_pointNumbered_31 ⟨rfl, rfl⟩
set_option maxHeartbeats 4000000 in
set_option maxRecDepth 100000 in
theorem c_watchMet {E : Env3} {h p ri hp pts wts tps ti ma cnt : Nat} {A : AV} {B : AV} {ad : Nat → Nat} {reason : Int32} {cause : Int32} {pc : Int32} (hc : cnt ≤ 200) (h1 : 1 ≤ cnt)  : Cd E none 1 yX8_watchMet cX8_watchMet 4 (some .int) [.ref h] [lanO h p ri A.1 hp pts pc wts tps reason cause B.1 ti, pastO hp ma cnt, arrM E.2.2 ma ad] (some (.int (-1))) [lanO h p ri A.1 hp pts pc wts tps reason cause B.1 ti, pastO hp ma cnt, arrM E.2.2 ma ad] := by
  refine Ct.of [some (.ref h), none, none, none] (by decide +kernel) rfl (Nat.le_of_ble_eq_true rfl) (fun F hE hF hR hN => ?_)
  subst hE
  refine g_aload_n hF dX8_watchMet_0 rfl ?_
  refine g_get (j := 3) hF 0 rfl rfl (by decide) rfl m_250 rfl dX8_watchMet_1 ?_
  refine g_iconst (v := (1)) hF dX8_watchMet_4 rfl ?_
  refine g_callVq hF (c_Past_ago (cnt := cnt) (j := 1) (by omega) (by omega) (by omega)) cal_X1_ago rfl m_558 (by decide) (Or.inl rfl) (Nat.zero_le _) (Nat.zero_le _) 1 rfl rfl [1, 2] rfl rfl rfl (Nat.le_of_ble_eq_true rfl) dX8_watchMet_5 ?_
  refine g_astore_n hF dX8_watchMet_8 (Nat.le_of_ble_eq_true rfl) rfl ?_
  refine g_aload_n hF dX8_watchMet_9 rfl ?_
  refine g_ifnonnull (tgt := 15) hF dX8_watchMet_10 (by decide) ?_
  refine g_iconst (v := (0)) hF dX8_watchMet_15 rfl ?_
  refine g_istore_n hF dX8_watchMet_16 (Nat.le_of_ble_eq_true rfl) rfl ?_
  refine g_iload_n hF dX8_watchMet_17 rfl ?_
  refine g_aload_n hF dX8_watchMet_18 rfl ?_
  refine g_get (j := 7) hF 0 rfl rfl (by decide) rfl m_254 rfl dX8_watchMet_19 ?_
  refine g_icmp_ge (tgt := 51) hF dX8_watchMet_22 (by decide) (fun c_22 => ?_) (fun c_22 => absurd (by decide) c_22)
  refine g_iconst (v := (-1)) hF dX8_watchMet_51 rfl ?_
  exact g_iret hF hR dX8_watchMet_52 ⟨rfl, rfl⟩
def toldF (reason cause : Int32) (cnt : Nat) (v : SV) (k : Int32) : Int32 := if k = 0 then v.2.2.2.2.1 else if k = 1 then v.2.2.2.2.2.1 else if k = 2 then v.2.2.2.2.2.2.2 else if k = 3 then nI v.1.2 else if k = 4 then nI v.2.2.1.2 else if k = 5 then v.2.2.2.2.2.2.1 else if k = 6 then nI v.2.2.2.1.2 else if k = 7 then nI cnt else if k = 8 then reason else cause
theorem told_out {k : Int32} (h : ¬ k < 0) (t0 : ¬ k = 0) (t1 : ¬ k = 1) (t2 : ¬ k = 2) (t3 : ¬ k = 3) (t4 : ¬ k = 4) (t5 : ¬ k = 5) (t6 : ¬ k = 6) (t7 : ¬ k = 7) (t8 : ¬ k = 8) (t9 : ¬ k = 9) : ¬ k < 10 := by
  obtain ⟨j, hj, rfl⟩ := nI_of h
  intro h2
  have h3 := (nI_ltI hj (show 10 < 2 ^ 31 by decide)).mp h2
  have : j = 0 ∨ j = 1 ∨ j = 2 ∨ j = 3 ∨ j = 4 ∨ j = 5 ∨ j = 6 ∨ j = 7 ∨ j = 8 ∨ j = 9 := by omega
  rcases this with rfl | rfl | rfl | rfl | rfl | rfl | rfl | rfl | rfl | rfl
  · exact t0 rfl
  · exact t1 rfl
  · exact t2 rfl
  · exact t3 rfl
  · exact t4 rfl
  · exact t5 rfl
  · exact t6 rfl
  · exact t7 rfl
  · exact t8 rfl
  · exact t9 rfl
set_option maxHeartbeats 4000000 in
set_option maxRecDepth 100000 in
theorem c_told {E : Env3} {h p ri hp pts wts tps ti ma cnt : Nat} {A : AV} {B : AV} {v : SV} {reason : Int32} {cause : Int32} {pc : Int32} {k : Int32} (hk : ¬ k < 0) (hk2 : k < 10)  : Cd E none 1 yX8_told cX8_told 2 (some .int) [.ref h, .int k] [lanO h p ri A.1 hp pts pc wts tps reason cause B.1 ti, stOv A v, rw1 E.2.2 A v, rw3 E.2.2 A v, rw4 E.2.2 A v, pastO hp ma cnt] (some (.int (toldF reason cause cnt v k))) [lanO h p ri A.1 hp pts pc wts tps reason cause B.1 ti, stOv A v, rw1 E.2.2 A v, rw3 E.2.2 A v, rw4 E.2.2 A v, pastO hp ma cnt] := by
  refine Ct.of [some (.ref h), some (.int k)] (by decide +kernel) rfl (Nat.le_of_ble_eq_true rfl) (fun F hE hF hR hN => ?_)
  subst hE
  refine g_iload_n hF dX8_told_0 rfl ?_
  by_cases t1_0 : k = 0
  · refine g_tableIn (off := 55) (tgt := 56) hF dX8_told_1 (by rw [t1_0]; decide) (by rw [t1_0]; decide) (by rw [t1_0]; rfl) (by decide) ?_
    refine g_aload_n hF dX8_told_56 rfl ?_
    refine g_get (j := 2) hF 0 rfl rfl (by decide) rfl m_249 rfl dX8_told_57 ?_
    refine g_getN (j := 4) hF 1 rfl rfl (by decide) rfl m_84 rfl dX8_told_60 ?_
    exact g_iret hF hR dX8_told_63 ⟨(by rw [t1_0]; rfl), rfl⟩
  by_cases t1_1 : k = 1
  · refine g_tableIn (off := 63) (tgt := 64) hF dX8_told_1 (by rw [t1_1]; decide) (by rw [t1_1]; decide) (by rw [t1_1]; rfl) (by decide) ?_
    refine g_aload_n hF dX8_told_64 rfl ?_
    refine g_get (j := 2) hF 0 rfl rfl (by decide) rfl m_249 rfl dX8_told_65 ?_
    refine g_getN (j := 5) hF 1 rfl rfl (by decide) rfl m_87 rfl dX8_told_68 ?_
    exact g_iret hF hR dX8_told_71 ⟨(by rw [t1_1]; rfl), rfl⟩
  by_cases t1_2 : k = 2
  · refine g_tableIn (off := 71) (tgt := 72) hF dX8_told_1 (by rw [t1_2]; decide) (by rw [t1_2]; decide) (by rw [t1_2]; rfl) (by decide) ?_
    refine g_aload_n hF dX8_told_72 rfl ?_
    refine g_get (j := 2) hF 0 rfl rfl (by decide) rfl m_249 rfl dX8_told_73 ?_
    refine g_getN (j := 7) hF 1 rfl rfl (by decide) rfl m_91 rfl dX8_told_76 ?_
    exact g_iret hF hR dX8_told_79 ⟨(by rw [t1_2]; rfl), rfl⟩
  by_cases t1_3 : k = 3
  · refine g_tableIn (off := 79) (tgt := 80) hF dX8_told_1 (by rw [t1_3]; decide) (by rw [t1_3]; decide) (by rw [t1_3]; rfl) (by decide) ?_
    refine g_aload_n hF dX8_told_80 rfl ?_
    refine g_get (j := 2) hF 0 rfl rfl (by decide) rfl m_249 rfl dX8_told_81 ?_
    refine g_getN (j := 0) hF 1 rfl rfl (by decide) rfl m_74 rfl dX8_told_84 ?_
    refine g_callVq hF (c_Row_size) cal_X4_size rfl m_367 (by decide) (Or.inl rfl) (Nat.zero_le _) (Nat.zero_le _) 2 rfl rfl [2] rfl rfl rfl (Nat.le_of_ble_eq_true rfl) dX8_told_87 ?_
    exact g_iret hF hR dX8_told_90 ⟨(by rw [t1_3]; rfl), rfl⟩
  by_cases t1_4 : k = 4
  · refine g_tableIn (off := 90) (tgt := 91) hF dX8_told_1 (by rw [t1_4]; decide) (by rw [t1_4]; decide) (by rw [t1_4]; rfl) (by decide) ?_
    refine g_aload_n hF dX8_told_91 rfl ?_
    refine g_get (j := 2) hF 0 rfl rfl (by decide) rfl m_249 rfl dX8_told_92 ?_
    refine g_getN (j := 2) hF 1 rfl rfl (by decide) rfl m_79 rfl dX8_told_95 ?_
    refine g_callVq hF (c_Row_size) cal_X4_size rfl m_367 (by decide) (Or.inl rfl) (Nat.zero_le _) (Nat.zero_le _) 3 rfl rfl [3] rfl rfl rfl (Nat.le_of_ble_eq_true rfl) dX8_told_98 ?_
    exact g_iret hF hR dX8_told_101 ⟨(by rw [t1_4]; rfl), rfl⟩
  by_cases t1_5 : k = 5
  · refine g_tableIn (off := 101) (tgt := 102) hF dX8_told_1 (by rw [t1_5]; decide) (by rw [t1_5]; decide) (by rw [t1_5]; rfl) (by decide) ?_
    refine g_aload_n hF dX8_told_102 rfl ?_
    refine g_get (j := 2) hF 0 rfl rfl (by decide) rfl m_249 rfl dX8_told_103 ?_
    refine g_getN (j := 6) hF 1 rfl rfl (by decide) rfl m_89 rfl dX8_told_106 ?_
    exact g_iret hF hR dX8_told_109 ⟨(by rw [t1_5]; rfl), rfl⟩
  by_cases t1_6 : k = 6
  · refine g_tableIn (off := 109) (tgt := 110) hF dX8_told_1 (by rw [t1_6]; decide) (by rw [t1_6]; decide) (by rw [t1_6]; rfl) (by decide) ?_
    refine g_aload_n hF dX8_told_110 rfl ?_
    refine g_get (j := 2) hF 0 rfl rfl (by decide) rfl m_249 rfl dX8_told_111 ?_
    refine g_getN (j := 3) hF 1 rfl rfl (by decide) rfl m_81 rfl dX8_told_114 ?_
    refine g_callVq hF (c_Row_size) cal_X4_size rfl m_367 (by decide) (Or.inl rfl) (Nat.zero_le _) (Nat.zero_le _) 4 rfl rfl [4] rfl rfl rfl (Nat.le_of_ble_eq_true rfl) dX8_told_117 ?_
    exact g_iret hF hR dX8_told_120 ⟨(by rw [t1_6]; rfl), rfl⟩
  by_cases t1_7 : k = 7
  · refine g_tableIn (off := 120) (tgt := 121) hF dX8_told_1 (by rw [t1_7]; decide) (by rw [t1_7]; decide) (by rw [t1_7]; rfl) (by decide) ?_
    refine g_aload_n hF dX8_told_121 rfl ?_
    refine g_get (j := 3) hF 0 rfl rfl (by decide) rfl m_250 rfl dX8_told_122 ?_
    refine g_callVq hF (c_Past_size) cal_X1_size rfl m_621 (by decide) (Or.inl rfl) (Nat.zero_le _) (Nat.zero_le _) 5 rfl rfl [5] rfl rfl rfl (Nat.le_of_ble_eq_true rfl) dX8_told_125 ?_
    exact g_iret hF hR dX8_told_128 ⟨(by rw [t1_7]; rfl), rfl⟩
  by_cases t1_8 : k = 8
  · refine g_tableIn (off := 128) (tgt := 129) hF dX8_told_1 (by rw [t1_8]; decide) (by rw [t1_8]; decide) (by rw [t1_8]; rfl) (by decide) ?_
    refine g_aload_n hF dX8_told_129 rfl ?_
    refine g_get (j := 9) hF 0 rfl rfl (by decide) rfl m_256 rfl dX8_told_130 ?_
    exact g_iret hF hR dX8_told_133 ⟨(by rw [t1_8]; rfl), rfl⟩
  by_cases t1_9 : k = 9
  · refine g_tableIn (off := 133) (tgt := 134) hF dX8_told_1 (by rw [t1_9]; decide) (by rw [t1_9]; decide) (by rw [t1_9]; rfl) (by decide) ?_
    refine g_aload_n hF dX8_told_134 rfl ?_
    refine g_get (j := 10) hF 0 rfl rfl (by decide) rfl m_257 rfl dX8_told_135 ?_
    exact g_iret hF hR dX8_told_138 ⟨(by rw [t1_9]; rfl), rfl⟩
  exact absurd hk2 (by have z := told_out hk t1_0 t1_1 t1_2 t1_3 t1_4 t1_5 t1_6 t1_7 t1_8 t1_9; exact z)
set_option maxHeartbeats 4000000 in
set_option maxRecDepth 100000 in
theorem c_stack {E : Env3} {h p ri hp pts wts tps ti : Nat} {A : AV} {B : AV} {v : SV} {reason : Int32} {cause : Int32} {pc : Int32} {i : Int32} (hn : v.1.2 ≤ 24) (hi : rowHas v.1.2 i = true)  : Cd E none 2 yX8_stack cX8_stack 2 (some .int) [.ref h, .int i] [lanO h p ri A.1 hp pts pc wts tps reason cause B.1 ti, stOv A v, rw1 E.2.2 A v] (some (.int (topR v.1 i))) [lanO h p ri A.1 hp pts pc wts tps reason cause B.1 ti, stOv A v, rw1 E.2.2 A v] := by
  refine Ct.of [some (.ref h), some (.int i)] (by decide +kernel) rfl (Nat.le_of_ble_eq_true rfl) (fun F hE hF hR hN => ?_)
  subst hE
  refine g_aload_n hF dX8_stack_0 rfl ?_
  refine g_get (j := 2) hF 0 rfl rfl (by decide) rfl m_249 rfl dX8_stack_1 ?_
  refine g_getN (j := 0) hF 1 rfl rfl (by decide) rfl m_74 rfl dX8_stack_4 ?_
  refine g_iload_n hF dX8_stack_7 rfl ?_
  refine g_callVq hF (c_Row_has) cal_X4_has rfl m_630 (by decide) (Or.inl rfl) (Nat.zero_le _) (Nat.zero_le _) 2 rfl rfl [2] rfl rfl rfl (Nat.le_of_ble_eq_true rfl) dX8_stack_8 ?_
  refine g_if_ne (tgt := 25) hF dX8_stack_11 (by decide) (fun c_11 => ?_) (fun c_11 => absurd c_11 (bI_n.mpr hi))
  refine g_aload_n hF dX8_stack_25 rfl ?_
  refine g_get (j := 2) hF 0 rfl rfl (by decide) rfl m_249 rfl dX8_stack_26 ?_
  refine g_getN (j := 0) hF 1 rfl rfl (by decide) rfl m_74 rfl dX8_stack_29 ?_
  refine g_iload_n hF dX8_stack_32 rfl ?_
  refine g_callVq hF (c_Row_fromTop (by first | omega | exact clampI_le | (split <;> omega)) (by omega)) cal_X4_fromTop rfl m_647 (by decide) (Or.inl rfl) (Nat.zero_le _) (Nat.zero_le _) 2 rfl rfl [2] rfl rfl rfl (Nat.le_of_ble_eq_true rfl) dX8_stack_33 ?_
  exact g_iret hF hR dX8_stack_36 ⟨rfl, rfl⟩
set_option maxHeartbeats 4000000 in
set_option maxRecDepth 100000 in
theorem c_frame {E : Env3} {h p ri hp pts wts tps ti : Nat} {A : AV} {B : AV} {v : SV} {reason : Int32} {cause : Int32} {pc : Int32} {i : Int32} (hn : v.2.2.1.2 ≤ 8) (hi : rowHas v.2.2.1.2 i = true)  : Cd E none 2 yX8_frame cX8_frame 2 (some .int) [.ref h, .int i] [lanO h p ri A.1 hp pts pc wts tps reason cause B.1 ti, stOv A v, rw3 E.2.2 A v] (some (.int (topR v.2.2.1 i))) [lanO h p ri A.1 hp pts pc wts tps reason cause B.1 ti, stOv A v, rw3 E.2.2 A v] := by
  refine Ct.of [some (.ref h), some (.int i)] (by decide +kernel) rfl (Nat.le_of_ble_eq_true rfl) (fun F hE hF hR hN => ?_)
  subst hE
  refine g_aload_n hF dX8_frame_0 rfl ?_
  refine g_get (j := 2) hF 0 rfl rfl (by decide) rfl m_249 rfl dX8_frame_1 ?_
  refine g_getN (j := 2) hF 1 rfl rfl (by decide) rfl m_79 rfl dX8_frame_4 ?_
  refine g_iload_n hF dX8_frame_7 rfl ?_
  refine g_callVq hF (c_Row_has) cal_X4_has rfl m_630 (by decide) (Or.inl rfl) (Nat.zero_le _) (Nat.zero_le _) 2 rfl rfl [2] rfl rfl rfl (Nat.le_of_ble_eq_true rfl) dX8_frame_8 ?_
  refine g_if_ne (tgt := 25) hF dX8_frame_11 (by decide) (fun c_11 => ?_) (fun c_11 => absurd c_11 (bI_n.mpr hi))
  refine g_aload_n hF dX8_frame_25 rfl ?_
  refine g_get (j := 2) hF 0 rfl rfl (by decide) rfl m_249 rfl dX8_frame_26 ?_
  refine g_getN (j := 2) hF 1 rfl rfl (by decide) rfl m_79 rfl dX8_frame_29 ?_
  refine g_iload_n hF dX8_frame_32 rfl ?_
  refine g_callVq hF (c_Row_fromTop (by first | omega | exact clampI_le | (split <;> omega)) (by omega)) cal_X4_fromTop rfl m_647 (by decide) (Or.inl rfl) (Nat.zero_le _) (Nat.zero_le _) 2 rfl rfl [2] rfl rfl rfl (Nat.le_of_ble_eq_true rfl) dX8_frame_33 ?_
  exact g_iret hF hR dX8_frame_36 ⟨rfl, rfl⟩
set_option maxHeartbeats 4000000 in
set_option maxRecDepth 100000 in
theorem c_output {E : Env3} {h p ri hp pts wts tps ti : Nat} {A : AV} {B : AV} {v : SV} {reason : Int32} {cause : Int32} {pc : Int32} {i : Int32} (hn : v.2.2.2.1.2 ≤ 30) (hi : rowHas v.2.2.2.1.2 i = true)  : Cd E none 2 yX8_output cX8_output 2 (some .int) [.ref h, .int i] [lanO h p ri A.1 hp pts pc wts tps reason cause B.1 ti, stOv A v, rw4 E.2.2 A v] (some (.int (getR v.2.2.2.1 i))) [lanO h p ri A.1 hp pts pc wts tps reason cause B.1 ti, stOv A v, rw4 E.2.2 A v] := by
  refine Ct.of [some (.ref h), some (.int i)] (by decide +kernel) rfl (Nat.le_of_ble_eq_true rfl) (fun F hE hF hR hN => ?_)
  subst hE
  refine g_aload_n hF dX8_output_0 rfl ?_
  refine g_get (j := 2) hF 0 rfl rfl (by decide) rfl m_249 rfl dX8_output_1 ?_
  refine g_getN (j := 3) hF 1 rfl rfl (by decide) rfl m_81 rfl dX8_output_4 ?_
  refine g_iload_n hF dX8_output_7 rfl ?_
  refine g_callVq hF (c_Row_has) cal_X4_has rfl m_630 (by decide) (Or.inl rfl) (Nat.zero_le _) (Nat.zero_le _) 2 rfl rfl [2] rfl rfl rfl (Nat.le_of_ble_eq_true rfl) dX8_output_8 ?_
  refine g_if_ne (tgt := 25) hF dX8_output_11 (by decide) (fun c_11 => ?_) (fun c_11 => absurd c_11 (bI_n.mpr hi))
  refine g_aload_n hF dX8_output_25 rfl ?_
  refine g_get (j := 2) hF 0 rfl rfl (by decide) rfl m_249 rfl dX8_output_26 ?_
  refine g_getN (j := 3) hF 1 rfl rfl (by decide) rfl m_81 rfl dX8_output_29 ?_
  refine g_iload_n hF dX8_output_32 rfl ?_
  refine g_callVq hF (c_Row_get (by first | omega | exact clampI_le | (split <;> omega)) (by omega)) cal_X4_get rfl m_654 (by decide) (Or.inl rfl) (Nat.zero_le _) (Nat.zero_le _) 2 rfl rfl [2] rfl rfl rfl (Nat.le_of_ble_eq_true rfl) dX8_output_33 ?_
  exact g_iret hF hR dX8_output_36 ⟨rfl, rfl⟩
set_option maxHeartbeats 4000000 in
set_option maxRecDepth 100000 in
theorem c_cell {E : Env3} {h p ri hp pts wts tps ti : Nat} {A : AV} {B : AV} {v : SV} {reason : Int32} {cause : Int32} {pc : Int32} {i : Int32} (hn : v.2.1.2 ≤ 12) (hi : isCellB i = true)  : Cd E none 1 yX8_cell cX8_cell 2 (some .int) [.ref h, .int i] [lanO h p ri A.1 hp pts pc wts tps reason cause B.1 ti, stOv A v, rw2 E.2.2 A v] (some (.int (getR v.2.1 i))) [lanO h p ri A.1 hp pts pc wts tps reason cause B.1 ti, stOv A v, rw2 E.2.2 A v] := by
  refine Ct.of [some (.ref h), some (.int i)] (by decide +kernel) rfl (Nat.le_of_ble_eq_true rfl) (fun F hE hF hR hN => ?_)
  subst hE
  refine g_iload_n hF dX8_cell_0 rfl ?_
  refine g_callSq hF (c_isCell) cal_X8_isCell rfl m_652 (by decide) (Or.inl rfl) (Nat.zero_le _) (Nat.zero_le _) [] rfl rfl rfl (Nat.le_of_ble_eq_true rfl) dX8_cell_1 ?_
  refine g_if_ne (tgt := 18) hF dX8_cell_4 (by decide) (fun c_4 => ?_) (fun c_4 => absurd c_4 (bI_n.mpr hi))
  refine g_aload_n hF dX8_cell_18 rfl ?_
  refine g_get (j := 2) hF 0 rfl rfl (by decide) rfl m_249 rfl dX8_cell_19 ?_
  refine g_getN (j := 1) hF 1 rfl rfl (by decide) rfl m_77 rfl dX8_cell_22 ?_
  refine g_iload_n hF dX8_cell_25 rfl ?_
  refine g_callVq hF (c_Row_get (by first | omega | exact clampI_le | (split <;> omega)) (by omega)) cal_X4_get rfl m_654 (by decide) (Or.inl rfl) (Nat.zero_le _) (Nat.zero_le _) 2 rfl rfl [2] rfl rfl rfl (Nat.le_of_ble_eq_true rfl) dX8_cell_26 ?_
  exact g_iret hF hR dX8_cell_29 ⟨rfl, rfl⟩
set_option maxHeartbeats 4000000 in
set_option maxRecDepth 100000 in
theorem c_ofStep_2 {E : Env3} {h p ri hp pts wts tps ti rc rn rt ac at0 np : Nat} {A : AV} {B : AV} {fc : Nat → Int32} {ft : Nat → Int32} {reason : Int32} {cause : Int32} {pc : Int32} {i : Int32} (hi : rowHas np i = true) (hn : np ≤ 80)  : Cd E none 2 yX8_ofStep cX8_ofStep 3 (some .int) [.ref h, .int i, .int 2] [lanO h p ri A.1 hp pts pc wts tps reason cause B.1 ti, progO p rc rn rt, rowW E.2.2 rc ac 80 fc np, rowW E.2.2 rt at0 80 ft np] (some (.int (rowGet ft np i))) [lanO h p ri A.1 hp pts pc wts tps reason cause B.1 ti, progO p rc rn rt, rowW E.2.2 rc ac 80 fc np, rowW E.2.2 rt at0 80 ft np] := by
  refine Ct.of [some (.ref h), some (.int i), some (.int 2)] (by decide +kernel) rfl (Nat.le_of_ble_eq_true rfl) (fun F hE hF hR hN => ?_)
  subst hE
  refine g_aload_n hF dX8_ofStep_0 rfl ?_
  refine g_get (j := 0) hF 0 rfl rfl (by decide) rfl m_247 rfl dX8_ofStep_1 ?_
  refine g_iload_n hF dX8_ofStep_4 rfl ?_
  refine g_callVq hF (c_Prog_has) cal_X3_has rfl m_659 (by decide) (Or.inl rfl) (Nat.zero_le _) (Nat.zero_le _) 1 rfl rfl [1, 2] rfl rfl rfl (Nat.le_of_ble_eq_true rfl) dX8_ofStep_5 ?_
  refine g_if_ne (tgt := 21) hF dX8_ofStep_8 (by decide) (fun c_8 => ?_) (fun c_8 => absurd c_8 (bI_n.mpr hi))
  refine g_iload_n hF dX8_ofStep_21 rfl ?_
  refine g_tableIn (off := 44) (tgt := 66) hF dX8_ofStep_22 (by rw [show (2 : Int32) = 2 from rfl]; decide) (by rw [show (2 : Int32) = 2 from rfl]; decide) (by rw [show (2 : Int32) = 2 from rfl]; rfl) (by decide) ?_
  refine g_aload_n hF dX8_ofStep_66 rfl ?_
  refine g_get (j := 0) hF 0 rfl rfl (by decide) rfl m_247 rfl dX8_ofStep_67 ?_
  refine g_iload_n hF dX8_ofStep_70 rfl ?_
  refine g_callVq hF (c_Prog_timesAt (by omega)) cal_X3_timesAt rfl m_663 (by decide) (Or.inl rfl) (Nat.zero_le _) (Nat.zero_le _) 1 rfl rfl [1, 3] rfl rfl rfl (Nat.le_of_ble_eq_true rfl) dX8_ofStep_71 ?_
  exact g_iret hF hR dX8_ofStep_74 ⟨rfl, rfl⟩
set_option maxHeartbeats 4000000 in
set_option maxRecDepth 100000 in
theorem c_wroteAgo {E : Env3} {h p ri hp pts wts tps ti ma cnt : Nat} {A : AV} {B : AV} {ad : Nat → Nat} {M : Nat → Nat → Int32} {reason : Int32} {cause : Int32} {pc : Int32} {c : Int32} (hi : isCellB c = true) (hc : cnt ≤ 200)  : Cd E none 2 yX8_wroteAgo cX8_wroteAgo 2 (some .int) [.ref h, .int c] [lanO h p ri A.1 hp pts pc wts tps reason cause B.1 ti, pastO hp ma cnt, arrM E.2.2 ma ad, momsW ad M] (some (.int (storedD M cnt c cnt))) [lanO h p ri A.1 hp pts pc wts tps reason cause B.1 ti, pastO hp ma cnt, arrM E.2.2 ma ad, momsW ad M] := by
  refine Ct.of [some (.ref h), some (.int c)] (by decide +kernel) rfl (Nat.le_of_ble_eq_true rfl) (fun F hE hF hR hN => ?_)
  subst hE
  refine g_iload_n hF dX8_wroteAgo_0 rfl ?_
  refine g_callSq hF (c_isCell) cal_X8_isCell rfl m_652 (by decide) (Or.inl rfl) (Nat.zero_le _) (Nat.zero_le _) [] rfl rfl rfl (Nat.le_of_ble_eq_true rfl) dX8_wroteAgo_1 ?_
  refine g_if_ne (tgt := 18) hF dX8_wroteAgo_4 (by decide) (fun c_4 => ?_) (fun c_4 => absurd c_4 (bI_n.mpr hi))
  refine g_aload_n hF dX8_wroteAgo_18 rfl ?_
  refine g_get (j := 3) hF 0 rfl rfl (by decide) rfl m_250 rfl dX8_wroteAgo_19 ?_
  refine g_iload_n hF dX8_wroteAgo_22 rfl ?_
  refine g_callVq hF (c_Past_storedAgo (by omega)) cal_X1_storedAgo rfl m_698 (by decide) (Or.inl rfl) (Nat.zero_le _) (Nat.zero_le _) 1 rfl rfl [1, 2, 3] rfl rfl rfl (Nat.le_of_ble_eq_true rfl) dX8_wroteAgo_23 ?_
  exact g_iret hF hR dX8_wroteAgo_26 ⟨rfl, rfl⟩
set_option maxHeartbeats 4000000 in
set_option maxRecDepth 100000 in
theorem c_beginsAtStart {E : Env3} {h p ri hp pts wts tps ti ma cnt : Nat} {A : AV} {B : AV} {v : SV} {reason : Int32} {cause : Int32} {pc : Int32} (hck : v.2.2.2.2.2.2.2 = nI cnt)  : Cd E none 1 yX8_beginsAtStart cX8_beginsAtStart 1 (some .boolean) [.ref h] [lanO h p ri A.1 hp pts pc wts tps reason cause B.1 ti, stOv A v, pastO hp ma cnt] (some (.int 1)) [lanO h p ri A.1 hp pts pc wts tps reason cause B.1 ti, stOv A v, pastO hp ma cnt] := by
  refine Ct.of [some (.ref h)] (by decide +kernel) rfl (Nat.le_of_ble_eq_true rfl) (fun F hE hF hR hN => ?_)
  subst hE
  refine g_aload_n hF dX8_beginsAtStart_0 rfl ?_
  refine g_get (j := 2) hF 0 rfl rfl (by decide) rfl m_249 rfl dX8_beginsAtStart_1 ?_
  refine g_getN (j := 7) hF 1 rfl rfl (by decide) rfl m_91 rfl dX8_beginsAtStart_4 ?_
  refine g_aload_n hF dX8_beginsAtStart_7 rfl ?_
  refine g_get (j := 3) hF 0 rfl rfl (by decide) rfl m_250 rfl dX8_beginsAtStart_8 ?_
  refine g_callVq hF (c_Past_size) cal_X1_size rfl m_621 (by decide) (Or.inl rfl) (Nat.zero_le _) (Nat.zero_le _) 2 rfl rfl [2] rfl rfl rfl (Nat.le_of_ble_eq_true rfl) dX8_beginsAtStart_11 ?_
  refine g_icmp_ne (tgt := 21) hF dX8_beginsAtStart_14 (by decide) (fun c_14 => absurd hck c_14) (fun c_14 => ?_)
  refine g_iconst (v := (1)) hF dX8_beginsAtStart_17 rfl ?_
  refine g_goto (tgt := 22) hF dX8_beginsAtStart_18 (by decide) ?_
  exact g_zret hF hR dX8_beginsAtStart_22 rfl ⟨rfl, rfl⟩
set_option maxHeartbeats 4000000 in
set_option maxRecDepth 100000 in
theorem c_tapeAt {E : Env3} {h p ri hp pts wts tps ti : Nat} {A : AV} {B : AV} {tp : Nat → Nat} {reason : Int32} {cause : Int32} {pc : Int32}  : Cd E none 0 yX8_tapeAt cX8_tapeAt 2 (some (.object "Lantern$Tape")) [.ref h, .int 1] [lanO h p ri A.1 hp pts pc wts tps reason cause B.1 ti, tpsA E.2.2 tps tp] (some (.ref (tp 1))) [lanO h p ri A.1 hp pts pc wts tps reason cause B.1 ti, tpsA E.2.2 tps tp] := by
  refine Ct.of [some (.ref h), some (.int 1)] (by decide +kernel) rfl (Nat.le_of_ble_eq_true rfl) (fun F hE hF hR hN => ?_)
  subst hE
  refine g_iload_n hF dX8_tapeAt_0 rfl ?_
  refine g_if_lt (tgt := 22) hF dX8_tapeAt_1 (by decide) (fun c_1 => absurd c_1 (by decide)) (fun c_1 => ?_)
  refine g_iload_n hF dX8_tapeAt_4 rfl ?_
  refine g_aload_n hF dX8_tapeAt_5 rfl ?_
  refine g_get (j := 8) hF 0 rfl rfl (by decide) rfl m_255 rfl dX8_tapeAt_6 ?_
  refine g_alen hF rfl 1 4 rfl rfl rfl dX8_tapeAt_9 ?_
  refine g_icmp_ge (tgt := 22) hF dX8_tapeAt_10 (by decide) (fun c_10 => absurd c_10 (show ¬ (3 : Int32) ≤ 1 by decide)) (fun c_10 => ?_)
  refine g_aload_n hF dX8_tapeAt_13 rfl ?_
  refine g_get (j := 8) hF 0 rfl rfl (by decide) rfl m_255 rfl dX8_tapeAt_14 ?_
  refine g_iload_n hF dX8_tapeAt_17 rfl ?_
  refine g_aald hF rfl 1 4 rfl rfl (vp_in_nI (n := 1) (by decide) (by decide)) (adF_in (k := 1) rfl (by decide) (by decide)) dX8_tapeAt_18 ?_
  refine g_goto (tgt := 23) hF dX8_tapeAt_19 (by decide) ?_
  exact g_aret hF hR (Or.inl ⟨_, rfl⟩) (Or.inr ⟨_, rfl⟩) dX8_tapeAt_23 ⟨rfl, rfl⟩
