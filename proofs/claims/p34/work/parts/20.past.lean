/-! Past: a row of 200 moments, of which the first cnt are told (here the ring never turns: first is 0) -/
def pastO (h ma cnt : Nat) : va_W := [(h, .inr (1, [.ref ma, .int 0, .int (nI cnt)]))]
def adF (ad : Nat → Nat) (N : Nat) : Nat → Option Nat := fun j => if j < N then some (ad j) else none
def arrM (cy : Nat → ClassId) (ma : Nat) (ad : Nat → Nat) : va_W := [(ma, .inl (cy 1, 200, .inr (.inr (.inr (.inr (adF ad 200))))))]
def momsR (ad : Nat → Nat) (M : Nat → Nat → Int32) (lo n : Nat) : va_W := ((List.range' lo n).map (fun j => momO (ad j) (M j))).flatten
def momsW (ad : Nat → Nat) (M : Nat → Nat → Int32) : va_W := momsR ad M 0 200
def updM (M : Nat → Nat → Int32) (k : Nat) (μ : Nat → Int32) : Nat → Nat → Int32 := fun j => if j = k then μ else M j
theorem momsR_app (ad : Nat → Nat) (M : Nat → Nat → Int32) (lo n m : Nat) : momsR ad M lo (n + m) = momsR ad M lo n ++ momsR ad M (lo + n) m := by
  unfold momsR
  rw [← List.range'_append_1, List.map_append, List.flatten_append]
theorem momsR_one (ad : Nat → Nat) (M : Nat → Nat → Int32) (lo : Nat) : momsR ad M lo 1 = momO (ad lo) (M lo) := by simp [momsR]
theorem momsR_congr {ad : Nat → Nat} {M M' : Nat → Nat → Int32} {lo n : Nat} (h : ∀ j, lo ≤ j → j < lo + n → M j = M' j) : momsR ad M lo n = momsR ad M' lo n := by
  unfold momsR
  congr 1
  apply List.map_congr_left
  intro j hj
  have := List.mem_range'_1.mp hj
  rw [h j (by omega) (by omega)]
theorem mom_split {ad : Nat → Nat} {M : Nat → Nat → Int32} {k : Nat} (hk : k < 200) : momsW ad M = momsR ad M 0 k ++ (momO (ad k) (M k) ++ momsR ad M (k + 1) (199 - k)) := by
  unfold momsW
  rw [show 200 = k + (1 + (199 - k)) by omega, momsR_app, momsR_app, momsR_one, Nat.zero_add]
theorem mom_join {ad : Nat → Nat} {M : Nat → Nat → Int32} {k : Nat} {μ : Nat → Int32} (hk : k < 200) : momsR ad M 0 k ++ (momO (ad k) μ ++ momsR ad M (k + 1) (199 - k)) = momsW ad (updM M k μ) := by
  rw [mom_split hk]
  rw [momsR_congr (M := M) (M' := updM M k μ) (lo := 0) (fun j _ h2 => by unfold updM; rw [if_neg (by omega)]), momsR_congr (M := M) (M' := updM M k μ) (lo := k + 1) (fun j h1 _ => by unfold updM; rw [if_neg (by omega)])]
  simp [updM]
theorem idx_ago {cnt j : Nat} (h1 : cnt ≤ 200) (h2 : 1 ≤ j) (h3 : j ≤ cnt) : (0 + nI cnt - nI j) - (0 + nI cnt - nI j) / 200 * 200 = nI (cnt - j) := by
  have e0 : (0 : Int32) + nI cnt = nI cnt := by rw [← nI_0, nI_add, Nat.zero_add]
  rw [e0, pk_sub h3, show (200 : Int32) = nI 200 from rfl, pk_rem (by omega) (by omega) (by decide), Nat.mod_eq_of_lt (by omega)]
theorem idx_new {cnt : Nat} (h1 : cnt < 200) : (0 + (nI cnt + 1) - 1) - (0 + (nI cnt + 1) - 1) / 200 * 200 = nI cnt := by
  have e0 : (0 : Int32) + (nI cnt + 1) = nI (cnt + 1) := by rw [← nI_0, nI_1, nI_add, Nat.zero_add]
  rw [e0, nI_pred, show (200 : Int32) = nI 200 from rfl, pk_rem (by omega) (by omega) (by decide), Nat.mod_eq_of_lt (by omega)]
theorem adF_in {ad : Nat → Nat} {N k : Nat} {x : Int32} (e : x = nI k) (hk : k < N) (hN : N < 2 ^ 31) : adF ad N x.toNatClampNeg = some (ad k) := by
  rw [e, nI_clamp (by omega)]
  unfold adF
  rw [if_pos hk]
def cellAgoF (M : Nat → Nat → Int32) (cnt : Nat) (c : Int32) : Nat → Int32 → Int32
  | 0, now => now
  | k + 1, now => if M (cnt - (k + 1)) 8 = c then M (cnt - (k + 1)) 9 else cellAgoF M cnt c k now
def storedD (M : Nat → Nat → Int32) (cnt : Nat) (c : Int32) : Nat → Int32
  | 0 => 0
  | d + 1 => if M d 8 = c then nI (cnt - d) else storedD M cnt c d
def stepsF (M : Nat → Nat → Int32) (f : Nat → Int32) (i : Nat) : Nat → Int32 := fun j => if j < i then M j 0 else f j
set_option maxHeartbeats 4000000 in
set_option maxRecDepth 100000 in
theorem c_Past_size {E : Env3} {h ma cnt : Nat}  : Cd E none 0 yX1_size cX1_size 1 (some .int) [.ref h] [pastO h ma cnt] (some (.int (nI cnt))) [pastO h ma cnt] := by
  refine Ct.of [some (.ref h)] (by decide +kernel) rfl (Nat.le_of_ble_eq_true rfl) (fun F hE hF hR hN => ?_)
  subst hE
  refine g_aload_n hF dX1_size_0 rfl ?_
  refine g_get (j := 2) hF 0 rfl rfl (by decide) rfl m_169 rfl dX1_size_1 ?_
  exact g_iret hF hR dX1_size_4 ⟨rfl, rfl⟩
set_option maxHeartbeats 4000000 in
set_option maxRecDepth 100000 in
theorem c_Past_clear {E : Env3} {h ma cnt : Nat}  : Cd E none 0 yX1_clear cX1_clear 1 none [.ref h] [pastO h ma cnt] none [pastO h ma 0] := by
  refine Ct.of [some (.ref h)] (by decide +kernel) rfl (Nat.le_of_ble_eq_true rfl) (fun F hE hF hR hN => ?_)
  subst hE
  refine g_aload_n hF dX1_clear_0 rfl ?_
  refine g_iconst (v := (0)) hF dX1_clear_1 rfl ?_
  refine g_put (j := 1) hF 0 rfl rfl (by decide) rfl m_168 rfl (tyX1_ok 1 (by decide)) rfl rfl (Nat.le_of_ble_eq_true rfl) dX1_clear_2 ?_
  try dsimp only [gput, gputA, List.set, stGs, List.cons_append, List.nil_append]
  refine g_aload_n hF dX1_clear_5 rfl ?_
  refine g_iconst (v := (0)) hF dX1_clear_6 rfl ?_
  refine g_put (j := 2) hF 0 rfl rfl (by decide) rfl m_169 rfl (tyX1_ok 2 (by decide)) rfl rfl (Nat.le_of_ble_eq_true rfl) dX1_clear_7 ?_
  try dsimp only [gput, gputA, List.set, stGs, List.cons_append, List.nil_append]
  exact g_vret hF hR dX1_clear_10 ⟨rfl, rfl⟩
set_option maxHeartbeats 4000000 in
set_option maxRecDepth 100000 in
theorem c_Past_newest {E : Env3} {h ma cnt : Nat} {ad : Nat → Nat} (hc : cnt < 200) : Cd E none 0 yX1_newest cX1_newest 1 (some (.object "Lantern$Moment")) [.ref h] [pastO h ma cnt, arrM E.2.2 ma ad] (some (.ref (ad cnt))) [pastO h ma (cnt + 1), arrM E.2.2 ma ad] := by
  refine Ct.of [some (.ref h)] (by decide +kernel) rfl (Nat.le_of_ble_eq_true rfl) (fun F hE hF hR hN => ?_)
  subst hE
  refine g_aload_n hF dX1_newest_0 rfl ?_
  refine g_get (j := 2) hF 0 rfl rfl (by decide) rfl m_169 rfl dX1_newest_1 ?_
  refine g_sipush (v := (200)) hF dX1_newest_4 rfl ?_
  refine g_icmp_ge (tgt := 23) hF dX1_newest_7 (by decide) (fun c_7 => absurd c_7 (nI_ge hc (by decide))) (fun c_7 => ?_)
  refine g_aload_n hF dX1_newest_10 rfl ?_
  refine g_dup hF dX1_newest_11 rfl ?_
  refine g_get (j := 2) hF 0 rfl rfl (by decide) rfl m_169 rfl dX1_newest_12 ?_
  refine g_iconst (v := (1)) hF dX1_newest_15 rfl ?_
  refine g_iadd hF dX1_newest_16 ?_
  refine g_put (j := 2) hF 0 rfl rfl (by decide) rfl m_169 rfl (tyX1_ok 2 (by decide)) rfl rfl (Nat.le_of_ble_eq_true rfl) dX1_newest_17 ?_
  try dsimp only [gput, gputA, List.set, stGs, List.cons_append, List.nil_append]
  refine g_goto (tgt := 37) hF dX1_newest_20 (by decide) ?_
  refine g_aload_n hF dX1_newest_37 rfl ?_
  refine g_get (j := 0) hF 0 rfl rfl (by decide) rfl m_167 rfl dX1_newest_38 ?_
  refine g_aload_n hF dX1_newest_41 rfl ?_
  refine g_get (j := 1) hF 0 rfl rfl (by decide) rfl m_168 rfl dX1_newest_42 ?_
  refine g_aload_n hF dX1_newest_45 rfl ?_
  refine g_get (j := 2) hF 0 rfl rfl (by decide) rfl m_169 rfl dX1_newest_46 ?_
  refine g_iadd hF dX1_newest_49 ?_
  refine g_iconst (v := (1)) hF dX1_newest_50 rfl ?_
  refine g_isub hF dX1_newest_51 ?_
  refine g_sipush (v := (200)) hF dX1_newest_52 rfl ?_
  refine g_irem hF dX1_newest_55 (by decide) ?_
  rw [idx_new hc]
  refine g_aald hF rfl 1 1 rfl rfl (vp_in_nI (by omega) (by decide)) (adF_in rfl (by omega) (by decide)) dX1_newest_56 ?_
  refine g_regroup (gs' := [pastO h ma (cnt + 1), arrM F.1.2.2 ma ad]) (by simp only [pastO, nI_succ] <;> rfl) ?_
  exact g_aret hF hR (Or.inl ⟨_, rfl⟩) (Or.inr ⟨_, rfl⟩) dX1_newest_57 ⟨rfl, rfl⟩
set_option maxHeartbeats 4000000 in
set_option maxRecDepth 100000 in
theorem c_Past_dropLatest {E : Env3} {h ma cnt : Nat} (hc : 0 < cnt) (hc2 : cnt ≤ 200) : Cd E none 0 yX1_dropLatest cX1_dropLatest 1 none [.ref h] [pastO h ma cnt] none [pastO h ma (cnt - 1)] := by
  refine Ct.of [some (.ref h)] (by decide +kernel) rfl (Nat.le_of_ble_eq_true rfl) (fun F hE hF hR hN => ?_)
  subst hE
  refine g_aload_n hF dX1_dropLatest_0 rfl ?_
  refine g_get (j := 2) hF 0 rfl rfl (by decide) rfl m_169 rfl dX1_dropLatest_1 ?_
  refine g_if_le (tgt := 17) hF dX1_dropLatest_4 (by decide) (fun c_4 => absurd c_4 (nI_nle hc (by omega))) (fun c_4 => ?_)
  refine g_aload_n hF dX1_dropLatest_7 rfl ?_
  refine g_dup hF dX1_dropLatest_8 rfl ?_
  refine g_get (j := 2) hF 0 rfl rfl (by decide) rfl m_169 rfl dX1_dropLatest_9 ?_
  refine g_iconst (v := (1)) hF dX1_dropLatest_12 rfl ?_
  refine g_isub hF dX1_dropLatest_13 ?_
  refine g_put (j := 2) hF 0 rfl rfl (by decide) rfl m_169 rfl (tyX1_ok 2 (by decide)) rfl rfl (Nat.le_of_ble_eq_true rfl) dX1_dropLatest_14 ?_
  try dsimp only [gput, gputA, List.set, stGs, List.cons_append, List.nil_append]
  refine g_regroup (gs' := [pastO h ma (cnt - 1)]) (by rw [show nI cnt - 1 = nI (cnt - 1) from by obtain ⟨z1, rfl⟩ : ∃ z1, cnt = z1 + 1 := ⟨cnt - 1, by omega⟩; exact nI_pred z1]; rfl) ?_
  exact g_vret hF hR dX1_dropLatest_17 ⟨rfl, rfl⟩
set_option maxHeartbeats 4000000 in
set_option maxRecDepth 100000 in
theorem c_Past_ago {E : Env3} {h ma cnt : Nat} {ad : Nat → Nat} {j : Nat} (hc : cnt ≤ 200) (h1 : 1 ≤ j) (h2 : j ≤ cnt)  : Cd E none 0 yX1_ago cX1_ago 2 (some (.object "Lantern$Moment")) [.ref h, .int (nI j)] [pastO h ma cnt, arrM E.2.2 ma ad] (some (.ref (ad (cnt - j)))) [pastO h ma cnt, arrM E.2.2 ma ad] := by
  refine Ct.of [some (.ref h), some (.int (nI j))] (by decide +kernel) rfl (Nat.le_of_ble_eq_true rfl) (fun F hE hF hR hN => ?_)
  subst hE
  refine g_iload_n hF dX1_ago_0 rfl ?_
  refine g_iconst (v := (1)) hF dX1_ago_1 rfl ?_
  refine g_icmp_lt (tgt := 36) hF dX1_ago_2 (by decide) (fun c_2 => absurd c_2 (fun y => absurd ((nI_ltI (a := j) (b := 1) (by omega) (by decide)).mp y) (by omega))) (fun c_2 => ?_)
  refine g_iload_n hF dX1_ago_5 rfl ?_
  refine g_aload_n hF dX1_ago_6 rfl ?_
  refine g_get (j := 2) hF 0 rfl rfl (by decide) rfl m_169 rfl dX1_ago_7 ?_
  refine g_icmp_gt (tgt := 36) hF dX1_ago_10 (by decide) (fun c_10 => absurd c_10 (fun y => absurd ((nI_ltI (a := cnt) (b := j) (by omega) (by omega)).mp y) (by omega))) (fun c_10 => ?_)
  refine g_aload_n hF dX1_ago_13 rfl ?_
  refine g_get (j := 0) hF 0 rfl rfl (by decide) rfl m_167 rfl dX1_ago_14 ?_
  refine g_aload_n hF dX1_ago_17 rfl ?_
  refine g_get (j := 1) hF 0 rfl rfl (by decide) rfl m_168 rfl dX1_ago_18 ?_
  refine g_aload_n hF dX1_ago_21 rfl ?_
  refine g_get (j := 2) hF 0 rfl rfl (by decide) rfl m_169 rfl dX1_ago_22 ?_
  refine g_iadd hF dX1_ago_25 ?_
  refine g_iload_n hF dX1_ago_26 rfl ?_
  refine g_isub hF dX1_ago_27 ?_
  refine g_sipush (v := (200)) hF dX1_ago_28 rfl ?_
  refine g_irem hF dX1_ago_31 (by decide) ?_
  rw [idx_ago hc h1 h2]
  refine g_aald hF rfl 1 1 rfl rfl (vp_in_nI (by omega) (by decide)) (adF_in rfl (by omega) (by decide)) dX1_ago_32 ?_
  refine g_goto (tgt := 37) hF dX1_ago_33 (by decide) ?_
  exact g_aret hF hR (Or.inl ⟨_, rfl⟩) (Or.inr ⟨_, rfl⟩) dX1_ago_37 ⟨rfl, rfl⟩
set_option maxHeartbeats 4000000 in
set_option maxRecDepth 100000 in
theorem c_Past_ago0 {E : Env3} {h ma cnt : Nat} {ad : Nat → Nat}  : Cd E none 0 yX1_ago cX1_ago 2 (some (.object "Lantern$Moment")) [.ref h, .int 0] [pastO h ma cnt, arrM E.2.2 ma ad] (some .null) [pastO h ma cnt, arrM E.2.2 ma ad] := by
  refine Ct.of [some (.ref h), some (.int 0)] (by decide +kernel) rfl (Nat.le_of_ble_eq_true rfl) (fun F hE hF hR hN => ?_)
  subst hE
  refine g_iload_n hF dX1_ago_0 rfl ?_
  refine g_iconst (v := (1)) hF dX1_ago_1 rfl ?_
  refine g_icmp_lt (tgt := 36) hF dX1_ago_2 (by decide) (fun c_2 => ?_) (fun c_2 => absurd (by decide) c_2)
  refine g_null hF dX1_ago_36 ?_
  exact g_aret hF hR (Or.inl ⟨_, rfl⟩) (Or.inl rfl) dX1_ago_37 ⟨rfl, rfl⟩
set_option maxHeartbeats 4000000 in
set_option maxRecDepth 100000 in
theorem c_Past_stepAt {E : Env3} {h ma cnt : Nat} {ad : Nat → Nat} {M : Nat → Nat → Int32} {j : Nat} (hc : cnt ≤ 200) (h1 : j < cnt)  : Cd E none 1 yX1_stepAt cX1_stepAt 3 (some .int) [.ref h, .int (nI j)] [pastO h ma cnt, arrM E.2.2 ma ad, momsW ad M] (some (.int (M j 0))) [pastO h ma cnt, arrM E.2.2 ma ad, momsW ad M] := by
  refine Ct.of [some (.ref h), some (.int (nI j)), none] (by decide +kernel) rfl (Nat.le_of_ble_eq_true rfl) (fun F hE hF hR hN => ?_)
  subst hE
  refine g_aload_n hF dX1_stepAt_0 rfl ?_
  refine g_aload_n hF dX1_stepAt_1 rfl ?_
  refine g_get (j := 2) hF 0 rfl rfl (by decide) rfl m_169 rfl dX1_stepAt_2 ?_
  refine g_iload_n hF dX1_stepAt_5 rfl ?_
  refine g_isub hF dX1_stepAt_6 ?_
  rw [pk_sub (show j ≤ cnt by omega)]
  refine g_callVq hF (c_Past_ago (cnt := cnt) (j := cnt - j) (by omega) (by omega) (by omega)) cal_X1_ago rfl m_685 (by decide) (Or.inl rfl) (Nat.zero_le _) (Nat.zero_le _) 0 rfl rfl [0, 1] rfl rfl rfl (Nat.le_of_ble_eq_true rfl) dX1_stepAt_7 ?_
  rw [show cnt - (cnt - j) = j by omega]
  refine g_astore_n hF dX1_stepAt_10 (Nat.le_of_ble_eq_true rfl) rfl ?_
  refine g_aload_n hF dX1_stepAt_11 rfl ?_
  refine g_ifnonnull (tgt := 19) hF dX1_stepAt_12 (by decide) ?_
  refine g_aload_n hF dX1_stepAt_19 rfl ?_
  refine g_regroup (gs' := [pastO h ma cnt, arrM F.1.2.2 ma ad, momsR ad M 0 (j), momO (ad (j)) (M j), momsR ad M (j + 1) (199 - (j))]) (by simp only [List.flatten_cons, List.flatten_nil, mom_split (show j < 200 by omega), List.append_assoc, List.append_nil]) ?_
  refine g_getN (j := 0) hF 3 rfl rfl (by decide) rfl m_123 rfl dX1_stepAt_20 ?_
  refine g_regroup (gs' := [pastO h ma cnt, arrM F.1.2.2 ma ad, momsW ad M]) (by simp only [List.flatten_cons, List.flatten_nil, mom_split (show j < 200 by omega), List.append_assoc, List.append_nil]) ?_
  exact g_iret hF hR dX1_stepAt_23 ⟨rfl, rfl⟩
theorem g_forget1 {F : Fix} {k n pc : Nat} {gs : List va_W} {lv : List (Option Value)} {st : List Value} (j : Nat) (kk : G F k n gs pc (lv.set j none) st) : G F k n gs pc lv st := by
  refine g_forget (lv' := lv.set j none) (by rw [List.length_set]) (fun i v h => ?_) kk
  by_cases e : i = j
  · subst e
    by_cases hl : i < lv.length
    · rw [List.getElem?_set_self hl] at h; cases h
    · rw [List.getElem?_eq_none (by rw [List.length_set]; omega)] at h; cases h
  · rwa [List.getElem?_set_ne (Ne.symm e)] at h
theorem stepsF_succ (M : Nat → Nat → Int32) (f : Nat → Int32) (i : Nat) : upd (stepsF M f i) i (M i 0) = stepsF M f (i + 1) := by
  funext j
  unfold upd stepsF
  by_cases h : j = i
  · simp [h]
  · by_cases h2 : j < i
    · simp [h, h2, show j < i + 1 by omega]
    · simp [h, h2, show ¬ j < i + 1 by omega]
theorem stepsF_0 (M : Nat → Nat → Int32) (f : Nat → Int32) : stepsF M f 0 = f := by funext j; simp [stepsF]
set_option maxHeartbeats 4000000 in
set_option maxRecDepth 100000 in
theorem c_Past_cellAgo {E : Env3} {h ma cnt : Nat} {ad : Nat → Nat} {M : Nat → Nat → Int32} {c now : Int32} {g : Nat} (hc : cnt ≤ 200) (hg : g ≤ cnt)  : Cd E none 1 yX1_cellAgo cX1_cellAgo 7 (some .int) [.ref h, .int c, .int (nI g), .int now] [pastO h ma cnt, arrM E.2.2 ma ad, momsW ad M] (some (.int (cellAgoF M cnt c g now))) [pastO h ma cnt, arrM E.2.2 ma ad, momsW ad M] := by
  refine Ct.of [some (.ref h), some (.int c), some (.int (nI g)), some (.int now), none, none, none] (by decide +kernel) rfl (Nat.le_of_ble_eq_true rfl) (fun F hE hF hR hN => ?_)
  subst hE
  have loop : ∀ i, i ≤ g → G F 0 0 [pastO h ma cnt, arrM F.1.2.2 ma ad, momsW ad M] 6 [some (.ref h), some (.int c), some (.int (nI g)), some (.int now), some (.int (cellAgoF M cnt c i now)), some (.int (nI (i + 1))), none] [] := by
    refine up_loop (Q := fun i => G F 0 0 [pastO h ma cnt, arrM F.1.2.2 ma ad, momsW ad M] 6 [some (.ref h), some (.int c), some (.int (nI g)), some (.int now), some (.int (cellAgoF M cnt c i now)), some (.int (nI (i + 1))), none] []) ?_ (fun i hi ih => ?_)
    · refine g_iload hF dX1_cellAgo_6 rfl ?_
      refine g_iload_n hF dX1_cellAgo_8 rfl ?_
      refine g_icmp_gt (tgt := 47) hF dX1_cellAgo_9 (by decide) (fun c_9 => ?_) (fun c_9 => absurd ((nI_ltI (by omega) (by omega)).mpr (Nat.lt_succ_self g)) c_9)
      refine g_iload hF dX1_cellAgo_47 rfl ?_
      exact g_iret hF hR dX1_cellAgo_49 ⟨rfl, rfl⟩
    · refine g_iload hF dX1_cellAgo_6 rfl ?_
      refine g_iload_n hF dX1_cellAgo_8 rfl ?_
      refine g_icmp_gt (tgt := 47) hF dX1_cellAgo_9 (by decide) (fun c_9 => absurd c_9 (fun y => absurd ((nI_ltI (a := g) (b := i + 1) (by omega) (by omega)).mp y) (by omega))) (fun c_9 => ?_)
      refine g_aload_n hF dX1_cellAgo_12 rfl ?_
      refine g_iload hF dX1_cellAgo_13 rfl ?_
      refine g_callVq hF (c_Past_ago (cnt := cnt) (j := (i + 1)) (by omega) (by omega) (by omega)) cal_X1_ago rfl m_685 (by decide) (Or.inl rfl) (Nat.zero_le _) (Nat.zero_le _) 0 rfl rfl [0, 1] rfl rfl rfl (Nat.le_of_ble_eq_true rfl) dX1_cellAgo_15 ?_
      refine g_astore hF dX1_cellAgo_18 (Nat.le_of_ble_eq_true rfl) rfl ?_
      refine g_aload hF dX1_cellAgo_20 rfl ?_
      refine g_ifnull hF dX1_cellAgo_22 ?_
      refine g_regroup (gs' := [pastO h ma cnt, arrM F.1.2.2 ma ad, momsR ad M 0 (cnt - (i + 1)), momO (ad (cnt - (i + 1))) (M (cnt - (i + 1))), momsR ad M (cnt - (i + 1) + 1) (199 - (cnt - (i + 1)))]) (by simp only [List.flatten_cons, List.flatten_nil, mom_split (show cnt - (i + 1) < 200 by omega), List.append_assoc, List.append_nil]) ?_
      refine g_aload hF dX1_cellAgo_25 rfl ?_
      refine g_getN (j := 8) hF 3 rfl rfl (by decide) rfl m_137 rfl dX1_cellAgo_27 ?_
      refine g_iload_n hF dX1_cellAgo_30 rfl ?_
      refine g_icmp_ne (tgt := 41) hF dX1_cellAgo_31 (by decide) (fun c_31 => ?_) (fun c_31 => ?_)
      · refine g_iinc (v := nI (i + 1 + 1)) hF dX1_cellAgo_41 rfl (nI_1 (i + 1)) rfl ?_
        refine g_goto (tgt := 6) hF dX1_cellAgo_44 (by decide) ?_
        refine g_forget1 6 ?_
        try dsimp only [gput, gputA, List.set, stGs, List.cons_append, List.nil_append]
        refine g_regroup (gs' := [pastO h ma cnt, arrM F.1.2.2 ma ad, momsW ad M]) (by simp only [List.flatten_cons, List.flatten_nil, mom_split (show cnt - (i + 1) < 200 by omega), List.append_assoc, List.append_nil]) ?_
        have e : cellAgoF M cnt c (i + 1) now = cellAgoF M cnt c i now := if_neg c_31
        rw [e] at ih
        exact ih
      · refine g_aload hF dX1_cellAgo_34 rfl ?_
        refine g_getN (j := 9) hF 3 rfl rfl (by decide) rfl m_140 rfl dX1_cellAgo_36 ?_
        refine g_istore hF dX1_cellAgo_39 (Nat.le_of_ble_eq_true rfl) rfl ?_
        refine g_iinc (v := nI (i + 1 + 1)) hF dX1_cellAgo_41 rfl (nI_1 (i + 1)) rfl ?_
        refine g_goto (tgt := 6) hF dX1_cellAgo_44 (by decide) ?_
        refine g_forget1 6 ?_
        try dsimp only [gput, gputA, List.set, stGs, List.cons_append, List.nil_append]
        refine g_regroup (gs' := [pastO h ma cnt, arrM F.1.2.2 ma ad, momsW ad M]) (by simp only [List.flatten_cons, List.flatten_nil, mom_split (show cnt - (i + 1) < 200 by omega), List.append_assoc, List.append_nil]) ?_
        have e : cellAgoF M cnt c (i + 1) now = M (cnt - (i + 1)) 9 := if_pos c_31
        rw [e] at ih
        exact ih
  refine g_iload_n hF dX1_cellAgo_0 rfl ?_
  refine g_istore hF dX1_cellAgo_1 (Nat.le_of_ble_eq_true rfl) rfl ?_
  refine g_iconst (v := (1)) hF dX1_cellAgo_3 rfl ?_
  refine g_istore hF dX1_cellAgo_4 (Nat.le_of_ble_eq_true rfl) rfl ?_
  exact loop 0 (Nat.zero_le _)
set_option maxHeartbeats 4000000 in
set_option maxRecDepth 100000 in
theorem c_Past_storedAgo {E : Env3} {h ma cnt : Nat} {ad : Nat → Nat} {M : Nat → Nat → Int32} {c : Int32} (hc : cnt ≤ 200)  : Cd E none 1 yX1_storedAgo cX1_storedAgo 4 (some .int) [.ref h, .int c] [pastO h ma cnt, arrM E.2.2 ma ad, momsW ad M] (some (.int (storedD M cnt c cnt))) [pastO h ma cnt, arrM E.2.2 ma ad, momsW ad M] := by
  refine Ct.of [some (.ref h), some (.int c), none, none] (by decide +kernel) rfl (Nat.le_of_ble_eq_true rfl) (fun F hE hF hR hN => ?_)
  subst hE
  have loop : ∀ i, i ≤ cnt → (storedD M cnt c cnt = storedD M cnt c (cnt - i)) → G F 0 0 [pastO h ma cnt, arrM F.1.2.2 ma ad, momsW ad M] 2 [some (.ref h), some (.int c), some (.int (nI (i + 1))), none] [] := by
    refine up_loop (Q := fun i => (storedD M cnt c cnt = storedD M cnt c (cnt - i)) → G F 0 0 [pastO h ma cnt, arrM F.1.2.2 ma ad, momsW ad M] 2 [some (.ref h), some (.int c), some (.int (nI (i + 1))), none] []) ?_ (fun i hi ih => ?_)
    · intro hq
      refine g_iload_n hF dX1_storedAgo_2 rfl ?_
      refine g_aload_n hF dX1_storedAgo_3 rfl ?_
      refine g_get (j := 2) hF 0 rfl rfl (by decide) rfl m_169 rfl dX1_storedAgo_4 ?_
      refine g_icmp_gt (tgt := 36) hF dX1_storedAgo_7 (by decide) (fun c_7 => ?_) (fun c_7 => absurd ((nI_ltI (by omega) (by omega)).mpr (Nat.lt_succ_self cnt)) c_7)
      refine g_iconst (v := (0)) hF dX1_storedAgo_36 rfl ?_
      exact g_iret hF hR dX1_storedAgo_37 ⟨by rw [hq, Nat.sub_self]; rfl, rfl⟩
    · intro hq
      refine g_iload_n hF dX1_storedAgo_2 rfl ?_
      refine g_aload_n hF dX1_storedAgo_3 rfl ?_
      refine g_get (j := 2) hF 0 rfl rfl (by decide) rfl m_169 rfl dX1_storedAgo_4 ?_
      refine g_icmp_gt (tgt := 36) hF dX1_storedAgo_7 (by decide) (fun c_7 => absurd c_7 (fun y => absurd ((nI_ltI (a := cnt) (b := i + 1) (by omega) (by omega)).mp y) (by omega))) (fun c_7 => ?_)
      refine g_aload_n hF dX1_storedAgo_10 rfl ?_
      refine g_iload_n hF dX1_storedAgo_11 rfl ?_
      refine g_callVq hF (c_Past_ago (cnt := cnt) (j := (i + 1)) (by omega) (by omega) (by omega)) cal_X1_ago rfl m_685 (by decide) (Or.inl rfl) (Nat.zero_le _) (Nat.zero_le _) 0 rfl rfl [0, 1] rfl rfl rfl (Nat.le_of_ble_eq_true rfl) dX1_storedAgo_12 ?_
      refine g_astore_n hF dX1_storedAgo_15 (Nat.le_of_ble_eq_true rfl) rfl ?_
      refine g_aload_n hF dX1_storedAgo_16 rfl ?_
      refine g_ifnull hF dX1_storedAgo_17 ?_
      refine g_regroup (gs' := [pastO h ma cnt, arrM F.1.2.2 ma ad, momsR ad M 0 (cnt - (i + 1)), momO (ad (cnt - (i + 1))) (M (cnt - (i + 1))), momsR ad M (cnt - (i + 1) + 1) (199 - (cnt - (i + 1)))]) (by simp only [List.flatten_cons, List.flatten_nil, mom_split (show cnt - (i + 1) < 200 by omega), List.append_assoc, List.append_nil]) ?_
      refine g_aload_n hF dX1_storedAgo_20 rfl ?_
      refine g_getN (j := 8) hF 3 rfl rfl (by decide) rfl m_137 rfl dX1_storedAgo_21 ?_
      refine g_iload_n hF dX1_storedAgo_24 rfl ?_
      refine g_icmp_ne (tgt := 30) hF dX1_storedAgo_25 (by decide) (fun c_25 => ?_) (fun c_25 => ?_)
      · refine g_iinc (v := nI (i + 1 + 1)) hF dX1_storedAgo_30 rfl (nI_1 (i + 1)) rfl ?_
        refine g_goto (tgt := 2) hF dX1_storedAgo_33 (by decide) ?_
        refine g_forget1 3 ?_
        try dsimp only [gput, gputA, List.set, stGs, List.cons_append, List.nil_append]
        refine g_regroup (gs' := [pastO h ma cnt, arrM F.1.2.2 ma ad, momsW ad M]) (by simp only [List.flatten_cons, List.flatten_nil, mom_split (show cnt - (i + 1) < 200 by omega), List.append_assoc, List.append_nil]) ?_
        exact ih (by rw [hq]; have e : storedD M cnt c (cnt - i) = if M (cnt - (i + 1)) 8 = c then nI (cnt - (cnt - (i + 1))) else storedD M cnt c (cnt - (i + 1)) := (by rw [show cnt - i = cnt - (i + 1) + 1 by omega] <;> rfl); rw [e, if_neg c_25])
      · refine g_iload_n hF dX1_storedAgo_28 rfl ?_
        refine g_regroup (gs' := [pastO h ma cnt, arrM F.1.2.2 ma ad, momsW ad M]) (by simp only [List.flatten_cons, List.flatten_nil, mom_split (show cnt - (i + 1) < 200 by omega), List.append_assoc, List.append_nil]) ?_
        exact g_iret hF hR dX1_storedAgo_29 ⟨by rw [hq]; have e : storedD M cnt c (cnt - i) = if M (cnt - (i + 1)) 8 = c then nI (cnt - (cnt - (i + 1))) else storedD M cnt c (cnt - (i + 1)) := (by rw [show cnt - i = cnt - (i + 1) + 1 by omega] <;> rfl); rw [e, if_pos c_25, show cnt - (cnt - (i + 1)) = i + 1 by omega], rfl⟩
  refine g_iconst (v := (1)) hF dX1_storedAgo_0 rfl ?_
  refine g_istore_n hF dX1_storedAgo_1 (Nat.le_of_ble_eq_true rfl) rfl ?_
  exact loop 0 (Nat.zero_le _) rfl
set_option maxHeartbeats 4000000 in
set_option maxRecDepth 100000 in
theorem c_Past_writeSteps {E : Env3} {h ma cnt : Nat} {ad : Nat → Nat} {M : Nat → Nat → Int32} {rs as ns : Nat} {fs : Nat → Int32} (hc : cnt ≤ 200)  : Cd E none 2 yX1_writeSteps cX1_writeSteps 3 none [.ref h, .ref rs] [pastO h ma cnt, arrM E.2.2 ma ad, momsW ad M, rowW E.2.2 rs as 200 fs ns] none [pastO h ma cnt, arrM E.2.2 ma ad, momsW ad M, rowW E.2.2 rs as 200 (stepsF M fs cnt) cnt] := by
  refine Ct.of [some (.ref h), some (.ref rs), none] (by decide +kernel) rfl (Nat.le_of_ble_eq_true rfl) (fun F hE hF hR hN => ?_)
  subst hE
  refine g_regroup (gs' := [pastO h ma cnt, arrM F.1.2.2 ma ad, momsW ad M, rowW F.1.2.2 rs as 200 (stepsF M fs 0) ns]) (by rw [stepsF_0]) ?_
  have loop : ∀ i, i ≤ cnt → G F 0 0 [pastO h ma cnt, arrM F.1.2.2 ma ad, momsW ad M, rowW F.1.2.2 rs as 200 (stepsF M fs i) i] 7 [some (.ref h), some (.ref rs), some (.int (nI i))] [] := by
    refine up_loop (Q := fun i => G F 0 0 [pastO h ma cnt, arrM F.1.2.2 ma ad, momsW ad M, rowW F.1.2.2 rs as 200 (stepsF M fs i) i] 7 [some (.ref h), some (.ref rs), some (.int (nI i))] []) ?_ (fun i hi ih => ?_)
    · refine g_iload_n hF dX1_writeSteps_7 rfl ?_
      refine g_aload_n hF dX1_writeSteps_8 rfl ?_
      refine g_get (j := 2) hF 0 rfl rfl (by decide) rfl m_169 rfl dX1_writeSteps_9 ?_
      refine g_icmp_ge (tgt := 30) hF dX1_writeSteps_12 (by decide) (fun c_12 => ?_) (fun c_12 => absurd (nI_le (Nat.le_refl cnt) (by omega)) c_12)
      exact g_vret hF hR dX1_writeSteps_30 ⟨rfl, rfl⟩
    · refine g_iload_n hF dX1_writeSteps_7 rfl ?_
      refine g_aload_n hF dX1_writeSteps_8 rfl ?_
      refine g_get (j := 2) hF 0 rfl rfl (by decide) rfl m_169 rfl dX1_writeSteps_9 ?_
      refine g_icmp_ge (tgt := 30) hF dX1_writeSteps_12 (by decide) (fun c_12 => absurd c_12 (nI_ge hi (by omega))) (fun c_12 => ?_)
      refine g_aload_n hF dX1_writeSteps_15 rfl ?_
      refine g_aload_n hF dX1_writeSteps_16 rfl ?_
      refine g_iload_n hF dX1_writeSteps_17 rfl ?_
      refine g_callVq hF (c_Past_stepAt (by omega) (by omega)) cal_X1_stepAt rfl m_729 (by decide) (Or.inl rfl) (Nat.zero_le _) (Nat.zero_le _) 0 rfl rfl [0, 1, 2] rfl rfl rfl (Nat.le_of_ble_eq_true rfl) dX1_writeSteps_18 ?_
      refine g_callVd hF (c_Row_push (by first | omega | exact clampI_le | (split <;> omega)) (by omega)) cal_X4_push rfl m_733 (by decide) (Or.inl rfl) (Nat.zero_le _) (Nat.zero_le _) 3 rfl rfl [3] rfl rfl (Nat.le_of_ble_eq_true rfl) rfl (Nat.le_of_ble_eq_true rfl) dX1_writeSteps_21 ?_
      try dsimp only [gput, gputA, List.set, stGs, List.cons_append, List.nil_append]
      rw [if_pos (show i < 200 by omega), if_pos (show i < 200 by omega), stepsF_succ]
      refine g_iinc (v := nI (i + 1)) hF dX1_writeSteps_24 rfl (nI_1 i) rfl ?_
      refine g_goto (tgt := 7) hF dX1_writeSteps_27 (by decide) ?_
      exact ih
  refine g_aload_n hF dX1_writeSteps_0 rfl ?_
  refine g_iconst (v := (0)) hF dX1_writeSteps_1 rfl ?_
  refine g_callVd hF (c_Row_resize (by omega)) cal_X4_resize rfl m_728 (by decide) (Or.inl rfl) (Nat.zero_le _) (Nat.zero_le _) 3 rfl rfl [3] rfl rfl (Nat.le_of_ble_eq_true rfl) rfl (Nat.le_of_ble_eq_true rfl) dX1_writeSteps_2 ?_
  try dsimp only [gput, gputA, List.set, stGs, List.cons_append, List.nil_append]
  rw [show clampI 0 200 = 0 from rfl]
  refine g_iconst (v := (0)) hF dX1_writeSteps_5 rfl ?_
  refine g_istore_n hF dX1_writeSteps_6 (Nat.le_of_ble_eq_true rfl) rfl ?_
  exact loop 0 (Nat.zero_le _)
theorem rowGet_nI {f : Nat → Int32} {n i : Nat} (hi : i < n) (hn : n < 2 ^ 31) : rowGet f n (nI i) = f i := by
  unfold rowGet
  rw [if_neg (nI_pos (by omega)), if_neg (nI_ge hi (by omega)), nI_clamp (by omega)]
set_option maxHeartbeats 4000000 in
set_option maxRecDepth 100000 in
theorem c_Past_firstOther {E : Env3} {h ma cnt : Nat} {ad : Nat → Nat} {M : Nat → Nat → Int32} {rs as : Nat} {fs : Nat → Int32} (hc : cnt ≤ 200) (hsame : ∀ i, i < cnt → fs i = M i 0)  : Cd E none 2 yX1_firstOther cX1_firstOther 4 (some .int) [.ref h, .ref rs] [pastO h ma cnt, arrM E.2.2 ma ad, momsW ad M, rowW E.2.2 rs as 200 fs cnt] (some (.int (-1))) [pastO h ma cnt, arrM E.2.2 ma ad, momsW ad M, rowW E.2.2 rs as 200 fs cnt] := by
  refine Ct.of [some (.ref h), some (.ref rs), none, none] (by decide +kernel) rfl (Nat.le_of_ble_eq_true rfl) (fun F hE hF hR hN => ?_)
  subst hE
  have loop : ∀ i, i ≤ cnt → G F 0 0 [pastO h ma cnt, arrM F.1.2.2 ma ad, momsW ad M, rowW F.1.2.2 rs as 200 fs cnt] 14 [some (.ref h), some (.ref rs), some (.int (nI cnt)), some (.int (nI i))] [] := by
    refine up_loop (Q := fun i => G F 0 0 [pastO h ma cnt, arrM F.1.2.2 ma ad, momsW ad M, rowW F.1.2.2 rs as 200 fs cnt] 14 [some (.ref h), some (.ref rs), some (.int (nI cnt)), some (.int (nI i))] []) ?_ (fun i hi ih => ?_)
    · refine g_iload_n hF dX1_firstOther_14 rfl ?_
      refine g_iload_n hF dX1_firstOther_15 rfl ?_
      refine g_icmp_ge (tgt := 40) hF dX1_firstOther_16 (by decide) (fun c_16 => ?_) (fun c_16 => absurd (nI_le (Nat.le_refl cnt) (by omega)) c_16)
      refine g_iconst (v := (-1)) hF dX1_firstOther_40 rfl ?_
      exact g_iret hF hR dX1_firstOther_41 ⟨rfl, rfl⟩
    · refine g_iload_n hF dX1_firstOther_14 rfl ?_
      refine g_iload_n hF dX1_firstOther_15 rfl ?_
      refine g_icmp_ge (tgt := 40) hF dX1_firstOther_16 (by decide) (fun c_16 => absurd c_16 (nI_ge hi (by omega))) (fun c_16 => ?_)
      refine g_aload_n hF dX1_firstOther_19 rfl ?_
      refine g_iload_n hF dX1_firstOther_20 rfl ?_
      refine g_callVq hF (c_Past_stepAt (by omega) (by omega)) cal_X1_stepAt rfl m_729 (by decide) (Or.inl rfl) (Nat.zero_le _) (Nat.zero_le _) 0 rfl rfl [0, 1, 2] rfl rfl rfl (Nat.le_of_ble_eq_true rfl) dX1_firstOther_21 ?_
      refine g_aload_n hF dX1_firstOther_24 rfl ?_
      refine g_iload_n hF dX1_firstOther_25 rfl ?_
      refine g_callVq hF (c_Row_get (by first | omega | exact clampI_le | (split <;> omega)) (by omega)) cal_X4_get rfl m_750 (by decide) (Or.inl rfl) (Nat.zero_le _) (Nat.zero_le _) 3 rfl rfl [3] rfl rfl rfl (Nat.le_of_ble_eq_true rfl) dX1_firstOther_26 ?_
      refine g_icmp_eq (tgt := 34) hF dX1_firstOther_29 (by decide) (fun c_29 => ?_) (fun c_29 => absurd (show M i 0 = rowGet fs cnt (nI i) from by rw [rowGet_nI hi (by omega)]; exact (hsame i hi).symm) c_29)
      refine g_iinc (v := nI (i + 1)) hF dX1_firstOther_34 rfl (nI_1 i) rfl ?_
      refine g_goto (tgt := 14) hF dX1_firstOther_37 (by decide) ?_
      exact ih
  refine g_aload_n hF dX1_firstOther_0 rfl ?_
  refine g_get (j := 2) hF 0 rfl rfl (by decide) rfl m_169 rfl dX1_firstOther_1 ?_
  refine g_aload_n hF dX1_firstOther_4 rfl ?_
  refine g_callVq hF (c_Row_size) cal_X4_size rfl m_748 (by decide) (Or.inl rfl) (Nat.zero_le _) (Nat.zero_le _) 3 rfl rfl [3] rfl rfl rfl (Nat.le_of_ble_eq_true rfl) dX1_firstOther_5 ?_
  refine g_min hF m_749 m_388 m_4 m_389 (by decide) (Nat.zero_le _) (Nat.zero_le _) (Nat.le_of_ble_eq_true rfl) dX1_firstOther_8 ?_
  rw [if_neg (show ¬ nI cnt < nI cnt from nI_nlt (Nat.le_refl cnt) (by omega))]
  refine g_istore_n hF dX1_firstOther_11 (Nat.le_of_ble_eq_true rfl) rfl ?_
  refine g_iconst (v := (0)) hF dX1_firstOther_12 rfl ?_
  refine g_istore_n hF dX1_firstOther_13 (Nat.le_of_ble_eq_true rfl) rfl ?_
  exact loop 0 (Nat.zero_le _)
