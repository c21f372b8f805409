/-! all that a state tells, as one number -/
def foldS (g : Int64 → Nat → Int64) : Nat → Int64 → Int64
  | 0, d => d
  | n + 1, d => g (foldS g n d) n
def gS1 (reason cause : Int32) (cnt : Nat) (v : SV) : Int64 → Nat → Int64 := fun d i => d * 31 + (toldF reason cause cnt v (nI i)).toInt64
def gS2 (v : SV) : Int64 → Nat → Int64 := fun d i => d * 31 + (topR v.1 (nI i)).toInt64
def gS3 (M : Nat → Nat → Int32) (cnt : Nat) (v : SV) : Int64 → Nat → Int64 := fun d i => d * 31 + (getR v.2.1 (nI i)).toInt64 + (7 * storedD M cnt (nI i) cnt).toInt64
def gS4 (v : SV) : Int64 → Nat → Int64 := fun d i => d * 31 + (topR v.2.2.1 (nI i)).toInt64
def gS5 (v : SV) : Int64 → Nat → Int64 := fun d i => d * 31 + (getR v.2.2.2.1 (nI i)).toInt64
def stateL (reason cause : Int32) (cnt : Nat) (v : SV) (M : Nat → Nat → Int32) : Int64 := foldS (gS5 v) v.2.2.2.1.2 (foldS (gS4 v) v.2.2.1.2 (foldS (gS3 M cnt v) 12 (foldS (gS2 v) v.1.2 (foldS (gS1 reason cause cnt v) 8 7))))
theorem told_3 {r c : Int32} {n : Nat} {v : SV} : toldF r c n v 3 = nI v.1.2 := rfl
theorem told_4 {r c : Int32} {n : Nat} {v : SV} : toldF r c n v 4 = nI v.2.2.1.2 := rfl
theorem told_6 {r c : Int32} {n : Nat} {v : SV} : toldF r c n v 6 = nI v.2.2.2.1.2 := rfl
theorem rowHas_nI {n i : Nat} (hi : i < n) (hn : n < 2 ^ 31) : rowHas n (nI i) = true := by
  unfold rowHas
  rw [decide_eq_false (nI_pos (by omega)), decide_eq_false (nI_ge hi hn)]
  rfl
theorem isCell_nI {i : Nat} (hi : i < 12) : isCellB (nI i) = true := by
  unfold isCellB
  rw [decide_eq_false (nI_pos (by omega)), decide_eq_false (show ¬ (12 : Int32) ≤ nI i from nI_ge hi (by decide))]
  rfl
set_option maxHeartbeats 4000000 in
set_option maxRecDepth 100000 in
theorem c_L_state {E : Env3} {h p ri hp pts wts tps ti ma cnt : Nat} {A : AV} {B : AV} {v : SV} {ad : Nat → Nat} {M : Nat → Nat → Int32} {reason : Int32} {cause : Int32} {pc : Int32} (hv : okS v) (hc : cnt ≤ 200)  : Cd E none 3 yL_state cL_state 4 (some .long) [.ref h] [lanO h p ri A.1 hp pts pc wts tps reason cause B.1 ti, stOv A v, rw1 E.2.2 A v, rw2 E.2.2 A v, rw3 E.2.2 A v, rw4 E.2.2 A v, pastO hp ma cnt, arrM E.2.2 ma ad, momsW ad M] (some (.long (stateL reason cause cnt v M))) [lanO h p ri A.1 hp pts pc wts tps reason cause B.1 ti, stOv A v, rw1 E.2.2 A v, rw2 E.2.2 A v, rw3 E.2.2 A v, rw4 E.2.2 A v, pastO hp ma cnt, arrM E.2.2 ma ad, momsW ad M] := by
  refine Ct.of [some (.ref h), none, none, none] (by decide +kernel) rfl (Nat.le_of_ble_eq_true rfl) (fun F hE hF hR hN => ?_)
  subst hE
  have h1 : v.1.2 ≤ 24 := hv.1
  have h2 : v.2.1.2 ≤ 12 := hv.2.1
  have h3 : v.2.2.1.2 ≤ 8 := hv.2.2.1
  have h4 : v.2.2.2.1.2 ≤ 30 := hv.2.2.2
  have l5 : ∀ i, i ≤ v.2.2.2.1.2 → G F 0 0 [lanO h p ri A.1 hp pts pc wts tps reason cause B.1 ti, stOv A v, rw1 F.1.2.2 A v, rw2 F.1.2.2 A v, rw3 F.1.2.2 A v, rw4 F.1.2.2 A v, pastO hp ma cnt, arrM F.1.2.2 ma ad, momsW ad M] 130 [some (.ref h), some (.long (foldS (gS5 v) i (foldS (gS4 v) v.2.2.1.2 (foldS (gS3 M cnt v) 12 (foldS (gS2 v) v.1.2 (foldS (gS1 reason cause cnt v) 8 7)))))), none, some (.int (nI i))] [] := by
    refine up_loop (Q := fun i => G F 0 0 [lanO h p ri A.1 hp pts pc wts tps reason cause B.1 ti, stOv A v, rw1 F.1.2.2 A v, rw2 F.1.2.2 A v, rw3 F.1.2.2 A v, rw4 F.1.2.2 A v, pastO hp ma cnt, arrM F.1.2.2 ma ad, momsW ad M] 130 [some (.ref h), some (.long (foldS (gS5 v) i (foldS (gS4 v) v.2.2.1.2 (foldS (gS3 M cnt v) 12 (foldS (gS2 v) v.1.2 (foldS (gS1 reason cause cnt v) 8 7)))))), none, some (.int (nI i))] []) ?_ (fun i hi ih => ?_)
    · refine g_iload_n hF dL_state_130 rfl ?_
      refine g_aload_n hF dL_state_131 rfl ?_
      refine g_bipush (v := (6)) hF dL_state_132 rfl ?_
      refine g_callVq hF (c_told (by decide) (by decide)) cal_X8_told rfl m_617 (by decide) (Or.inl rfl) (Nat.zero_le _) (Nat.zero_le _) 0 rfl rfl [0, 1, 2, 4, 5, 6] rfl rfl rfl (Nat.le_of_ble_eq_true rfl) dL_state_134 ?_
      rw [told_6]
      refine g_icmp_ge (tgt := 159) hF dL_state_137 (by decide) (fun c_137 => ?_) (fun c_137 => absurd (nI_le (Nat.le_refl _) (by omega)) c_137)
      refine g_lload_n hF dL_state_159 rfl ?_
      exact g_lret hF hR dL_state_160 ⟨rfl, rfl⟩
    · refine g_iload_n hF dL_state_130 rfl ?_
      refine g_aload_n hF dL_state_131 rfl ?_
      refine g_bipush (v := (6)) hF dL_state_132 rfl ?_
      refine g_callVq hF (c_told (by decide) (by decide)) cal_X8_told rfl m_617 (by decide) (Or.inl rfl) (Nat.zero_le _) (Nat.zero_le _) 0 rfl rfl [0, 1, 2, 4, 5, 6] rfl rfl rfl (Nat.le_of_ble_eq_true rfl) dL_state_134 ?_
      rw [told_6]
      refine g_icmp_ge (tgt := 159) hF dL_state_137 (by decide) (fun c_137 => absurd c_137 (nI_ge hi (by omega))) (fun c_137 => ?_)
      refine g_lload_n hF dL_state_140 rfl ?_
      refine g_ldc2 hF m_847 dL_state_141 ?_
      refine g_lmul hF dL_state_144 ?_
      refine g_aload_n hF dL_state_145 rfl ?_
      refine g_iload_n hF dL_state_146 rfl ?_
      refine g_callVq hF (c_output h4 (rowHas_nI hi (by omega))) cal_X8_output rfl m_853 (by decide) (Or.inl rfl) (Nat.zero_le _) (Nat.zero_le _) 0 rfl rfl [0, 1, 5] rfl rfl rfl (Nat.le_of_ble_eq_true rfl) dL_state_147 ?_
      refine g_i2l hF dL_state_150 ?_
      refine g_ladd hF dL_state_151 ?_
      refine g_lstore_n hF dL_state_152 (Nat.le_of_ble_eq_true rfl) rfl ?_
      refine g_iinc (v := nI (i + 1)) hF dL_state_153 rfl (nI_1 i) rfl ?_
      refine g_goto (tgt := 130) hF dL_state_156 (by decide) ?_
      exact ih
  have l4 : ∀ i, i ≤ v.2.2.1.2 → G F 0 0 [lanO h p ri A.1 hp pts pc wts tps reason cause B.1 ti, stOv A v, rw1 F.1.2.2 A v, rw2 F.1.2.2 A v, rw3 F.1.2.2 A v, rw4 F.1.2.2 A v, pastO hp ma cnt, arrM F.1.2.2 ma ad, momsW ad M] 100 [some (.ref h), some (.long (foldS (gS4 v) i (foldS (gS3 M cnt v) 12 (foldS (gS2 v) v.1.2 (foldS (gS1 reason cause cnt v) 8 7))))), none, some (.int (nI i))] [] := by
    refine up_loop (Q := fun i => G F 0 0 [lanO h p ri A.1 hp pts pc wts tps reason cause B.1 ti, stOv A v, rw1 F.1.2.2 A v, rw2 F.1.2.2 A v, rw3 F.1.2.2 A v, rw4 F.1.2.2 A v, pastO hp ma cnt, arrM F.1.2.2 ma ad, momsW ad M] 100 [some (.ref h), some (.long (foldS (gS4 v) i (foldS (gS3 M cnt v) 12 (foldS (gS2 v) v.1.2 (foldS (gS1 reason cause cnt v) 8 7))))), none, some (.int (nI i))] []) ?_ (fun i hi ih => ?_)
    · refine g_iload_n hF dL_state_100 rfl ?_
      refine g_aload_n hF dL_state_101 rfl ?_
      refine g_iconst (v := (4)) hF dL_state_102 rfl ?_
      refine g_callVq hF (c_told (by decide) (by decide)) cal_X8_told rfl m_617 (by decide) (Or.inl rfl) (Nat.zero_le _) (Nat.zero_le _) 0 rfl rfl [0, 1, 2, 4, 5, 6] rfl rfl rfl (Nat.le_of_ble_eq_true rfl) dL_state_103 ?_
      rw [told_4]
      refine g_icmp_ge (tgt := 128) hF dL_state_106 (by decide) (fun c_106 => ?_) (fun c_106 => absurd (nI_le (Nat.le_refl _) (by omega)) c_106)
      refine g_iconst (v := (0)) hF dL_state_128 rfl ?_
      refine g_istore_n hF dL_state_129 (Nat.le_of_ble_eq_true rfl) rfl ?_
      exact l5 0 (Nat.zero_le _)
    · refine g_iload_n hF dL_state_100 rfl ?_
      refine g_aload_n hF dL_state_101 rfl ?_
      refine g_iconst (v := (4)) hF dL_state_102 rfl ?_
      refine g_callVq hF (c_told (by decide) (by decide)) cal_X8_told rfl m_617 (by decide) (Or.inl rfl) (Nat.zero_le _) (Nat.zero_le _) 0 rfl rfl [0, 1, 2, 4, 5, 6] rfl rfl rfl (Nat.le_of_ble_eq_true rfl) dL_state_103 ?_
      rw [told_4]
      refine g_icmp_ge (tgt := 128) hF dL_state_106 (by decide) (fun c_106 => absurd c_106 (nI_ge hi (by omega))) (fun c_106 => ?_)
      refine g_lload_n hF dL_state_109 rfl ?_
      refine g_ldc2 hF m_847 dL_state_110 ?_
      refine g_lmul hF dL_state_113 ?_
      refine g_aload_n hF dL_state_114 rfl ?_
      refine g_iload_n hF dL_state_115 rfl ?_
      refine g_callVq hF (c_frame h3 (rowHas_nI hi (by omega))) cal_X8_frame rfl m_848 (by decide) (Or.inl rfl) (Nat.zero_le _) (Nat.zero_le _) 0 rfl rfl [0, 1, 4] rfl rfl rfl (Nat.le_of_ble_eq_true rfl) dL_state_116 ?_
      refine g_i2l hF dL_state_119 ?_
      refine g_ladd hF dL_state_120 ?_
      refine g_lstore_n hF dL_state_121 (Nat.le_of_ble_eq_true rfl) rfl ?_
      refine g_iinc (v := nI (i + 1)) hF dL_state_122 rfl (nI_1 i) rfl ?_
      refine g_goto (tgt := 100) hF dL_state_125 (by decide) ?_
      exact ih
  have l3 : ∀ i, i ≤ 12 → G F 0 0 [lanO h p ri A.1 hp pts pc wts tps reason cause B.1 ti, stOv A v, rw1 F.1.2.2 A v, rw2 F.1.2.2 A v, rw3 F.1.2.2 A v, rw4 F.1.2.2 A v, pastO hp ma cnt, arrM F.1.2.2 ma ad, momsW ad M] 63 [some (.ref h), some (.long (foldS (gS3 M cnt v) i (foldS (gS2 v) v.1.2 (foldS (gS1 reason cause cnt v) 8 7)))), none, some (.int (nI i))] [] := by
    refine up_loop (Q := fun i => G F 0 0 [lanO h p ri A.1 hp pts pc wts tps reason cause B.1 ti, stOv A v, rw1 F.1.2.2 A v, rw2 F.1.2.2 A v, rw3 F.1.2.2 A v, rw4 F.1.2.2 A v, pastO hp ma cnt, arrM F.1.2.2 ma ad, momsW ad M] 63 [some (.ref h), some (.long (foldS (gS3 M cnt v) i (foldS (gS2 v) v.1.2 (foldS (gS1 reason cause cnt v) 8 7)))), none, some (.int (nI i))] []) ?_ (fun i hi ih => ?_)
    · refine g_iload_n hF dL_state_63 rfl ?_
      refine g_bipush (v := (12)) hF dL_state_64 rfl ?_
      refine g_icmp_ge (tgt := 98) hF dL_state_66 (by decide) (fun c_66 => ?_) (fun c_66 => absurd (nI_le (Nat.le_refl 12) (by decide)) c_66)
      refine g_iconst (v := (0)) hF dL_state_98 rfl ?_
      refine g_istore_n hF dL_state_99 (Nat.le_of_ble_eq_true rfl) rfl ?_
      exact l4 0 (Nat.zero_le _)
    · refine g_iload_n hF dL_state_63 rfl ?_
      refine g_bipush (v := (12)) hF dL_state_64 rfl ?_
      refine g_icmp_ge (tgt := 98) hF dL_state_66 (by decide) (fun c_66 => absurd c_66 (nI_ge hi (by decide))) (fun c_66 => ?_)
      refine g_lload_n hF dL_state_69 rfl ?_
      refine g_ldc2 hF m_847 dL_state_70 ?_
      refine g_lmul hF dL_state_73 ?_
      refine g_aload_n hF dL_state_74 rfl ?_
      refine g_iload_n hF dL_state_75 rfl ?_
      refine g_callVq hF (c_cell h2 (isCell_nI hi)) cal_X8_cell rfl m_648 (by decide) (Or.inl rfl) (Nat.zero_le _) (Nat.zero_le _) 0 rfl rfl [0, 1, 3] rfl rfl rfl (Nat.le_of_ble_eq_true rfl) dL_state_76 ?_
      refine g_i2l hF dL_state_79 ?_
      refine g_ladd hF dL_state_80 ?_
      refine g_bipush (v := (7)) hF dL_state_81 rfl ?_
      refine g_aload_n hF dL_state_83 rfl ?_
      refine g_iload_n hF dL_state_84 rfl ?_
      refine g_callVq hF (c_wroteAgo (isCell_nI hi) hc) cal_X8_wroteAgo rfl m_694 (by decide) (Or.inl rfl) (Nat.zero_le _) (Nat.zero_le _) 0 rfl rfl [0, 6, 7, 8] rfl rfl rfl (Nat.le_of_ble_eq_true rfl) dL_state_85 ?_
      refine g_imul hF dL_state_88 ?_
      refine g_i2l hF dL_state_89 ?_
      refine g_ladd hF dL_state_90 ?_
      refine g_lstore_n hF dL_state_91 (Nat.le_of_ble_eq_true rfl) rfl ?_
      refine g_iinc (v := nI (i + 1)) hF dL_state_92 rfl (nI_1 i) rfl ?_
      refine g_goto (tgt := 63) hF dL_state_95 (by decide) ?_
      exact ih
  have l2 : ∀ i, i ≤ v.1.2 → G F 0 0 [lanO h p ri A.1 hp pts pc wts tps reason cause B.1 ti, stOv A v, rw1 F.1.2.2 A v, rw2 F.1.2.2 A v, rw3 F.1.2.2 A v, rw4 F.1.2.2 A v, pastO hp ma cnt, arrM F.1.2.2 ma ad, momsW ad M] 33 [some (.ref h), some (.long (foldS (gS2 v) i (foldS (gS1 reason cause cnt v) 8 7))), none, some (.int (nI i))] [] := by
    refine up_loop (Q := fun i => G F 0 0 [lanO h p ri A.1 hp pts pc wts tps reason cause B.1 ti, stOv A v, rw1 F.1.2.2 A v, rw2 F.1.2.2 A v, rw3 F.1.2.2 A v, rw4 F.1.2.2 A v, pastO hp ma cnt, arrM F.1.2.2 ma ad, momsW ad M] 33 [some (.ref h), some (.long (foldS (gS2 v) i (foldS (gS1 reason cause cnt v) 8 7))), none, some (.int (nI i))] []) ?_ (fun i hi ih => ?_)
    · refine g_iload_n hF dL_state_33 rfl ?_
      refine g_aload_n hF dL_state_34 rfl ?_
      refine g_iconst (v := (3)) hF dL_state_35 rfl ?_
      refine g_callVq hF (c_told (by decide) (by decide)) cal_X8_told rfl m_617 (by decide) (Or.inl rfl) (Nat.zero_le _) (Nat.zero_le _) 0 rfl rfl [0, 1, 2, 4, 5, 6] rfl rfl rfl (Nat.le_of_ble_eq_true rfl) dL_state_36 ?_
      rw [told_3]
      refine g_icmp_ge (tgt := 61) hF dL_state_39 (by decide) (fun c_39 => ?_) (fun c_39 => absurd (nI_le (Nat.le_refl _) (by omega)) c_39)
      refine g_iconst (v := (0)) hF dL_state_61 rfl ?_
      refine g_istore_n hF dL_state_62 (Nat.le_of_ble_eq_true rfl) rfl ?_
      exact l3 0 (Nat.zero_le _)
    · refine g_iload_n hF dL_state_33 rfl ?_
      refine g_aload_n hF dL_state_34 rfl ?_
      refine g_iconst (v := (3)) hF dL_state_35 rfl ?_
      refine g_callVq hF (c_told (by decide) (by decide)) cal_X8_told rfl m_617 (by decide) (Or.inl rfl) (Nat.zero_le _) (Nat.zero_le _) 0 rfl rfl [0, 1, 2, 4, 5, 6] rfl rfl rfl (Nat.le_of_ble_eq_true rfl) dL_state_36 ?_
      rw [told_3]
      refine g_icmp_ge (tgt := 61) hF dL_state_39 (by decide) (fun c_39 => absurd c_39 (nI_ge hi (by omega))) (fun c_39 => ?_)
      refine g_lload_n hF dL_state_42 rfl ?_
      refine g_ldc2 hF m_847 dL_state_43 ?_
      refine g_lmul hF dL_state_46 ?_
      refine g_aload_n hF dL_state_47 rfl ?_
      refine g_iload_n hF dL_state_48 rfl ?_
      refine g_callVq hF (c_stack h1 (rowHas_nI hi (by omega))) cal_X8_stack rfl m_626 (by decide) (Or.inl rfl) (Nat.zero_le _) (Nat.zero_le _) 0 rfl rfl [0, 1, 2] rfl rfl rfl (Nat.le_of_ble_eq_true rfl) dL_state_49 ?_
      refine g_i2l hF dL_state_52 ?_
      refine g_ladd hF dL_state_53 ?_
      refine g_lstore_n hF dL_state_54 (Nat.le_of_ble_eq_true rfl) rfl ?_
      refine g_iinc (v := nI (i + 1)) hF dL_state_55 rfl (nI_1 i) rfl ?_
      refine g_goto (tgt := 33) hF dL_state_58 (by decide) ?_
      exact ih
  have l1 : ∀ i, i ≤ 8 → G F 0 0 [lanO h p ri A.1 hp pts pc wts tps reason cause B.1 ti, stOv A v, rw1 F.1.2.2 A v, rw2 F.1.2.2 A v, rw3 F.1.2.2 A v, rw4 F.1.2.2 A v, pastO hp ma cnt, arrM F.1.2.2 ma ad, momsW ad M] 6 [some (.ref h), some (.long (foldS (gS1 reason cause cnt v) i 7)), none, some (.int (nI i))] [] := by
    refine up_loop (Q := fun i => G F 0 0 [lanO h p ri A.1 hp pts pc wts tps reason cause B.1 ti, stOv A v, rw1 F.1.2.2 A v, rw2 F.1.2.2 A v, rw3 F.1.2.2 A v, rw4 F.1.2.2 A v, pastO hp ma cnt, arrM F.1.2.2 ma ad, momsW ad M] 6 [some (.ref h), some (.long (foldS (gS1 reason cause cnt v) i 7)), none, some (.int (nI i))] []) ?_ (fun i hi ih => ?_)
    · refine g_iload_n hF dL_state_6 rfl ?_
      refine g_bipush (v := (8)) hF dL_state_7 rfl ?_
      refine g_icmp_ge (tgt := 31) hF dL_state_9 (by decide) (fun c_9 => ?_) (fun c_9 => absurd (nI_le (Nat.le_refl 8) (by decide)) c_9)
      refine g_iconst (v := (0)) hF dL_state_31 rfl ?_
      refine g_istore_n hF dL_state_32 (Nat.le_of_ble_eq_true rfl) rfl ?_
      exact l2 0 (Nat.zero_le _)
    · refine g_iload_n hF dL_state_6 rfl ?_
      refine g_bipush (v := (8)) hF dL_state_7 rfl ?_
      refine g_icmp_ge (tgt := 31) hF dL_state_9 (by decide) (fun c_9 => absurd c_9 (nI_ge hi (by decide))) (fun c_9 => ?_)
      refine g_lload_n hF dL_state_12 rfl ?_
      refine g_ldc2 hF m_847 dL_state_13 ?_
      refine g_lmul hF dL_state_16 ?_
      refine g_aload_n hF dL_state_17 rfl ?_
      refine g_iload_n hF dL_state_18 rfl ?_
      refine g_callVq hF (c_told (nI_pos (by omega)) (show nI i < nI 10 from nI_lt (by omega) (by decide))) cal_X8_told rfl m_617 (by decide) (Or.inl rfl) (Nat.zero_le _) (Nat.zero_le _) 0 rfl rfl [0, 1, 2, 4, 5, 6] rfl rfl rfl (Nat.le_of_ble_eq_true rfl) dL_state_19 ?_
      refine g_i2l hF dL_state_22 ?_
      refine g_ladd hF dL_state_23 ?_
      refine g_lstore_n hF dL_state_24 (Nat.le_of_ble_eq_true rfl) rfl ?_
      refine g_iinc (v := nI (i + 1)) hF dL_state_25 rfl (nI_1 i) rfl ?_
      refine g_goto (tgt := 6) hF dL_state_28 (by decide) ?_
      exact ih
  refine g_ldc2 hF m_846 dL_state_0 ?_
  refine g_lstore_n hF dL_state_3 (Nat.le_of_ble_eq_true rfl) rfl ?_
  refine g_iconst (v := (0)) hF dL_state_4 rfl ?_
  refine g_istore_n hF dL_state_5 (Nat.le_of_ble_eq_true rfl) rfl ?_
  exact l1 0 (Nat.zero_le _)
