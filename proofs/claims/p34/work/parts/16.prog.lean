/-! small static methods, Program -/
theorem nar_bI (b : Bool) : narrow .boolean (.int (bI b)) = .int (bI b) := by cases b <;> rfl
theorem bI_0 {b : Bool} : bI b = 0 ↔ b = false := by cases b <;> simp [bI]
theorem bI_n {b : Bool} : ¬ bI b = 0 ↔ b = true := by cases b <;> simp [bI]
def isCellB (i : Int32) : Bool := !decide (i < 0) && !decide (12 ≤ i)
def isPassB (i : Int32) : Bool := !decide (i < 0) && !decide (99 < i)
def isLenB (i : Int32) : Bool := !decide (i < 1) && !decide (500 < i)
def progAllows (c n : Int32) : Bool := if c = 12 ∨ c = 13 then isCellB n else if c = 16 ∨ c = 17 ∨ c = 18 then !decide (n < 0) && !decide (80 < n) else !decide (c < 0) && !decide (22 < c)
def progO (p rc rn rt : Nat) : va_W := [(p, .inr (3, [.ref rc, .ref rn, .ref rt]))]
set_option maxHeartbeats 4000000 in
set_option maxRecDepth 100000 in
theorem c_isCell {E : Env3} {i : Int32} : Cd E none 0 yX8_isCell cX8_isCell 1 (some .boolean) [.int i] [] (some (.int (bI (isCellB i)))) [] := by
  refine Ct.of [some (.int i)] (by decide +kernel) rfl (Nat.le_of_ble_eq_true rfl) (fun F hE hF hR hN => ?_)
  subst hE
  refine g_iload_n hF dX8_isCell_0 rfl ?_
  refine g_if_lt (tgt := 14) hF dX8_isCell_1 (by decide) (fun c_1 => ?_) (fun c_1 => ?_)
  · refine g_iconst (v := (0)) hF dX8_isCell_14 rfl ?_
    exact g_zret hF hR dX8_isCell_15 rfl ⟨(by simp [bI, isCellB, c_1]), rfl⟩
  · refine g_iload_n hF dX8_isCell_4 rfl ?_
    refine g_bipush (v := (12)) hF dX8_isCell_5 rfl ?_
    refine g_icmp_ge (tgt := 14) hF dX8_isCell_7 (by decide) (fun c_7 => ?_) (fun c_7 => ?_)
    · refine g_iconst (v := (0)) hF dX8_isCell_14 rfl ?_
      exact g_zret hF hR dX8_isCell_15 rfl ⟨(by simp [bI, isCellB, c_1, c_7]), rfl⟩
    · refine g_iconst (v := (1)) hF dX8_isCell_10 rfl ?_
      refine g_goto (tgt := 15) hF dX8_isCell_11 (by decide) ?_
      exact g_zret hF hR dX8_isCell_15 rfl ⟨(by simp [bI, isCellB, c_1, c_7]), rfl⟩
set_option maxHeartbeats 4000000 in
set_option maxRecDepth 100000 in
theorem c_isPass {E : Env3} {i : Int32} : Cd E none 0 yX8_isPass cX8_isPass 1 (some .boolean) [.int i] [] (some (.int (bI (isPassB i)))) [] := by
  refine Ct.of [some (.int i)] (by decide +kernel) rfl (Nat.le_of_ble_eq_true rfl) (fun F hE hF hR hN => ?_)
  subst hE
  refine g_iload_n hF dX8_isPass_0 rfl ?_
  refine g_if_lt (tgt := 14) hF dX8_isPass_1 (by decide) (fun c_1 => ?_) (fun c_1 => ?_)
  · refine g_iconst (v := (0)) hF dX8_isPass_14 rfl ?_
    exact g_zret hF hR dX8_isPass_15 rfl ⟨(by simp [bI, isPassB, c_1]), rfl⟩
  · refine g_iload_n hF dX8_isPass_4 rfl ?_
    refine g_bipush (v := (99)) hF dX8_isPass_5 rfl ?_
    refine g_icmp_gt (tgt := 14) hF dX8_isPass_7 (by decide) (fun c_7 => ?_) (fun c_7 => ?_)
    · refine g_iconst (v := (0)) hF dX8_isPass_14 rfl ?_
      exact g_zret hF hR dX8_isPass_15 rfl ⟨(by simp [bI, isPassB, c_1, c_7]), rfl⟩
    · refine g_iconst (v := (1)) hF dX8_isPass_10 rfl ?_
      refine g_goto (tgt := 15) hF dX8_isPass_11 (by decide) ?_
      exact g_zret hF hR dX8_isPass_15 rfl ⟨(by simp [bI, isPassB, c_1, c_7]), rfl⟩
set_option maxHeartbeats 4000000 in
set_option maxRecDepth 100000 in
theorem c_isRunLength {E : Env3} {i : Int32} : Cd E none 0 yX8_isRunLength cX8_isRunLength 1 (some .boolean) [.int i] [] (some (.int (bI (isLenB i)))) [] := by
  refine Ct.of [some (.int i)] (by decide +kernel) rfl (Nat.le_of_ble_eq_true rfl) (fun F hE hF hR hN => ?_)
  subst hE
  refine g_iload_n hF dX8_isRunLength_0 rfl ?_
  refine g_iconst (v := (1)) hF dX8_isRunLength_1 rfl ?_
  refine g_icmp_lt (tgt := 16) hF dX8_isRunLength_2 (by decide) (fun c_2 => ?_) (fun c_2 => ?_)
  · refine g_iconst (v := (0)) hF dX8_isRunLength_16 rfl ?_
    exact g_zret hF hR dX8_isRunLength_17 rfl ⟨(by simp [bI, isLenB, c_2]), rfl⟩
  · refine g_iload_n hF dX8_isRunLength_5 rfl ?_
    refine g_sipush (v := (500)) hF dX8_isRunLength_6 rfl ?_
    refine g_icmp_gt (tgt := 16) hF dX8_isRunLength_9 (by decide) (fun c_9 => ?_) (fun c_9 => ?_)
    · refine g_iconst (v := (0)) hF dX8_isRunLength_16 rfl ?_
      exact g_zret hF hR dX8_isRunLength_17 rfl ⟨(by simp [bI, isLenB, c_2, c_9]), rfl⟩
    · refine g_iconst (v := (1)) hF dX8_isRunLength_12 rfl ?_
      refine g_goto (tgt := 17) hF dX8_isRunLength_13 (by decide) ?_
      exact g_zret hF hR dX8_isRunLength_17 rfl ⟨(by simp [bI, isLenB, c_2, c_9]), rfl⟩
set_option maxHeartbeats 4000000 in
set_option maxRecDepth 100000 in
theorem c_truth {E : Env3} {b : Bool} : Cd E none 0 yX8_truth cX8_truth 1 (some .int) [.int (bI b)] [] (some (.int (bI b))) [] := by
  refine Ct.of [some (.int (bI b))] (by decide +kernel) rfl (Nat.le_of_ble_eq_true rfl) (fun F hE hF hR hN => ?_)
  subst hE
  refine g_iload_n hF dX8_truth_0 rfl ?_
  refine g_if_eq (tgt := 8) hF dX8_truth_1 (by decide) (fun c_1 => ?_) (fun c_1 => ?_)
  · refine g_iconst (v := (0)) hF dX8_truth_8 rfl ?_
    exact g_iret hF hR dX8_truth_9 ⟨(by rcases b with _ | _ <;> first | rfl | (exact absurd rfl c_1) | (exact absurd c_1 (by decide))), rfl⟩
  · refine g_iconst (v := (1)) hF dX8_truth_4 rfl ?_
    refine g_goto (tgt := 9) hF dX8_truth_5 (by decide) ?_
    exact g_iret hF hR dX8_truth_9 ⟨(by rcases b with _ | _ <;> first | rfl | (exact absurd rfl c_1) | (exact absurd c_1 (by decide))), rfl⟩
set_option maxHeartbeats 4000000 in
set_option maxRecDepth 100000 in
theorem c_allows {E : Env3} {c m : Int32} : Cd E none 1 yX3_allows cX3_allows 2 (some .boolean) [.int c, .int m] [] (some (.int (bI (progAllows c m)))) [] := by
  refine Ct.of [some (.int c), some (.int m)] (by decide +kernel) rfl (Nat.le_of_ble_eq_true rfl) (fun F hE hF hR hN => ?_)
  subst hE
  refine g_iload_n hF dX3_allows_0 rfl ?_
  refine g_bipush (v := (12)) hF dX3_allows_1 rfl ?_
  refine g_icmp_eq (tgt := 12) hF dX3_allows_3 (by decide) (fun c_3 => ?_) (fun c_3 => ?_)
  · refine g_iload_n hF dX3_allows_12 rfl ?_
    refine g_callSNq hF (c_isCell) cal_X8_isCell rfl m_830 (by decide) (Or.inl rfl) (Nat.zero_le _) (Nat.zero_le _) [] rfl rfl rfl (Nat.le_of_ble_eq_true rfl) dX3_allows_13 ?_
    exact g_zret hF hR dX3_allows_16 (nar_bI _) ⟨(by simp [bI, progAllows, c_3]), rfl⟩
  · refine g_iload_n hF dX3_allows_6 rfl ?_
    refine g_bipush (v := (13)) hF dX3_allows_7 rfl ?_
    refine g_icmp_ne (tgt := 17) hF dX3_allows_9 (by decide) (fun c_9 => ?_) (fun c_9 => ?_)
    · refine g_iload_n hF dX3_allows_17 rfl ?_
      refine g_bipush (v := (16)) hF dX3_allows_18 rfl ?_
      refine g_icmp_eq (tgt := 35) hF dX3_allows_20 (by decide) (fun c_20 => ?_) (fun c_20 => ?_)
      · refine g_iload_n hF dX3_allows_35 rfl ?_
        refine g_if_lt (tgt := 49) hF dX3_allows_36 (by decide) (fun c_36 => ?_) (fun c_36 => ?_)
        · refine g_iconst (v := (0)) hF dX3_allows_49 rfl ?_
          exact g_zret hF hR dX3_allows_50 rfl ⟨(by simp [bI, progAllows, c_3, c_9, c_20, c_36]), rfl⟩
        · refine g_iload_n hF dX3_allows_39 rfl ?_
          refine g_bipush (v := (80)) hF dX3_allows_40 rfl ?_
          refine g_icmp_gt (tgt := 49) hF dX3_allows_42 (by decide) (fun c_42 => ?_) (fun c_42 => ?_)
          · refine g_iconst (v := (0)) hF dX3_allows_49 rfl ?_
            exact g_zret hF hR dX3_allows_50 rfl ⟨(by simp [bI, progAllows, c_3, c_9, c_20, c_36, c_42]), rfl⟩
          · refine g_iconst (v := (1)) hF dX3_allows_45 rfl ?_
            refine g_goto (tgt := 50) hF dX3_allows_46 (by decide) ?_
            exact g_zret hF hR dX3_allows_50 rfl ⟨(by simp [bI, progAllows, c_3, c_9, c_20, c_36, c_42]), rfl⟩
      · refine g_iload_n hF dX3_allows_23 rfl ?_
        refine g_bipush (v := (17)) hF dX3_allows_24 rfl ?_
        refine g_icmp_eq (tgt := 35) hF dX3_allows_26 (by decide) (fun c_26 => ?_) (fun c_26 => ?_)
        · refine g_iload_n hF dX3_allows_35 rfl ?_
          refine g_if_lt (tgt := 49) hF dX3_allows_36 (by decide) (fun c_36 => ?_) (fun c_36 => ?_)
          · refine g_iconst (v := (0)) hF dX3_allows_49 rfl ?_
            exact g_zret hF hR dX3_allows_50 rfl ⟨(by simp [bI, progAllows, c_3, c_9, c_20, c_26, c_36]), rfl⟩
          · refine g_iload_n hF dX3_allows_39 rfl ?_
            refine g_bipush (v := (80)) hF dX3_allows_40 rfl ?_
            refine g_icmp_gt (tgt := 49) hF dX3_allows_42 (by decide) (fun c_42 => ?_) (fun c_42 => ?_)
            · refine g_iconst (v := (0)) hF dX3_allows_49 rfl ?_
              exact g_zret hF hR dX3_allows_50 rfl ⟨(by simp [bI, progAllows, c_3, c_9, c_20, c_26, c_36, c_42]), rfl⟩
            · refine g_iconst (v := (1)) hF dX3_allows_45 rfl ?_
              refine g_goto (tgt := 50) hF dX3_allows_46 (by decide) ?_
              exact g_zret hF hR dX3_allows_50 rfl ⟨(by simp [bI, progAllows, c_3, c_9, c_20, c_26, c_36, c_42]), rfl⟩
        · refine g_iload_n hF dX3_allows_29 rfl ?_
          refine g_bipush (v := (18)) hF dX3_allows_30 rfl ?_
          refine g_icmp_ne (tgt := 51) hF dX3_allows_32 (by decide) (fun c_32 => ?_) (fun c_32 => ?_)
          · refine g_iload_n hF dX3_allows_51 rfl ?_
            refine g_if_lt (tgt := 65) hF dX3_allows_52 (by decide) (fun c_52 => ?_) (fun c_52 => ?_)
            · refine g_iconst (v := (0)) hF dX3_allows_65 rfl ?_
              exact g_zret hF hR dX3_allows_66 rfl ⟨(by simp [bI, progAllows, c_3, c_9, c_20, c_26, c_32, c_52]), rfl⟩
            · refine g_iload_n hF dX3_allows_55 rfl ?_
              refine g_bipush (v := (22)) hF dX3_allows_56 rfl ?_
              refine g_icmp_gt (tgt := 65) hF dX3_allows_58 (by decide) (fun c_58 => ?_) (fun c_58 => ?_)
              · refine g_iconst (v := (0)) hF dX3_allows_65 rfl ?_
                exact g_zret hF hR dX3_allows_66 rfl ⟨(by simp [bI, progAllows, c_3, c_9, c_20, c_26, c_32, c_52, c_58]), rfl⟩
              · refine g_iconst (v := (1)) hF dX3_allows_61 rfl ?_
                refine g_goto (tgt := 66) hF dX3_allows_62 (by decide) ?_
                exact g_zret hF hR dX3_allows_66 rfl ⟨(by simp [bI, progAllows, c_3, c_9, c_20, c_26, c_32, c_52, c_58]), rfl⟩
          · refine g_iload_n hF dX3_allows_35 rfl ?_
            refine g_if_lt (tgt := 49) hF dX3_allows_36 (by decide) (fun c_36 => ?_) (fun c_36 => ?_)
            · refine g_iconst (v := (0)) hF dX3_allows_49 rfl ?_
              exact g_zret hF hR dX3_allows_50 rfl ⟨(by simp [bI, progAllows, c_3, c_9, c_20, c_26, c_32, c_36]), rfl⟩
            · refine g_iload_n hF dX3_allows_39 rfl ?_
              refine g_bipush (v := (80)) hF dX3_allows_40 rfl ?_
              refine g_icmp_gt (tgt := 49) hF dX3_allows_42 (by decide) (fun c_42 => ?_) (fun c_42 => ?_)
              · refine g_iconst (v := (0)) hF dX3_allows_49 rfl ?_
                exact g_zret hF hR dX3_allows_50 rfl ⟨(by simp [bI, progAllows, c_3, c_9, c_20, c_26, c_32, c_36, c_42]), rfl⟩
              · refine g_iconst (v := (1)) hF dX3_allows_45 rfl ?_
                refine g_goto (tgt := 50) hF dX3_allows_46 (by decide) ?_
                exact g_zret hF hR dX3_allows_50 rfl ⟨(by simp [bI, progAllows, c_3, c_9, c_20, c_26, c_32, c_36, c_42]), rfl⟩
    · refine g_iload_n hF dX3_allows_12 rfl ?_
      refine g_callSNq hF (c_isCell) cal_X8_isCell rfl m_830 (by decide) (Or.inl rfl) (Nat.zero_le _) (Nat.zero_le _) [] rfl rfl rfl (Nat.le_of_ble_eq_true rfl) dX3_allows_13 ?_
      exact g_zret hF hR dX3_allows_16 (nar_bI _) ⟨(by simp [bI, progAllows, c_3, c_9]), rfl⟩
set_option maxHeartbeats 4000000 in
set_option maxRecDepth 100000 in
theorem c_Prog_size {E : Env3} {p rc rn rt : Nat} {ac nc : Nat} {fc : Nat → Int32}  : Cd E none 1 yX3_size cX3_size 1 (some .int) [.ref p] [progO p rc rn rt, rowW E.2.2 rc ac 80 fc nc] (some (.int (nI nc))) [progO p rc rn rt, rowW E.2.2 rc ac 80 fc nc] := by
  refine Ct.of [some (.ref p)] (by decide +kernel) rfl (Nat.le_of_ble_eq_true rfl) (fun F hE hF hR hN => ?_)
  subst hE
  refine g_aload_n hF dX3_size_0 rfl ?_
  refine g_get (j := 0) hF 0 rfl rfl (by decide) rfl m_49 rfl dX3_size_1 ?_
  refine g_callVq hF (c_Row_size) cal_X4_size rfl m_398 (by decide) (Or.inl rfl) (Nat.zero_le _) (Nat.zero_le _) 1 rfl rfl [1] rfl rfl rfl (Nat.le_of_ble_eq_true rfl) dX3_size_4 ?_
  exact g_iret hF hR dX3_size_7 ⟨rfl, rfl⟩
set_option maxHeartbeats 4000000 in
set_option maxRecDepth 100000 in
theorem c_Prog_isFull {E : Env3} {p rc rn rt : Nat} {ac nc : Nat} {fc : Nat → Int32} (hnc : nc ≤ 80)  : Cd E none 1 yX3_isFull cX3_isFull 1 (some .boolean) [.ref p] [progO p rc rn rt, rowW E.2.2 rc ac 80 fc nc] (some (.int (bI (decide (80 ≤ nc))))) [progO p rc rn rt, rowW E.2.2 rc ac 80 fc nc] := by
  refine Ct.of [some (.ref p)] (by decide +kernel) rfl (Nat.le_of_ble_eq_true rfl) (fun F hE hF hR hN => ?_)
  subst hE
  refine g_aload_n hF dX3_isFull_0 rfl ?_
  refine g_get (j := 0) hF 0 rfl rfl (by decide) rfl m_49 rfl dX3_isFull_1 ?_
  refine g_callVq hF (c_Row_isFull (by first | omega | exact clampI_le | (split <;> omega)) (by omega)) cal_X4_isFull rfl m_836 (by decide) (Or.inl rfl) (Nat.zero_le _) (Nat.zero_le _) 1 rfl rfl [1] rfl rfl rfl (Nat.le_of_ble_eq_true rfl) dX3_isFull_4 ?_
  exact g_zret hF hR dX3_isFull_7 (nar_bI _) ⟨rfl, rfl⟩
set_option maxHeartbeats 4000000 in
set_option maxRecDepth 100000 in
theorem c_Prog_has {E : Env3} {p rc rn rt : Nat} {ac nc : Nat} {fc : Nat → Int32} {i : Int32} : Cd E none 1 yX3_has cX3_has 2 (some .boolean) [.ref p, .int i] [progO p rc rn rt, rowW E.2.2 rc ac 80 fc nc] (some (.int (bI (rowHas nc i)))) [progO p rc rn rt, rowW E.2.2 rc ac 80 fc nc] := by
  refine Ct.of [some (.ref p), some (.int i)] (by decide +kernel) rfl (Nat.le_of_ble_eq_true rfl) (fun F hE hF hR hN => ?_)
  subst hE
  refine g_aload_n hF dX3_has_0 rfl ?_
  refine g_get (j := 0) hF 0 rfl rfl (by decide) rfl m_49 rfl dX3_has_1 ?_
  refine g_iload_n hF dX3_has_4 rfl ?_
  refine g_callVq hF (c_Row_has) cal_X4_has rfl m_467 (by decide) (Or.inl rfl) (Nat.zero_le _) (Nat.zero_le _) 1 rfl rfl [1] rfl rfl rfl (Nat.le_of_ble_eq_true rfl) dX3_has_5 ?_
  exact g_zret hF hR dX3_has_8 (nar_bI _) ⟨rfl, rfl⟩
set_option maxHeartbeats 4000000 in
set_option maxRecDepth 100000 in
theorem c_Prog_codeAt {E : Env3} {p rc rn rt : Nat} {ac nc : Nat} {fc : Nat → Int32} {i : Int32} (hnc : nc ≤ 80)  : Cd E none 1 yX3_codeAt cX3_codeAt 2 (some .int) [.ref p, .int i] [progO p rc rn rt, rowW E.2.2 rc ac 80 fc nc] (some (.int (rowGet fc nc i))) [progO p rc rn rt, rowW E.2.2 rc ac 80 fc nc] := by
  refine Ct.of [some (.ref p), some (.int i)] (by decide +kernel) rfl (Nat.le_of_ble_eq_true rfl) (fun F hE hF hR hN => ?_)
  subst hE
  refine g_aload_n hF dX3_codeAt_0 rfl ?_
  refine g_get (j := 0) hF 0 rfl rfl (by decide) rfl m_49 rfl dX3_codeAt_1 ?_
  refine g_iload_n hF dX3_codeAt_4 rfl ?_
  refine g_callVq hF (c_Row_get (by first | omega | exact clampI_le | (split <;> omega)) (by omega)) cal_X4_get rfl m_475 (by decide) (Or.inl rfl) (Nat.zero_le _) (Nat.zero_le _) 1 rfl rfl [1] rfl rfl rfl (Nat.le_of_ble_eq_true rfl) dX3_codeAt_5 ?_
  exact g_iret hF hR dX3_codeAt_8 ⟨rfl, rfl⟩
set_option maxHeartbeats 4000000 in
set_option maxRecDepth 100000 in
theorem c_Prog_numberAt {E : Env3} {p rc rn rt : Nat} {an nn : Nat} {fn : Nat → Int32} {i : Int32} (hnn : nn ≤ 80)  : Cd E none 1 yX3_numberAt cX3_numberAt 2 (some .int) [.ref p, .int i] [progO p rc rn rt, rowW E.2.2 rn an 80 fn nn] (some (.int (rowGet fn nn i))) [progO p rc rn rt, rowW E.2.2 rn an 80 fn nn] := by
  refine Ct.of [some (.ref p), some (.int i)] (by decide +kernel) rfl (Nat.le_of_ble_eq_true rfl) (fun F hE hF hR hN => ?_)
  subst hE
  refine g_aload_n hF dX3_numberAt_0 rfl ?_
  refine g_get (j := 1) hF 0 rfl rfl (by decide) rfl m_50 rfl dX3_numberAt_1 ?_
  refine g_iload_n hF dX3_numberAt_4 rfl ?_
  refine g_callVq hF (c_Row_get (by first | omega | exact clampI_le | (split <;> omega)) (by omega)) cal_X4_get rfl m_475 (by decide) (Or.inl rfl) (Nat.zero_le _) (Nat.zero_le _) 1 rfl rfl [1] rfl rfl rfl (Nat.le_of_ble_eq_true rfl) dX3_numberAt_5 ?_
  exact g_iret hF hR dX3_numberAt_8 ⟨rfl, rfl⟩
set_option maxHeartbeats 4000000 in
set_option maxRecDepth 100000 in
theorem c_Prog_timesAt {E : Env3} {p rc rn rt : Nat} {at0 nt : Nat} {ft : Nat → Int32} {i : Int32} (hnt : nt ≤ 80)  : Cd E none 1 yX3_timesAt cX3_timesAt 2 (some .int) [.ref p, .int i] [progO p rc rn rt, rowW E.2.2 rt at0 80 ft nt] (some (.int (rowGet ft nt i))) [progO p rc rn rt, rowW E.2.2 rt at0 80 ft nt] := by
  refine Ct.of [some (.ref p), some (.int i)] (by decide +kernel) rfl (Nat.le_of_ble_eq_true rfl) (fun F hE hF hR hN => ?_)
  subst hE
  refine g_aload_n hF dX3_timesAt_0 rfl ?_
  refine g_get (j := 2) hF 0 rfl rfl (by decide) rfl m_51 rfl dX3_timesAt_1 ?_
  refine g_iload_n hF dX3_timesAt_4 rfl ?_
  refine g_callVq hF (c_Row_get (by first | omega | exact clampI_le | (split <;> omega)) (by omega)) cal_X4_get rfl m_475 (by decide) (Or.inl rfl) (Nat.zero_le _) (Nat.zero_le _) 1 rfl rfl [1] rfl rfl rfl (Nat.le_of_ble_eq_true rfl) dX3_timesAt_5 ?_
  exact g_iret hF hR dX3_timesAt_8 ⟨rfl, rfl⟩
set_option maxHeartbeats 4000000 in
set_option maxRecDepth 100000 in
theorem c_Prog_add {E : Env3} {p rc rn rt : Nat} {ac nc : Nat} {fc : Nat → Int32} {an nn : Nat} {fn : Nat → Int32} {at0 nt : Nat} {ft : Nat → Int32} {c m : Int32} (hnc : nc ≤ 80) (hnn : nn ≤ 80) (hnt : nt ≤ 80)  : Cd E none 1 yX3_add cX3_add 3 none [.ref p, .int c, .int m] [progO p rc rn rt, rowW E.2.2 rc ac 80 fc nc, rowW E.2.2 rn an 80 fn nn, rowW E.2.2 rt at0 80 ft nt] none [progO p rc rn rt, rowW E.2.2 rc ac 80 (if nc < 80 then upd fc nc c else fc) (if nc < 80 then nc + 1 else nc), rowW E.2.2 rn an 80 (if nn < 80 then upd fn nn m else fn) (if nn < 80 then nn + 1 else nn), rowW E.2.2 rt at0 80 (if nt < 80 then upd ft nt 0 else ft) (if nt < 80 then nt + 1 else nt)] := by
  refine Ct.of [some (.ref p), some (.int c), some (.int m)] (by decide +kernel) rfl (Nat.le_of_ble_eq_true rfl) (fun F hE hF hR hN => ?_)
  subst hE
  refine g_aload_n hF dX3_add_0 rfl ?_
  refine g_get (j := 0) hF 0 rfl rfl (by decide) rfl m_49 rfl dX3_add_1 ?_
  refine g_iload_n hF dX3_add_4 rfl ?_
  refine g_callVd hF (c_Row_push (by first | omega | exact clampI_le | (split <;> omega)) (by omega)) cal_X4_push rfl m_842 (by decide) (Or.inl rfl) (Nat.zero_le _) (Nat.zero_le _) 1 rfl rfl [1] rfl rfl (Nat.le_of_ble_eq_true rfl) rfl (Nat.le_of_ble_eq_true rfl) dX3_add_5 ?_
  try dsimp only [gput, gputA, List.set, stGs, List.cons_append, List.nil_append]
  refine g_aload_n hF dX3_add_8 rfl ?_
  refine g_get (j := 1) hF 0 rfl rfl (by decide) rfl m_50 rfl dX3_add_9 ?_
  refine g_iload_n hF dX3_add_12 rfl ?_
  refine g_callVd hF (c_Row_push (by first | omega | exact clampI_le | (split <;> omega)) (by omega)) cal_X4_push rfl m_842 (by decide) (Or.inl rfl) (Nat.zero_le _) (Nat.zero_le _) 2 rfl rfl [2] rfl rfl (Nat.le_of_ble_eq_true rfl) rfl (Nat.le_of_ble_eq_true rfl) dX3_add_13 ?_
  try dsimp only [gput, gputA, List.set, stGs, List.cons_append, List.nil_append]
  refine g_aload_n hF dX3_add_16 rfl ?_
  refine g_get (j := 2) hF 0 rfl rfl (by decide) rfl m_51 rfl dX3_add_17 ?_
  refine g_iconst (v := (0)) hF dX3_add_20 rfl ?_
  refine g_callVd hF (c_Row_push (by first | omega | exact clampI_le | (split <;> omega)) (by omega)) cal_X4_push rfl m_842 (by decide) (Or.inl rfl) (Nat.zero_le _) (Nat.zero_le _) 3 rfl rfl [3] rfl rfl (Nat.le_of_ble_eq_true rfl) rfl (Nat.le_of_ble_eq_true rfl) dX3_add_21 ?_
  try dsimp only [gput, gputA, List.set, stGs, List.cons_append, List.nil_append]
  exact g_vret hF hR dX3_add_24 ⟨rfl, rfl⟩
set_option maxHeartbeats 4000000 in
set_option maxRecDepth 100000 in
theorem c_Prog_countTime {E : Env3} {p rc rn rt : Nat} {at0 nt : Nat} {ft : Nat → Int32} {i : Int32} (hnt : nt ≤ 80)  : Cd E none 1 yX3_countTime cX3_countTime 2 none [.ref p, .int i] [progO p rc rn rt, rowW E.2.2 rt at0 80 ft nt] none [progO p rc rn rt, rowW E.2.2 rt at0 80 (rowPut ft nt i (rowGet ft nt i + 1)) nt] := by
  refine Ct.of [some (.ref p), some (.int i)] (by decide +kernel) rfl (Nat.le_of_ble_eq_true rfl) (fun F hE hF hR hN => ?_)
  subst hE
  refine g_aload_n hF dX3_countTime_0 rfl ?_
  refine g_get (j := 2) hF 0 rfl rfl (by decide) rfl m_51 rfl dX3_countTime_1 ?_
  refine g_iload_n hF dX3_countTime_4 rfl ?_
  refine g_aload_n hF dX3_countTime_5 rfl ?_
  refine g_get (j := 2) hF 0 rfl rfl (by decide) rfl m_51 rfl dX3_countTime_6 ?_
  refine g_iload_n hF dX3_countTime_9 rfl ?_
  refine g_callVq hF (c_Row_get (by first | omega | exact clampI_le | (split <;> omega)) (by omega)) cal_X4_get rfl m_475 (by decide) (Or.inl rfl) (Nat.zero_le _) (Nat.zero_le _) 1 rfl rfl [1] rfl rfl rfl (Nat.le_of_ble_eq_true rfl) dX3_countTime_10 ?_
  refine g_iconst (v := (1)) hF dX3_countTime_13 rfl ?_
  refine g_iadd hF dX3_countTime_14 ?_
  refine g_callVd hF (c_Row_put (by first | omega | exact clampI_le | (split <;> omega)) (by omega)) cal_X4_put rfl m_399 (by decide) (Or.inl rfl) (Nat.zero_le _) (Nat.zero_le _) 1 rfl rfl [1] rfl rfl (Nat.le_of_ble_eq_true rfl) rfl (Nat.le_of_ble_eq_true rfl) dX3_countTime_15 ?_
  try dsimp only [gput, gputA, List.set, stGs, List.cons_append, List.nil_append]
  exact g_vret hF hR dX3_countTime_18 ⟨rfl, rfl⟩
theorem rowPut_nI {f : Nat → Int32} {n i : Nat} {x : Int32} (hi : i < n) (hn : n < 2 ^ 31) : rowPut f n (nI i) x = upd f i x := by
  unfold rowPut
  rw [if_neg (nI_pos (by omega)), if_neg (nI_ge hi (by omega)), nI_clamp (by omega)]
set_option maxHeartbeats 4000000 in
set_option maxRecDepth 100000 in
theorem c_Prog_forgetTimes {E : Env3} {p rc rn rt : Nat} {at0 nt : Nat} {ft : Nat → Int32} (hnt : nt ≤ 80)  : Cd E none 1 yX3_forgetTimes cX3_forgetTimes 2 none [.ref p] [progO p rc rn rt, rowW E.2.2 rt at0 80 ft nt] none [progO p rc rn rt, rowW E.2.2 rt at0 80 (zeroTo ft nt) nt] := by
  refine Ct.of [some (.ref p), none] (by decide +kernel) rfl (Nat.le_of_ble_eq_true rfl) (fun F hE hF hR hN => ?_)
  subst hE
  refine g_regroup (gs' := [progO p rc rn rt, rowW F.1.2.2 rt at0 80 (zeroTo ft 0) nt]) (by rw [zeroTo_0]) ?_
  have loop : ∀ i, i ≤ nt → G F 0 0 [progO p rc rn rt, rowW F.1.2.2 rt at0 80 (zeroTo ft i) nt] 2 [some (.ref p), some (.int (nI i))] [] := by
    refine up_loop (Q := fun i => G F 0 0 [progO p rc rn rt, rowW F.1.2.2 rt at0 80 (zeroTo ft i) nt] 2 [some (.ref p), some (.int (nI i))] []) ?_ (fun i hi ih => ?_)
    · refine g_iload_n hF dX3_forgetTimes_2 rfl ?_
      refine g_aload_n hF dX3_forgetTimes_3 rfl ?_
      refine g_get (j := 2) hF 0 rfl rfl (by decide) rfl m_51 rfl dX3_forgetTimes_4 ?_
      refine g_callVq hF (c_Row_size) cal_X4_size rfl m_398 (by decide) (Or.inl rfl) (Nat.zero_le _) (Nat.zero_le _) 1 rfl rfl [1] rfl rfl rfl (Nat.le_of_ble_eq_true rfl) dX3_forgetTimes_7 ?_
      refine g_icmp_ge (tgt := 28) hF dX3_forgetTimes_10 (by decide) (fun c_10 => ?_) (fun c_10 => absurd (nI_le (Nat.le_refl nt) (by omega)) c_10)
      exact g_vret hF hR dX3_forgetTimes_28 ⟨rfl, rfl⟩
    · refine g_iload_n hF dX3_forgetTimes_2 rfl ?_
      refine g_aload_n hF dX3_forgetTimes_3 rfl ?_
      refine g_get (j := 2) hF 0 rfl rfl (by decide) rfl m_51 rfl dX3_forgetTimes_4 ?_
      refine g_callVq hF (c_Row_size) cal_X4_size rfl m_398 (by decide) (Or.inl rfl) (Nat.zero_le _) (Nat.zero_le _) 1 rfl rfl [1] rfl rfl rfl (Nat.le_of_ble_eq_true rfl) dX3_forgetTimes_7 ?_
      refine g_icmp_ge (tgt := 28) hF dX3_forgetTimes_10 (by decide) (fun c_10 => absurd c_10 (nI_ge hi (by omega))) (fun c_10 => ?_)
      refine g_aload_n hF dX3_forgetTimes_13 rfl ?_
      refine g_get (j := 2) hF 0 rfl rfl (by decide) rfl m_51 rfl dX3_forgetTimes_14 ?_
      refine g_iload_n hF dX3_forgetTimes_17 rfl ?_
      refine g_iconst (v := (0)) hF dX3_forgetTimes_18 rfl ?_
      refine g_callVd hF (c_Row_put (by first | omega | exact clampI_le | (split <;> omega)) (by omega)) cal_X4_put rfl m_399 (by decide) (Or.inl rfl) (Nat.zero_le _) (Nat.zero_le _) 1 rfl rfl [1] rfl rfl (Nat.le_of_ble_eq_true rfl) rfl (Nat.le_of_ble_eq_true rfl) dX3_forgetTimes_19 ?_
      try dsimp only [gput, gputA, List.set, stGs, List.cons_append, List.nil_append]
      rw [rowPut_nI hi (by omega), zeroTo_succ]
      refine g_iinc (v := nI (i + 1)) hF dX3_forgetTimes_22 rfl (nI_1 i) rfl ?_
      refine g_goto (tgt := 2) hF dX3_forgetTimes_25 (by decide) ?_
      exact ih
  refine g_iconst (v := (0)) hF dX3_forgetTimes_0 rfl ?_
  refine g_istore_n hF dX3_forgetTimes_1 (Nat.le_of_ble_eq_true rfl) rfl ?_
  exact loop 0 (Nat.zero_le _)
set_option maxHeartbeats 4000000 in
set_option maxRecDepth 100000 in
theorem c_Prog_init {E : Env3} {p : Nat} : Ct E none 2 6 246 yX3_init cX3_init 1 none [.ref p] [[(p, .inr (3, [.null, .null, .null]))]] (fun r g => ∃ rc ac rn an rt at0 : Nat, r = none ∧ g = [progO p rc rn rt, rowW E.2.2 rc ac 80 (fun _ => 0) 0, rowW E.2.2 rn an 80 (fun _ => 0) 0, rowW E.2.2 rt at0 80 (fun _ => 0) 0]) := by
  refine Ct.of [some (.ref p)] (by decide +kernel) rfl (Nat.le_of_ble_eq_true rfl) (fun F hE hF hR hN => ?_)
  subst hE
  refine g_aload_n hF dX3_init_0 rfl ?_
  refine g_objInit hF m_31 m_24 m_25 (by decide) (Nat.le_of_ble_eq_true rfl) dX3_init_1 ?_
  refine g_aload_n hF dX3_init_4 rfl ?_
  refine g_new (ci := 4) (fs := [.null, .int 0]) hF rfl tyX4 tyX4_ok m_32 m_33 m_3 (fun j hj => by rcases (show j = 0 ∨ j = 1 by omega) with rfl | rfl <;> rfl) (Nat.le_of_ble_eq_true rfl) (Nat.le_of_ble_eq_true rfl) dX3_init_5 (fun q1 => ?_)
  refine g_dup hF dX3_init_8 rfl ?_
  refine g_bipush (v := (80)) hF dX3_init_9 rfl ?_
  refine g_callI hF (c_Row_init (cap := 80) (by decide)) cal_X4_init rfl m_34 (by decide) (Or.inl rfl) (Nat.le_of_ble_eq_true rfl) (Nat.le_of_ble_eq_true rfl) [1] rfl rfl rfl (Nat.le_of_ble_eq_true rfl) dX3_init_11 (fun r gs1 hpo => ?_)
  obtain ⟨a1, rfl, rfl⟩ := hpo
  refine ⟨Nat.le_refl _, ?_⟩
  refine g_putF (j := 0) hF hN 0 rfl rfl (by decide) rfl m_49 rfl (tyX3_ok 0 (by decide)) rfl rfl (Nat.le_of_ble_eq_true rfl) dX3_init_14 ?_
  try dsimp only [gput, gputA, List.set, stGs, List.cons_append, List.nil_append]
  refine g_aload_n hF dX3_init_17 rfl ?_
  refine g_new (ci := 4) (fs := [.null, .int 0]) hF rfl tyX4 tyX4_ok m_32 m_33 m_3 (fun j hj => by rcases (show j = 0 ∨ j = 1 by omega) with rfl | rfl <;> rfl) (Nat.le_of_ble_eq_true rfl) (Nat.le_of_ble_eq_true rfl) dX3_init_18 (fun q2 => ?_)
  refine g_dup hF dX3_init_21 rfl ?_
  refine g_bipush (v := (80)) hF dX3_init_22 rfl ?_
  refine g_callI hF (c_Row_init (cap := 80) (by decide)) cal_X4_init rfl m_34 (by decide) (Or.inl rfl) (Nat.le_of_ble_eq_true rfl) (Nat.le_of_ble_eq_true rfl) [2] rfl rfl rfl (Nat.le_of_ble_eq_true rfl) dX3_init_24 (fun r gs1 hpo => ?_)
  obtain ⟨a2, rfl, rfl⟩ := hpo
  refine ⟨Nat.le_refl _, ?_⟩
  refine g_putF (j := 1) hF hN 0 rfl rfl (by decide) rfl m_50 rfl (tyX3_ok 1 (by decide)) rfl rfl (Nat.le_of_ble_eq_true rfl) dX3_init_27 ?_
  try dsimp only [gput, gputA, List.set, stGs, List.cons_append, List.nil_append]
  refine g_aload_n hF dX3_init_30 rfl ?_
  refine g_new (ci := 4) (fs := [.null, .int 0]) hF rfl tyX4 tyX4_ok m_32 m_33 m_3 (fun j hj => by rcases (show j = 0 ∨ j = 1 by omega) with rfl | rfl <;> rfl) (Nat.le_of_ble_eq_true rfl) (Nat.le_of_ble_eq_true rfl) dX3_init_31 (fun q3 => ?_)
  refine g_dup hF dX3_init_34 rfl ?_
  refine g_bipush (v := (80)) hF dX3_init_35 rfl ?_
  refine g_callI hF (c_Row_init (cap := 80) (by decide)) cal_X4_init rfl m_34 (by decide) (Or.inl rfl) (Nat.le_of_ble_eq_true rfl) (Nat.le_of_ble_eq_true rfl) [3] rfl rfl rfl (Nat.le_of_ble_eq_true rfl) dX3_init_37 (fun r gs1 hpo => ?_)
  obtain ⟨a3, rfl, rfl⟩ := hpo
  refine ⟨Nat.le_refl _, ?_⟩
  refine g_putF (j := 2) hF hN 0 rfl rfl (by decide) rfl m_51 rfl (tyX3_ok 2 (by decide)) rfl rfl (Nat.le_of_ble_eq_true rfl) dX3_init_40 ?_
  try dsimp only [gput, gputA, List.set, stGs, List.cons_append, List.nil_append]
  exact g_vret hF hR dX3_init_43 ⟨q1, a1, q2, a2, q3, a3, rfl, rfl⟩
