set_option maxHeartbeats 4000000 in
set_option maxRecDepth 100000 in
theorem c_St_failureOf {E : Env3} {h r1 r2 r3 r4 : Nat} {at' status rd ck : Int32} {a1 n1 : Nat} {f1 : Nat → Int32} {n2 : Nat} {f2 : Nat → Int32} {a3 n3 : Nat} {f3 : Nat → Int32} {a4 n4 : Nat} {f4 : Nat → Int32} {p rc rn rt ac : Nat} {fc : Nat → Int32} {nc : Nat} (h1 : n1 ≤ 24) (h3 : n3 ≤ 8) (h4 : n4 ≤ 30) (hc : nc ≤ 80)  : Cd E none 2 yX5_failureOf cX5_failureOf 3 (some .int) [.ref h, .ref p] [stO h r1 r2 r3 r4 at' status rd ck, rowW E.2.2 r1 a1 24 f1 n1, rowW E.2.2 r3 a3 8 f3 n3, rowW E.2.2 r4 a4 30 f4 n4, progO p rc rn rt, rowW E.2.2 rc ac 80 fc nc] (some (.int (failF (fc, nc) ((f1, n1), (f2, n2), (f3, n3), (f4, n4), at', status, rd, ck)))) [stO h r1 r2 r3 r4 at' status rd ck, rowW E.2.2 r1 a1 24 f1 n1, rowW E.2.2 r3 a3 8 f3 n3, rowW E.2.2 r4 a4 30 f4 n4, progO p rc rn rt, rowW E.2.2 rc ac 80 fc nc] := by
  refine Ct.of [some (.ref h), some (.ref p), none] (by decide +kernel) rfl (Nat.le_of_ble_eq_true rfl) (fun F hE hF hR hN => ?_)
  subst hE
  refine g_aload_n hF dX5_failureOf_0 rfl ?_
  refine g_aload_n hF dX5_failureOf_1 rfl ?_
  refine g_get (j := 4) hF 0 rfl rfl (by decide) rfl m_82 rfl dX5_failureOf_2 ?_
  refine g_callVq hF (c_Prog_has) cal_X3_has rfl m_463 (by decide) (Or.inl rfl) (Nat.zero_le _) (Nat.zero_le _) 4 rfl rfl [4, 5] rfl rfl rfl (Nat.le_of_ble_eq_true rfl) dX5_failureOf_5 ?_
  refine g_if_ne (tgt := 14) hF dX5_failureOf_8 (by decide) (fun c_8 => ?_) (fun c_8 => ?_)
  · refine g_aload_n hF dX5_failureOf_14 rfl ?_
    refine g_aload_n hF dX5_failureOf_15 rfl ?_
    refine g_get (j := 4) hF 0 rfl rfl (by decide) rfl m_82 rfl dX5_failureOf_16 ?_
    refine g_callVq hF (c_Prog_codeAt (by omega)) cal_X3_codeAt rfl m_471 (by decide) (Or.inl rfl) (Nat.zero_le _) (Nat.zero_le _) 4 rfl rfl [4, 5] rfl rfl rfl (Nat.le_of_ble_eq_true rfl) dX5_failureOf_19 ?_
    refine g_istore_n hF dX5_failureOf_22 (Nat.le_of_ble_eq_true rfl) rfl ?_
    refine g_aload_n hF dX5_failureOf_23 rfl ?_
    refine g_get (j := 0) hF 0 rfl rfl (by decide) rfl m_73 rfl dX5_failureOf_24 ?_
    refine g_callVq hF (c_Row_size) cal_X4_size rfl m_479 (by decide) (Or.inl rfl) (Nat.zero_le _) (Nat.zero_le _) 1 rfl rfl [1] rfl rfl rfl (Nat.le_of_ble_eq_true rfl) dX5_failureOf_27 ?_
    refine g_iload_n hF dX5_failureOf_30 rfl ?_
    refine g_callSq hF (c_St_needOnStack) cal_X5_needOnStack rfl m_480 (by decide) (Or.inl rfl) (Nat.zero_le _) (Nat.zero_le _) [] rfl rfl rfl (Nat.le_of_ble_eq_true rfl) dX5_failureOf_31 ?_
    refine g_icmp_lt (tgt := 53) hF dX5_failureOf_34 (by decide) (fun c_34 => ?_) (fun c_34 => ?_)
    · refine g_iconst (v := (2)) hF dX5_failureOf_53 rfl ?_
      exact g_iret hF hR dX5_failureOf_54 ⟨(by simp only [failF, getR, topR, bI_n.mp c_8, eq_true c_34, if_true, if_false, true_and, and_true, false_and, and_false, true_or, or_true, false_or, or_false, not_true_eq_false, not_false_eq_true, Bool.true_eq_false, Bool.false_eq_true, ite_true, ite_false, reduceIte, decide_true, decide_false, Bool.not_true, Bool.not_false]), rfl⟩
    · refine g_iload_n hF dX5_failureOf_37 rfl ?_
      refine g_bipush (v := (19)) hF dX5_failureOf_38 rfl ?_
      refine g_icmp_ne (tgt := 55) hF dX5_failureOf_40 (by decide) (fun c_40 => ?_) (fun c_40 => ?_)
      · refine g_iload_n hF dX5_failureOf_55 rfl ?_
        refine g_bipush (v := (8)) hF dX5_failureOf_56 rfl ?_
        refine g_icmp_ne (tgt := 74) hF dX5_failureOf_58 (by decide) (fun c_58 => ?_) (fun c_58 => ?_)
        · refine g_iload_n hF dX5_failureOf_74 rfl ?_
          refine g_bipush (v := (14)) hF dX5_failureOf_75 rfl ?_
          refine g_icmp_eq (tgt := 86) hF dX5_failureOf_77 (by decide) (fun c_77 => ?_) (fun c_77 => ?_)
          · refine g_aload_n hF dX5_failureOf_86 rfl ?_
            refine g_get (j := 0) hF 0 rfl rfl (by decide) rfl m_73 rfl dX5_failureOf_87 ?_
            refine g_iconst (v := (0)) hF dX5_failureOf_90 rfl ?_
            refine g_callVq hF (c_Row_fromTop (by first | omega | exact clampI_le | (split <;> omega)) (by omega)) cal_X4_fromTop rfl m_483 (by decide) (Or.inl rfl) (Nat.zero_le _) (Nat.zero_le _) 1 rfl rfl [1] rfl rfl rfl (Nat.le_of_ble_eq_true rfl) dX5_failureOf_91 ?_
            refine g_callSNq hF (c_isCell) cal_X8_isCell rfl m_488 (by decide) (Or.inl rfl) (Nat.zero_le _) (Nat.zero_le _) [] rfl rfl rfl (Nat.le_of_ble_eq_true rfl) dX5_failureOf_94 ?_
            refine g_if_ne (tgt := 102) hF dX5_failureOf_97 (by decide) (fun c_97 => ?_) (fun c_97 => ?_)
            · refine g_aload_n hF dX5_failureOf_102 rfl ?_
              refine g_iload_n hF dX5_failureOf_103 rfl ?_
              refine g_callVq hF (c_St_isTooFullFor (by omega) (by omega) (by omega)) cal_X5_isTooFullFor rfl m_491 (by decide) (Or.inl rfl) (Nat.zero_le _) (Nat.zero_le _) 0 rfl rfl [0, 1, 2, 3] rfl rfl rfl (Nat.le_of_ble_eq_true rfl) dX5_failureOf_104 ?_
              refine g_if_eq (tgt := 114) hF dX5_failureOf_107 (by decide) (fun c_107 => ?_) (fun c_107 => ?_)
              · refine g_iconst (v := (0)) hF dX5_failureOf_114 rfl ?_
                exact g_iret hF hR dX5_failureOf_115 ⟨(by simp only [failF, getR, topR, bI_n.mp c_8, eq_false c_34, eq_false c_40, eq_false c_58, eq_true c_77, bI_n.mp c_97, bI_0.mp c_107, if_true, if_false, true_and, and_true, false_and, and_false, true_or, or_true, false_or, or_false, not_true_eq_false, not_false_eq_true, Bool.true_eq_false, Bool.false_eq_true, ite_true, ite_false, reduceIte, decide_true, decide_false, Bool.not_true, Bool.not_false]), rfl⟩
              · refine g_iconst (v := (3)) hF dX5_failureOf_110 rfl ?_
                refine g_goto (tgt := 115) hF dX5_failureOf_111 (by decide) ?_
                exact g_iret hF hR dX5_failureOf_115 ⟨(by simp only [failF, getR, topR, bI_n.mp c_8, eq_false c_34, eq_false c_40, eq_false c_58, eq_true c_77, bI_n.mp c_97, bI_n.mp c_107, if_true, if_false, true_and, and_true, false_and, and_false, true_or, or_true, false_or, or_false, not_true_eq_false, not_false_eq_true, Bool.true_eq_false, Bool.false_eq_true, ite_true, ite_false, reduceIte, decide_true, decide_false, Bool.not_true, Bool.not_false]), rfl⟩
            · refine g_iconst (v := (5)) hF dX5_failureOf_100 rfl ?_
              exact g_iret hF hR dX5_failureOf_101 ⟨(by simp only [failF, getR, topR, bI_n.mp c_8, eq_false c_34, eq_false c_40, eq_false c_58, eq_true c_77, bI_0.mp c_97, if_true, if_false, true_and, and_true, false_and, and_false, true_or, or_true, false_or, or_false, not_true_eq_false, not_false_eq_true, Bool.true_eq_false, Bool.false_eq_true, ite_true, ite_false, reduceIte, decide_true, decide_false, Bool.not_true, Bool.not_false]), rfl⟩
          · refine g_iload_n hF dX5_failureOf_80 rfl ?_
            refine g_bipush (v := (15)) hF dX5_failureOf_81 rfl ?_
            refine g_icmp_ne (tgt := 102) hF dX5_failureOf_83 (by decide) (fun c_83 => ?_) (fun c_83 => ?_)
            · refine g_aload_n hF dX5_failureOf_102 rfl ?_
              refine g_iload_n hF dX5_failureOf_103 rfl ?_
              refine g_callVq hF (c_St_isTooFullFor (by omega) (by omega) (by omega)) cal_X5_isTooFullFor rfl m_491 (by decide) (Or.inl rfl) (Nat.zero_le _) (Nat.zero_le _) 0 rfl rfl [0, 1, 2, 3] rfl rfl rfl (Nat.le_of_ble_eq_true rfl) dX5_failureOf_104 ?_
              refine g_if_eq (tgt := 114) hF dX5_failureOf_107 (by decide) (fun c_107 => ?_) (fun c_107 => ?_)
              · refine g_iconst (v := (0)) hF dX5_failureOf_114 rfl ?_
                exact g_iret hF hR dX5_failureOf_115 ⟨(by simp only [failF, getR, topR, bI_n.mp c_8, eq_false c_34, eq_false c_40, eq_false c_58, eq_false c_77, eq_false c_83, bI_0.mp c_107, if_true, if_false, true_and, and_true, false_and, and_false, true_or, or_true, false_or, or_false, not_true_eq_false, not_false_eq_true, Bool.true_eq_false, Bool.false_eq_true, ite_true, ite_false, reduceIte, decide_true, decide_false, Bool.not_true, Bool.not_false]), rfl⟩
              · refine g_iconst (v := (3)) hF dX5_failureOf_110 rfl ?_
                refine g_goto (tgt := 115) hF dX5_failureOf_111 (by decide) ?_
                exact g_iret hF hR dX5_failureOf_115 ⟨(by simp only [failF, getR, topR, bI_n.mp c_8, eq_false c_34, eq_false c_40, eq_false c_58, eq_false c_77, eq_false c_83, bI_n.mp c_107, if_true, if_false, true_and, and_true, false_and, and_false, true_or, or_true, false_or, or_false, not_true_eq_false, not_false_eq_true, Bool.true_eq_false, Bool.false_eq_true, ite_true, ite_false, reduceIte, decide_true, decide_false, Bool.not_true, Bool.not_false]), rfl⟩
            · refine g_aload_n hF dX5_failureOf_86 rfl ?_
              refine g_get (j := 0) hF 0 rfl rfl (by decide) rfl m_73 rfl dX5_failureOf_87 ?_
              refine g_iconst (v := (0)) hF dX5_failureOf_90 rfl ?_
              refine g_callVq hF (c_Row_fromTop (by first | omega | exact clampI_le | (split <;> omega)) (by omega)) cal_X4_fromTop rfl m_483 (by decide) (Or.inl rfl) (Nat.zero_le _) (Nat.zero_le _) 1 rfl rfl [1] rfl rfl rfl (Nat.le_of_ble_eq_true rfl) dX5_failureOf_91 ?_
              refine g_callSNq hF (c_isCell) cal_X8_isCell rfl m_488 (by decide) (Or.inl rfl) (Nat.zero_le _) (Nat.zero_le _) [] rfl rfl rfl (Nat.le_of_ble_eq_true rfl) dX5_failureOf_94 ?_
              refine g_if_ne (tgt := 102) hF dX5_failureOf_97 (by decide) (fun c_97 => ?_) (fun c_97 => ?_)
              · refine g_aload_n hF dX5_failureOf_102 rfl ?_
                refine g_iload_n hF dX5_failureOf_103 rfl ?_
                refine g_callVq hF (c_St_isTooFullFor (by omega) (by omega) (by omega)) cal_X5_isTooFullFor rfl m_491 (by decide) (Or.inl rfl) (Nat.zero_le _) (Nat.zero_le _) 0 rfl rfl [0, 1, 2, 3] rfl rfl rfl (Nat.le_of_ble_eq_true rfl) dX5_failureOf_104 ?_
                refine g_if_eq (tgt := 114) hF dX5_failureOf_107 (by decide) (fun c_107 => ?_) (fun c_107 => ?_)
                · refine g_iconst (v := (0)) hF dX5_failureOf_114 rfl ?_
                  exact g_iret hF hR dX5_failureOf_115 ⟨(by simp only [failF, getR, topR, bI_n.mp c_8, eq_false c_34, eq_false c_40, eq_false c_58, eq_false c_77, eq_true c_83, bI_n.mp c_97, bI_0.mp c_107, if_true, if_false, true_and, and_true, false_and, and_false, true_or, or_true, false_or, or_false, not_true_eq_false, not_false_eq_true, Bool.true_eq_false, Bool.false_eq_true, ite_true, ite_false, reduceIte, decide_true, decide_false, Bool.not_true, Bool.not_false]), rfl⟩
                · refine g_iconst (v := (3)) hF dX5_failureOf_110 rfl ?_
                  refine g_goto (tgt := 115) hF dX5_failureOf_111 (by decide) ?_
                  exact g_iret hF hR dX5_failureOf_115 ⟨(by simp only [failF, getR, topR, bI_n.mp c_8, eq_false c_34, eq_false c_40, eq_false c_58, eq_false c_77, eq_true c_83, bI_n.mp c_97, bI_n.mp c_107, if_true, if_false, true_and, and_true, false_and, and_false, true_or, or_true, false_or, or_false, not_true_eq_false, not_false_eq_true, Bool.true_eq_false, Bool.false_eq_true, ite_true, ite_false, reduceIte, decide_true, decide_false, Bool.not_true, Bool.not_false]), rfl⟩
              · refine g_iconst (v := (5)) hF dX5_failureOf_100 rfl ?_
                exact g_iret hF hR dX5_failureOf_101 ⟨(by simp only [failF, getR, topR, bI_n.mp c_8, eq_false c_34, eq_false c_40, eq_false c_58, eq_false c_77, eq_true c_83, bI_0.mp c_97, if_true, if_false, true_and, and_true, false_and, and_false, true_or, or_true, false_or, or_false, not_true_eq_false, not_false_eq_true, Bool.true_eq_false, Bool.false_eq_true, ite_true, ite_false, reduceIte, decide_true, decide_false, Bool.not_true, Bool.not_false]), rfl⟩
        · refine g_aload_n hF dX5_failureOf_61 rfl ?_
          refine g_get (j := 0) hF 0 rfl rfl (by decide) rfl m_73 rfl dX5_failureOf_62 ?_
          refine g_iconst (v := (0)) hF dX5_failureOf_65 rfl ?_
          refine g_callVq hF (c_Row_fromTop (by first | omega | exact clampI_le | (split <;> omega)) (by omega)) cal_X4_fromTop rfl m_483 (by decide) (Or.inl rfl) (Nat.zero_le _) (Nat.zero_le _) 1 rfl rfl [1] rfl rfl rfl (Nat.le_of_ble_eq_true rfl) dX5_failureOf_66 ?_
          refine g_if_ne (tgt := 74) hF dX5_failureOf_69 (by decide) (fun c_69 => ?_) (fun c_69 => ?_)
          · refine g_iload_n hF dX5_failureOf_74 rfl ?_
            refine g_bipush (v := (14)) hF dX5_failureOf_75 rfl ?_
            refine g_icmp_eq (tgt := 86) hF dX5_failureOf_77 (by decide) (fun c_77 => ?_) (fun c_77 => ?_)
            · refine g_aload_n hF dX5_failureOf_86 rfl ?_
              refine g_get (j := 0) hF 0 rfl rfl (by decide) rfl m_73 rfl dX5_failureOf_87 ?_
              refine g_iconst (v := (0)) hF dX5_failureOf_90 rfl ?_
              refine g_callVq hF (c_Row_fromTop (by first | omega | exact clampI_le | (split <;> omega)) (by omega)) cal_X4_fromTop rfl m_483 (by decide) (Or.inl rfl) (Nat.zero_le _) (Nat.zero_le _) 1 rfl rfl [1] rfl rfl rfl (Nat.le_of_ble_eq_true rfl) dX5_failureOf_91 ?_
              refine g_callSNq hF (c_isCell) cal_X8_isCell rfl m_488 (by decide) (Or.inl rfl) (Nat.zero_le _) (Nat.zero_le _) [] rfl rfl rfl (Nat.le_of_ble_eq_true rfl) dX5_failureOf_94 ?_
              refine g_if_ne (tgt := 102) hF dX5_failureOf_97 (by decide) (fun c_97 => ?_) (fun c_97 => ?_)
              · refine g_aload_n hF dX5_failureOf_102 rfl ?_
                refine g_iload_n hF dX5_failureOf_103 rfl ?_
                refine g_callVq hF (c_St_isTooFullFor (by omega) (by omega) (by omega)) cal_X5_isTooFullFor rfl m_491 (by decide) (Or.inl rfl) (Nat.zero_le _) (Nat.zero_le _) 0 rfl rfl [0, 1, 2, 3] rfl rfl rfl (Nat.le_of_ble_eq_true rfl) dX5_failureOf_104 ?_
                refine g_if_eq (tgt := 114) hF dX5_failureOf_107 (by decide) (fun c_107 => ?_) (fun c_107 => ?_)
                · refine g_iconst (v := (0)) hF dX5_failureOf_114 rfl ?_
                  exact g_iret hF hR dX5_failureOf_115 ⟨(by simp only [failF, getR, topR, bI_n.mp c_8, eq_false c_34, eq_false c_40, eq_true c_58, eq_false c_69, eq_true c_77, bI_n.mp c_97, bI_0.mp c_107, if_true, if_false, true_and, and_true, false_and, and_false, true_or, or_true, false_or, or_false, not_true_eq_false, not_false_eq_true, Bool.true_eq_false, Bool.false_eq_true, ite_true, ite_false, reduceIte, decide_true, decide_false, Bool.not_true, Bool.not_false]), rfl⟩
                · refine g_iconst (v := (3)) hF dX5_failureOf_110 rfl ?_
                  refine g_goto (tgt := 115) hF dX5_failureOf_111 (by decide) ?_
                  exact g_iret hF hR dX5_failureOf_115 ⟨(by simp only [failF, getR, topR, bI_n.mp c_8, eq_false c_34, eq_false c_40, eq_true c_58, eq_false c_69, eq_true c_77, bI_n.mp c_97, bI_n.mp c_107, if_true, if_false, true_and, and_true, false_and, and_false, true_or, or_true, false_or, or_false, not_true_eq_false, not_false_eq_true, Bool.true_eq_false, Bool.false_eq_true, ite_true, ite_false, reduceIte, decide_true, decide_false, Bool.not_true, Bool.not_false]), rfl⟩
              · refine g_iconst (v := (5)) hF dX5_failureOf_100 rfl ?_
                exact g_iret hF hR dX5_failureOf_101 ⟨(by simp only [failF, getR, topR, bI_n.mp c_8, eq_false c_34, eq_false c_40, eq_true c_58, eq_false c_69, eq_true c_77, bI_0.mp c_97, if_true, if_false, true_and, and_true, false_and, and_false, true_or, or_true, false_or, or_false, not_true_eq_false, not_false_eq_true, Bool.true_eq_false, Bool.false_eq_true, ite_true, ite_false, reduceIte, decide_true, decide_false, Bool.not_true, Bool.not_false]), rfl⟩
            · refine g_iload_n hF dX5_failureOf_80 rfl ?_
              refine g_bipush (v := (15)) hF dX5_failureOf_81 rfl ?_
              refine g_icmp_ne (tgt := 102) hF dX5_failureOf_83 (by decide) (fun c_83 => ?_) (fun c_83 => ?_)
              · refine g_aload_n hF dX5_failureOf_102 rfl ?_
                refine g_iload_n hF dX5_failureOf_103 rfl ?_
                refine g_callVq hF (c_St_isTooFullFor (by omega) (by omega) (by omega)) cal_X5_isTooFullFor rfl m_491 (by decide) (Or.inl rfl) (Nat.zero_le _) (Nat.zero_le _) 0 rfl rfl [0, 1, 2, 3] rfl rfl rfl (Nat.le_of_ble_eq_true rfl) dX5_failureOf_104 ?_
                refine g_if_eq (tgt := 114) hF dX5_failureOf_107 (by decide) (fun c_107 => ?_) (fun c_107 => ?_)
                · refine g_iconst (v := (0)) hF dX5_failureOf_114 rfl ?_
                  exact g_iret hF hR dX5_failureOf_115 ⟨(by simp only [failF, getR, topR, bI_n.mp c_8, eq_false c_34, eq_false c_40, eq_true c_58, eq_false c_69, eq_false c_77, eq_false c_83, bI_0.mp c_107, if_true, if_false, true_and, and_true, false_and, and_false, true_or, or_true, false_or, or_false, not_true_eq_false, not_false_eq_true, Bool.true_eq_false, Bool.false_eq_true, ite_true, ite_false, reduceIte, decide_true, decide_false, Bool.not_true, Bool.not_false]), rfl⟩
                · refine g_iconst (v := (3)) hF dX5_failureOf_110 rfl ?_
                  refine g_goto (tgt := 115) hF dX5_failureOf_111 (by decide) ?_
                  exact g_iret hF hR dX5_failureOf_115 ⟨(by simp only [failF, getR, topR, bI_n.mp c_8, eq_false c_34, eq_false c_40, eq_true c_58, eq_false c_69, eq_false c_77, eq_false c_83, bI_n.mp c_107, if_true, if_false, true_and, and_true, false_and, and_false, true_or, or_true, false_or, or_false, not_true_eq_false, not_false_eq_true, Bool.true_eq_false, Bool.false_eq_true, ite_true, ite_false, reduceIte, decide_true, decide_false, Bool.not_true, Bool.not_false]), rfl⟩
              · refine g_aload_n hF dX5_failureOf_86 rfl ?_
                refine g_get (j := 0) hF 0 rfl rfl (by decide) rfl m_73 rfl dX5_failureOf_87 ?_
                refine g_iconst (v := (0)) hF dX5_failureOf_90 rfl ?_
                refine g_callVq hF (c_Row_fromTop (by first | omega | exact clampI_le | (split <;> omega)) (by omega)) cal_X4_fromTop rfl m_483 (by decide) (Or.inl rfl) (Nat.zero_le _) (Nat.zero_le _) 1 rfl rfl [1] rfl rfl rfl (Nat.le_of_ble_eq_true rfl) dX5_failureOf_91 ?_
                refine g_callSNq hF (c_isCell) cal_X8_isCell rfl m_488 (by decide) (Or.inl rfl) (Nat.zero_le _) (Nat.zero_le _) [] rfl rfl rfl (Nat.le_of_ble_eq_true rfl) dX5_failureOf_94 ?_
                refine g_if_ne (tgt := 102) hF dX5_failureOf_97 (by decide) (fun c_97 => ?_) (fun c_97 => ?_)
                · refine g_aload_n hF dX5_failureOf_102 rfl ?_
                  refine g_iload_n hF dX5_failureOf_103 rfl ?_
                  refine g_callVq hF (c_St_isTooFullFor (by omega) (by omega) (by omega)) cal_X5_isTooFullFor rfl m_491 (by decide) (Or.inl rfl) (Nat.zero_le _) (Nat.zero_le _) 0 rfl rfl [0, 1, 2, 3] rfl rfl rfl (Nat.le_of_ble_eq_true rfl) dX5_failureOf_104 ?_
                  refine g_if_eq (tgt := 114) hF dX5_failureOf_107 (by decide) (fun c_107 => ?_) (fun c_107 => ?_)
                  · refine g_iconst (v := (0)) hF dX5_failureOf_114 rfl ?_
                    exact g_iret hF hR dX5_failureOf_115 ⟨(by simp only [failF, getR, topR, bI_n.mp c_8, eq_false c_34, eq_false c_40, eq_true c_58, eq_false c_69, eq_false c_77, eq_true c_83, bI_n.mp c_97, bI_0.mp c_107, if_true, if_false, true_and, and_true, false_and, and_false, true_or, or_true, false_or, or_false, not_true_eq_false, not_false_eq_true, Bool.true_eq_false, Bool.false_eq_true, ite_true, ite_false, reduceIte, decide_true, decide_false, Bool.not_true, Bool.not_false]), rfl⟩
                  · refine g_iconst (v := (3)) hF dX5_failureOf_110 rfl ?_
                    refine g_goto (tgt := 115) hF dX5_failureOf_111 (by decide) ?_
                    exact g_iret hF hR dX5_failureOf_115 ⟨(by simp only [failF, getR, topR, bI_n.mp c_8, eq_false c_34, eq_false c_40, eq_true c_58, eq_false c_69, eq_false c_77, eq_true c_83, bI_n.mp c_97, bI_n.mp c_107, if_true, if_false, true_and, and_true, false_and, and_false, true_or, or_true, false_or, or_false, not_true_eq_false, not_false_eq_true, Bool.true_eq_false, Bool.false_eq_true, ite_true, ite_false, reduceIte, decide_true, decide_false, Bool.not_true, Bool.not_false]), rfl⟩
                · refine g_iconst (v := (5)) hF dX5_failureOf_100 rfl ?_
                  exact g_iret hF hR dX5_failureOf_101 ⟨(by simp only [failF, getR, topR, bI_n.mp c_8, eq_false c_34, eq_false c_40, eq_true c_58, eq_false c_69, eq_false c_77, eq_true c_83, bI_0.mp c_97, if_true, if_false, true_and, and_true, false_and, and_false, true_or, or_true, false_or, or_false, not_true_eq_false, not_false_eq_true, Bool.true_eq_false, Bool.false_eq_true, ite_true, ite_false, reduceIte, decide_true, decide_false, Bool.not_true, Bool.not_false]), rfl⟩
          · refine g_iconst (v := (4)) hF dX5_failureOf_72 rfl ?_
            exact g_iret hF hR dX5_failureOf_73 ⟨(by simp only [failF, getR, topR, bI_n.mp c_8, eq_false c_34, eq_false c_40, eq_true c_58, eq_true c_69, if_true, if_false, true_and, and_true, false_and, and_false, true_or, or_true, false_or, or_false, not_true_eq_false, not_false_eq_true, Bool.true_eq_false, Bool.false_eq_true, ite_true, ite_false, reduceIte, decide_true, decide_false, Bool.not_true, Bool.not_false]), rfl⟩
      · refine g_aload_n hF dX5_failureOf_43 rfl ?_
        refine g_get (j := 2) hF 0 rfl rfl (by decide) rfl m_78 rfl dX5_failureOf_44 ?_
        refine g_callVq hF (c_Row_size) cal_X4_size rfl m_479 (by decide) (Or.inl rfl) (Nat.zero_le _) (Nat.zero_le _) 2 rfl rfl [2] rfl rfl rfl (Nat.le_of_ble_eq_true rfl) dX5_failureOf_47 ?_
        refine g_if_ne (tgt := 55) hF dX5_failureOf_50 (by decide) (fun c_50 => ?_) (fun c_50 => ?_)
        · refine g_iload_n hF dX5_failureOf_55 rfl ?_
          refine g_bipush (v := (8)) hF dX5_failureOf_56 rfl ?_
          refine g_icmp_ne (tgt := 74) hF dX5_failureOf_58 (by decide) (fun c_58 => ?_) (fun c_58 => ?_)
          · refine g_iload_n hF dX5_failureOf_74 rfl ?_
            refine g_bipush (v := (14)) hF dX5_failureOf_75 rfl ?_
            refine g_icmp_eq (tgt := 86) hF dX5_failureOf_77 (by decide) (fun c_77 => ?_) (fun c_77 => ?_)
            · refine g_aload_n hF dX5_failureOf_86 rfl ?_
              refine g_get (j := 0) hF 0 rfl rfl (by decide) rfl m_73 rfl dX5_failureOf_87 ?_
              refine g_iconst (v := (0)) hF dX5_failureOf_90 rfl ?_
              refine g_callVq hF (c_Row_fromTop (by first | omega | exact clampI_le | (split <;> omega)) (by omega)) cal_X4_fromTop rfl m_483 (by decide) (Or.inl rfl) (Nat.zero_le _) (Nat.zero_le _) 1 rfl rfl [1] rfl rfl rfl (Nat.le_of_ble_eq_true rfl) dX5_failureOf_91 ?_
              refine g_callSNq hF (c_isCell) cal_X8_isCell rfl m_488 (by decide) (Or.inl rfl) (Nat.zero_le _) (Nat.zero_le _) [] rfl rfl rfl (Nat.le_of_ble_eq_true rfl) dX5_failureOf_94 ?_
              refine g_if_ne (tgt := 102) hF dX5_failureOf_97 (by decide) (fun c_97 => ?_) (fun c_97 => ?_)
              · refine g_aload_n hF dX5_failureOf_102 rfl ?_
                refine g_iload_n hF dX5_failureOf_103 rfl ?_
                refine g_callVq hF (c_St_isTooFullFor (by omega) (by omega) (by omega)) cal_X5_isTooFullFor rfl m_491 (by decide) (Or.inl rfl) (Nat.zero_le _) (Nat.zero_le _) 0 rfl rfl [0, 1, 2, 3] rfl rfl rfl (Nat.le_of_ble_eq_true rfl) dX5_failureOf_104 ?_
                refine g_if_eq (tgt := 114) hF dX5_failureOf_107 (by decide) (fun c_107 => ?_) (fun c_107 => ?_)
                · refine g_iconst (v := (0)) hF dX5_failureOf_114 rfl ?_
                  exact g_iret hF hR dX5_failureOf_115 ⟨(by simp only [failF, getR, topR, bI_n.mp c_8, eq_false c_34, eq_true c_40, eq_false c_50, eq_false c_58, eq_true c_77, bI_n.mp c_97, bI_0.mp c_107, if_true, if_false, true_and, and_true, false_and, and_false, true_or, or_true, false_or, or_false, not_true_eq_false, not_false_eq_true, Bool.true_eq_false, Bool.false_eq_true, ite_true, ite_false, reduceIte, decide_true, decide_false, Bool.not_true, Bool.not_false]), rfl⟩
                · refine g_iconst (v := (3)) hF dX5_failureOf_110 rfl ?_
                  refine g_goto (tgt := 115) hF dX5_failureOf_111 (by decide) ?_
                  exact g_iret hF hR dX5_failureOf_115 ⟨(by simp only [failF, getR, topR, bI_n.mp c_8, eq_false c_34, eq_true c_40, eq_false c_50, eq_false c_58, eq_true c_77, bI_n.mp c_97, bI_n.mp c_107, if_true, if_false, true_and, and_true, false_and, and_false, true_or, or_true, false_or, or_false, not_true_eq_false, not_false_eq_true, Bool.true_eq_false, Bool.false_eq_true, ite_true, ite_false, reduceIte, decide_true, decide_false, Bool.not_true, Bool.not_false]), rfl⟩
              · refine g_iconst (v := (5)) hF dX5_failureOf_100 rfl ?_
                exact g_iret hF hR dX5_failureOf_101 ⟨(by simp only [failF, getR, topR, bI_n.mp c_8, eq_false c_34, eq_true c_40, eq_false c_50, eq_false c_58, eq_true c_77, bI_0.mp c_97, if_true, if_false, true_and, and_true, false_and, and_false, true_or, or_true, false_or, or_false, not_true_eq_false, not_false_eq_true, Bool.true_eq_false, Bool.false_eq_true, ite_true, ite_false, reduceIte, decide_true, decide_false, Bool.not_true, Bool.not_false]), rfl⟩
            · refine g_iload_n hF dX5_failureOf_80 rfl ?_
              refine g_bipush (v := (15)) hF dX5_failureOf_81 rfl ?_
              refine g_icmp_ne (tgt := 102) hF dX5_failureOf_83 (by decide) (fun c_83 => ?_) (fun c_83 => ?_)
              · refine g_aload_n hF dX5_failureOf_102 rfl ?_
                refine g_iload_n hF dX5_failureOf_103 rfl ?_
                refine g_callVq hF (c_St_isTooFullFor (by omega) (by omega) (by omega)) cal_X5_isTooFullFor rfl m_491 (by decide) (Or.inl rfl) (Nat.zero_le _) (Nat.zero_le _) 0 rfl rfl [0, 1, 2, 3] rfl rfl rfl (Nat.le_of_ble_eq_true rfl) dX5_failureOf_104 ?_
                refine g_if_eq (tgt := 114) hF dX5_failureOf_107 (by decide) (fun c_107 => ?_) (fun c_107 => ?_)
                · refine g_iconst (v := (0)) hF dX5_failureOf_114 rfl ?_
                  exact g_iret hF hR dX5_failureOf_115 ⟨(by simp only [failF, getR, topR, bI_n.mp c_8, eq_false c_34, eq_true c_40, eq_false c_50, eq_false c_58, eq_false c_77, eq_false c_83, bI_0.mp c_107, if_true, if_false, true_and, and_true, false_and, and_false, true_or, or_true, false_or, or_false, not_true_eq_false, not_false_eq_true, Bool.true_eq_false, Bool.false_eq_true, ite_true, ite_false, reduceIte, decide_true, decide_false, Bool.not_true, Bool.not_false]), rfl⟩
                · refine g_iconst (v := (3)) hF dX5_failureOf_110 rfl ?_
                  refine g_goto (tgt := 115) hF dX5_failureOf_111 (by decide) ?_
                  exact g_iret hF hR dX5_failureOf_115 ⟨(by simp only [failF, getR, topR, bI_n.mp c_8, eq_false c_34, eq_true c_40, eq_false c_50, eq_false c_58, eq_false c_77, eq_false c_83, bI_n.mp c_107, if_true, if_false, true_and, and_true, false_and, and_false, true_or, or_true, false_or, or_false, not_true_eq_false, not_false_eq_true, Bool.true_eq_false, Bool.false_eq_true, ite_true, ite_false, reduceIte, decide_true, decide_false, Bool.not_true, Bool.not_false]), rfl⟩
              · refine g_aload_n hF dX5_failureOf_86 rfl ?_
                refine g_get (j := 0) hF 0 rfl rfl (by decide) rfl m_73 rfl dX5_failureOf_87 ?_
                refine g_iconst (v := (0)) hF dX5_failureOf_90 rfl ?_
                refine g_callVq hF (c_Row_fromTop (by first | omega | exact clampI_le | (split <;> omega)) (by omega)) cal_X4_fromTop rfl m_483 (by decide) (Or.inl rfl) (Nat.zero_le _) (Nat.zero_le _) 1 rfl rfl [1] rfl rfl rfl (Nat.le_of_ble_eq_true rfl) dX5_failureOf_91 ?_
                refine g_callSNq hF (c_isCell) cal_X8_isCell rfl m_488 (by decide) (Or.inl rfl) (Nat.zero_le _) (Nat.zero_le _) [] rfl rfl rfl (Nat.le_of_ble_eq_true rfl) dX5_failureOf_94 ?_
                refine g_if_ne (tgt := 102) hF dX5_failureOf_97 (by decide) (fun c_97 => ?_) (fun c_97 => ?_)
                · refine g_aload_n hF dX5_failureOf_102 rfl ?_
                  refine g_iload_n hF dX5_failureOf_103 rfl ?_
                  refine g_callVq hF (c_St_isTooFullFor (by omega) (by omega) (by omega)) cal_X5_isTooFullFor rfl m_491 (by decide) (Or.inl rfl) (Nat.zero_le _) (Nat.zero_le _) 0 rfl rfl [0, 1, 2, 3] rfl rfl rfl (Nat.le_of_ble_eq_true rfl) dX5_failureOf_104 ?_
                  refine g_if_eq (tgt := 114) hF dX5_failureOf_107 (by decide) (fun c_107 => ?_) (fun c_107 => ?_)
                  · refine g_iconst (v := (0)) hF dX5_failureOf_114 rfl ?_
                    exact g_iret hF hR dX5_failureOf_115 ⟨(by simp only [failF, getR, topR, bI_n.mp c_8, eq_false c_34, eq_true c_40, eq_false c_50, eq_false c_58, eq_false c_77, eq_true c_83, bI_n.mp c_97, bI_0.mp c_107, if_true, if_false, true_and, and_true, false_and, and_false, true_or, or_true, false_or, or_false, not_true_eq_false, not_false_eq_true, Bool.true_eq_false, Bool.false_eq_true, ite_true, ite_false, reduceIte, decide_true, decide_false, Bool.not_true, Bool.not_false]), rfl⟩
                  · refine g_iconst (v := (3)) hF dX5_failureOf_110 rfl ?_
                    refine g_goto (tgt := 115) hF dX5_failureOf_111 (by decide) ?_
                    exact g_iret hF hR dX5_failureOf_115 ⟨(by simp only [failF, getR, topR, bI_n.mp c_8, eq_false c_34, eq_true c_40, eq_false c_50, eq_false c_58, eq_false c_77, eq_true c_83, bI_n.mp c_97, bI_n.mp c_107, if_true, if_false, true_and, and_true, false_and, and_false, true_or, or_true, false_or, or_false, not_true_eq_false, not_false_eq_true, Bool.true_eq_false, Bool.false_eq_true, ite_true, ite_false, reduceIte, decide_true, decide_false, Bool.not_true, Bool.not_false]), rfl⟩
                · refine g_iconst (v := (5)) hF dX5_failureOf_100 rfl ?_
                  exact g_iret hF hR dX5_failureOf_101 ⟨(by simp only [failF, getR, topR, bI_n.mp c_8, eq_false c_34, eq_true c_40, eq_false c_50, eq_false c_58, eq_false c_77, eq_true c_83, bI_0.mp c_97, if_true, if_false, true_and, and_true, false_and, and_false, true_or, or_true, false_or, or_false, not_true_eq_false, not_false_eq_true, Bool.true_eq_false, Bool.false_eq_true, ite_true, ite_false, reduceIte, decide_true, decide_false, Bool.not_true, Bool.not_false]), rfl⟩
          · refine g_aload_n hF dX5_failureOf_61 rfl ?_
            refine g_get (j := 0) hF 0 rfl rfl (by decide) rfl m_73 rfl dX5_failureOf_62 ?_
            refine g_iconst (v := (0)) hF dX5_failureOf_65 rfl ?_
            refine g_callVq hF (c_Row_fromTop (by first | omega | exact clampI_le | (split <;> omega)) (by omega)) cal_X4_fromTop rfl m_483 (by decide) (Or.inl rfl) (Nat.zero_le _) (Nat.zero_le _) 1 rfl rfl [1] rfl rfl rfl (Nat.le_of_ble_eq_true rfl) dX5_failureOf_66 ?_
            refine g_if_ne (tgt := 74) hF dX5_failureOf_69 (by decide) (fun c_69 => ?_) (fun c_69 => ?_)
            · refine g_iload_n hF dX5_failureOf_74 rfl ?_
              refine g_bipush (v := (14)) hF dX5_failureOf_75 rfl ?_
              refine g_icmp_eq (tgt := 86) hF dX5_failureOf_77 (by decide) (fun c_77 => ?_) (fun c_77 => ?_)
              · refine g_aload_n hF dX5_failureOf_86 rfl ?_
                refine g_get (j := 0) hF 0 rfl rfl (by decide) rfl m_73 rfl dX5_failureOf_87 ?_
                refine g_iconst (v := (0)) hF dX5_failureOf_90 rfl ?_
                refine g_callVq hF (c_Row_fromTop (by first | omega | exact clampI_le | (split <;> omega)) (by omega)) cal_X4_fromTop rfl m_483 (by decide) (Or.inl rfl) (Nat.zero_le _) (Nat.zero_le _) 1 rfl rfl [1] rfl rfl rfl (Nat.le_of_ble_eq_true rfl) dX5_failureOf_91 ?_
                refine g_callSNq hF (c_isCell) cal_X8_isCell rfl m_488 (by decide) (Or.inl rfl) (Nat.zero_le _) (Nat.zero_le _) [] rfl rfl rfl (Nat.le_of_ble_eq_true rfl) dX5_failureOf_94 ?_
                refine g_if_ne (tgt := 102) hF dX5_failureOf_97 (by decide) (fun c_97 => ?_) (fun c_97 => ?_)
                · refine g_aload_n hF dX5_failureOf_102 rfl ?_
                  refine g_iload_n hF dX5_failureOf_103 rfl ?_
                  refine g_callVq hF (c_St_isTooFullFor (by omega) (by omega) (by omega)) cal_X5_isTooFullFor rfl m_491 (by decide) (Or.inl rfl) (Nat.zero_le _) (Nat.zero_le _) 0 rfl rfl [0, 1, 2, 3] rfl rfl rfl (Nat.le_of_ble_eq_true rfl) dX5_failureOf_104 ?_
                  refine g_if_eq (tgt := 114) hF dX5_failureOf_107 (by decide) (fun c_107 => ?_) (fun c_107 => ?_)
                  · refine g_iconst (v := (0)) hF dX5_failureOf_114 rfl ?_
                    exact g_iret hF hR dX5_failureOf_115 ⟨(by simp only [failF, getR, topR, bI_n.mp c_8, eq_false c_34, eq_true c_40, eq_false c_50, eq_true c_58, eq_false c_69, eq_true c_77, bI_n.mp c_97, bI_0.mp c_107, if_true, if_false, true_and, and_true, false_and, and_false, true_or, or_true, false_or, or_false, not_true_eq_false, not_false_eq_true, Bool.true_eq_false, Bool.false_eq_true, ite_true, ite_false, reduceIte, decide_true, decide_false, Bool.not_true, Bool.not_false]), rfl⟩
                  · refine g_iconst (v := (3)) hF dX5_failureOf_110 rfl ?_
                    refine g_goto (tgt := 115) hF dX5_failureOf_111 (by decide) ?_
                    exact g_iret hF hR dX5_failureOf_115 ⟨(by simp only [failF, getR, topR, bI_n.mp c_8, eq_false c_34, eq_true c_40, eq_false c_50, eq_true c_58, eq_false c_69, eq_true c_77, bI_n.mp c_97, bI_n.mp c_107, if_true, if_false, true_and, and_true, false_and, and_false, true_or, or_true, false_or, or_false, not_true_eq_false, not_false_eq_true, Bool.true_eq_false, Bool.false_eq_true, ite_true, ite_false, reduceIte, decide_true, decide_false, Bool.not_true, Bool.not_false]), rfl⟩
                · refine g_iconst (v := (5)) hF dX5_failureOf_100 rfl ?_
                  exact g_iret hF hR dX5_failureOf_101 ⟨(by simp only [failF, getR, topR, bI_n.mp c_8, eq_false c_34, eq_true c_40, eq_false c_50, eq_true c_58, eq_false c_69, eq_true c_77, bI_0.mp c_97, if_true, if_false, true_and, and_true, false_and, and_false, true_or, or_true, false_or, or_false, not_true_eq_false, not_false_eq_true, Bool.true_eq_false, Bool.false_eq_true, ite_true, ite_false, reduceIte, decide_true, decide_false, Bool.not_true, Bool.not_false]), rfl⟩
              · refine g_iload_n hF dX5_failureOf_80 rfl ?_
                refine g_bipush (v := (15)) hF dX5_failureOf_81 rfl ?_
                refine g_icmp_ne (tgt := 102) hF dX5_failureOf_83 (by decide) (fun c_83 => ?_) (fun c_83 => ?_)
                · refine g_aload_n hF dX5_failureOf_102 rfl ?_
                  refine g_iload_n hF dX5_failureOf_103 rfl ?_
                  refine g_callVq hF (c_St_isTooFullFor (by omega) (by omega) (by omega)) cal_X5_isTooFullFor rfl m_491 (by decide) (Or.inl rfl) (Nat.zero_le _) (Nat.zero_le _) 0 rfl rfl [0, 1, 2, 3] rfl rfl rfl (Nat.le_of_ble_eq_true rfl) dX5_failureOf_104 ?_
                  refine g_if_eq (tgt := 114) hF dX5_failureOf_107 (by decide) (fun c_107 => ?_) (fun c_107 => ?_)
                  · refine g_iconst (v := (0)) hF dX5_failureOf_114 rfl ?_
                    exact g_iret hF hR dX5_failureOf_115 ⟨(by simp only [failF, getR, topR, bI_n.mp c_8, eq_false c_34, eq_true c_40, eq_false c_50, eq_true c_58, eq_false c_69, eq_false c_77, eq_false c_83, bI_0.mp c_107, if_true, if_false, true_and, and_true, false_and, and_false, true_or, or_true, false_or, or_false, not_true_eq_false, not_false_eq_true, Bool.true_eq_false, Bool.false_eq_true, ite_true, ite_false, reduceIte, decide_true, decide_false, Bool.not_true, Bool.not_false]), rfl⟩
                  · refine g_iconst (v := (3)) hF dX5_failureOf_110 rfl ?_
                    refine g_goto (tgt := 115) hF dX5_failureOf_111 (by decide) ?_
                    exact g_iret hF hR dX5_failureOf_115 ⟨(by simp only [failF, getR, topR, bI_n.mp c_8, eq_false c_34, eq_true c_40, eq_false c_50, eq_true c_58, eq_false c_69, eq_false c_77, eq_false c_83, bI_n.mp c_107, if_true, if_false, true_and, and_true, false_and, and_false, true_or, or_true, false_or, or_false, not_true_eq_false, not_false_eq_true, Bool.true_eq_false, Bool.false_eq_true, ite_true, ite_false, reduceIte, decide_true, decide_false, Bool.not_true, Bool.not_false]), rfl⟩
                · refine g_aload_n hF dX5_failureOf_86 rfl ?_
                  refine g_get (j := 0) hF 0 rfl rfl (by decide) rfl m_73 rfl dX5_failureOf_87 ?_
                  refine g_iconst (v := (0)) hF dX5_failureOf_90 rfl ?_
                  refine g_callVq hF (c_Row_fromTop (by first | omega | exact clampI_le | (split <;> omega)) (by omega)) cal_X4_fromTop rfl m_483 (by decide) (Or.inl rfl) (Nat.zero_le _) (Nat.zero_le _) 1 rfl rfl [1] rfl rfl rfl (Nat.le_of_ble_eq_true rfl) dX5_failureOf_91 ?_
                  refine g_callSNq hF (c_isCell) cal_X8_isCell rfl m_488 (by decide) (Or.inl rfl) (Nat.zero_le _) (Nat.zero_le _) [] rfl rfl rfl (Nat.le_of_ble_eq_true rfl) dX5_failureOf_94 ?_
                  refine g_if_ne (tgt := 102) hF dX5_failureOf_97 (by decide) (fun c_97 => ?_) (fun c_97 => ?_)
                  · refine g_aload_n hF dX5_failureOf_102 rfl ?_
                    refine g_iload_n hF dX5_failureOf_103 rfl ?_
                    refine g_callVq hF (c_St_isTooFullFor (by omega) (by omega) (by omega)) cal_X5_isTooFullFor rfl m_491 (by decide) (Or.inl rfl) (Nat.zero_le _) (Nat.zero_le _) 0 rfl rfl [0, 1, 2, 3] rfl rfl rfl (Nat.le_of_ble_eq_true rfl) dX5_failureOf_104 ?_
                    refine g_if_eq (tgt := 114) hF dX5_failureOf_107 (by decide) (fun c_107 => ?_) (fun c_107 => ?_)
                    · refine g_iconst (v := (0)) hF dX5_failureOf_114 rfl ?_
                      exact g_iret hF hR dX5_failureOf_115 ⟨(by simp only [failF, getR, topR, bI_n.mp c_8, eq_false c_34, eq_true c_40, eq_false c_50, eq_true c_58, eq_false c_69, eq_false c_77, eq_true c_83, bI_n.mp c_97, bI_0.mp c_107, if_true, if_false, true_and, and_true, false_and, and_false, true_or, or_true, false_or, or_false, not_true_eq_false, not_false_eq_true, Bool.true_eq_false, Bool.false_eq_true, ite_true, ite_false, reduceIte, decide_true, decide_false, Bool.not_true, Bool.not_false]), rfl⟩
                    · refine g_iconst (v := (3)) hF dX5_failureOf_110 rfl ?_
                      refine g_goto (tgt := 115) hF dX5_failureOf_111 (by decide) ?_
                      exact g_iret hF hR dX5_failureOf_115 ⟨(by simp only [failF, getR, topR, bI_n.mp c_8, eq_false c_34, eq_true c_40, eq_false c_50, eq_true c_58, eq_false c_69, eq_false c_77, eq_true c_83, bI_n.mp c_97, bI_n.mp c_107, if_true, if_false, true_and, and_true, false_and, and_false, true_or, or_true, false_or, or_false, not_true_eq_false, not_false_eq_true, Bool.true_eq_false, Bool.false_eq_true, ite_true, ite_false, reduceIte, decide_true, decide_false, Bool.not_true, Bool.not_false]), rfl⟩
                  · refine g_iconst (v := (5)) hF dX5_failureOf_100 rfl ?_
                    exact g_iret hF hR dX5_failureOf_101 ⟨(by simp only [failF, getR, topR, bI_n.mp c_8, eq_false c_34, eq_true c_40, eq_false c_50, eq_true c_58, eq_false c_69, eq_false c_77, eq_true c_83, bI_0.mp c_97, if_true, if_false, true_and, and_true, false_and, and_false, true_or, or_true, false_or, or_false, not_true_eq_false, not_false_eq_true, Bool.true_eq_false, Bool.false_eq_true, ite_true, ite_false, reduceIte, decide_true, decide_false, Bool.not_true, Bool.not_false]), rfl⟩
            · refine g_iconst (v := (4)) hF dX5_failureOf_72 rfl ?_
              exact g_iret hF hR dX5_failureOf_73 ⟨(by simp only [failF, getR, topR, bI_n.mp c_8, eq_false c_34, eq_true c_40, eq_false c_50, eq_true c_58, eq_true c_69, if_true, if_false, true_and, and_true, false_and, and_false, true_or, or_true, false_or, or_false, not_true_eq_false, not_false_eq_true, Bool.true_eq_false, Bool.false_eq_true, ite_true, ite_false, reduceIte, decide_true, decide_false, Bool.not_true, Bool.not_false]), rfl⟩
        · refine g_iconst (v := (2)) hF dX5_failureOf_53 rfl ?_
          exact g_iret hF hR dX5_failureOf_54 ⟨(by simp only [failF, getR, topR, bI_n.mp c_8, eq_false c_34, eq_true c_40, eq_true c_50, if_true, if_false, true_and, and_true, false_and, and_false, true_or, or_true, false_or, or_false, not_true_eq_false, not_false_eq_true, Bool.true_eq_false, Bool.false_eq_true, ite_true, ite_false, reduceIte, decide_true, decide_false, Bool.not_true, Bool.not_false]), rfl⟩
  · refine g_bipush (v := (6)) hF dX5_failureOf_11 rfl ?_
    exact g_iret hF hR dX5_failureOf_13 ⟨(by simp only [failF, getR, topR, bI_0.mp c_8, if_true, if_false, true_and, and_true, false_and, and_false, true_or, or_true, false_or, or_false, not_true_eq_false, not_false_eq_true, Bool.true_eq_false, Bool.false_eq_true, ite_true, ite_false, reduceIte, decide_true, decide_false, Bool.not_true, Bool.not_false]), rfl⟩
set_option maxHeartbeats 4000000 in
set_option maxRecDepth 100000 in
theorem c_S_readies {E : Env3} {A : AV} {v : SV} {p rc rn rt ac : Nat} {fc : Nat → Int32} {nc : Nat} (hv : okS v) (hc : nc ≤ 80)  : Cd E none 3 yX5_readies cX5_readies 2 (some .boolean) [.ref A.1, .ref p] (stGs E.2.2 A v ++ [progO p rc rn rt, rowW E.2.2 rc ac 80 fc nc]) (some (.int (bI (decide ((readyF (fc, nc) v).2.2.2.2.2.1 = 0))))) (stGs E.2.2 A (readyF (fc, nc) v) ++ [progO p rc rn rt, rowW E.2.2 rc ac 80 fc nc]) := by
  refine Ct.of [some (.ref A.1), some (.ref p)] (by decide +kernel) rfl (Nat.le_of_ble_eq_true rfl) (fun F hE hF hR hN => ?_)
  subst hE
  obtain ⟨⟨f1, n1⟩, ⟨f2, n2⟩, ⟨f3, n3⟩, ⟨f4, n4⟩, at', status, rd, ck⟩ := v
  obtain ⟨h, ⟨r1, a1⟩, ⟨r2, a2⟩, ⟨r3, a3⟩, r4, a4⟩ := A
  obtain ⟨h1, h2, h3, h4⟩ := hv
  dsimp only at h1 h2 h3 h4
  refine g_regroup (gs' := [stO h r1 r2 r3 r4 at' status rd ck, rowW F.1.2.2 r1 a1 24 f1 n1, rowW F.1.2.2 r2 a2 12 f2 n2, rowW F.1.2.2 r3 a3 8 f3 n3, rowW F.1.2.2 r4 a4 30 f4 n4, progO p rc rn rt, rowW F.1.2.2 rc ac 80 fc nc]) rfl ?_
  refine g_aload_n hF dX5_readies_0 rfl ?_
  refine g_get (j := 5) hF 0 rfl rfl (by decide) rfl m_85 rfl dX5_readies_1 ?_
  refine g_if_ne (tgt := 16) hF dX5_readies_4 (by decide) (fun c_4 => ?_) (fun c_4 => ?_)
  · refine g_aload_n hF dX5_readies_16 rfl ?_
    refine g_get (j := 5) hF 0 rfl rfl (by decide) rfl m_85 rfl dX5_readies_17 ?_
    refine g_if_ne (tgt := 27) hF dX5_readies_20 (by decide) (fun c_20 => ?_) (fun c_20 => absurd c_20 c_4)
    refine g_iconst (v := (0)) hF dX5_readies_27 rfl ?_
    refine g_regroup (gs' := stGs F.1.2.2 (h, (r1, a1), (r2, a2), (r3, a3), r4, a4) (readyF (fc, nc) ((f1, n1), (f2, n2), (f3, n3), (f4, n4), at', status, rd, ck)) ++ [progO p rc rn rt, rowW F.1.2.2 rc ac 80 fc nc]) (by simp only [readyF, eq_false c_4, eq_false c_20, if_true, if_false, true_and, and_true, false_and, and_false, true_or, or_true, false_or, or_false, not_true_eq_false, not_false_eq_true, Bool.true_eq_false, Bool.false_eq_true, ite_true, ite_false, reduceIte, decide_true, decide_false, Bool.not_true, Bool.not_false]; rfl) ?_
    exact g_zret hF hR dX5_readies_28 rfl ⟨(by simp only [readyF, eq_false c_4, eq_false c_20, if_true, if_false, true_and, and_true, false_and, and_false, true_or, or_true, false_or, or_false, not_true_eq_false, not_false_eq_true, Bool.true_eq_false, Bool.false_eq_true, ite_true, ite_false, reduceIte, decide_true, decide_false, Bool.not_true, Bool.not_false, bI]), rfl⟩
  · refine g_aload_n hF dX5_readies_7 rfl ?_
    refine g_aload_n hF dX5_readies_8 rfl ?_
    refine g_aload_n hF dX5_readies_9 rfl ?_
    refine g_callVq hF (c_St_failureOf (f2 := f2) (n2 := n2) (by omega) (by omega) (by omega) (by omega)) cal_X5_failureOf rfl m_459 (by decide) (Or.inl rfl) (Nat.zero_le _) (Nat.zero_le _) 0 rfl rfl [0, 1, 3, 4, 5, 6] rfl rfl rfl (Nat.le_of_ble_eq_true rfl) dX5_readies_10 ?_
    refine g_put (j := 5) hF 0 rfl rfl (by decide) rfl m_85 rfl (tyX5_ok 5 (by decide)) rfl rfl (Nat.le_of_ble_eq_true rfl) dX5_readies_13 ?_
    try dsimp only [gput, gputA, List.set, stGs, List.cons_append, List.nil_append]
    refine g_aload_n hF dX5_readies_16 rfl ?_
    refine g_get (j := 5) hF 0 rfl rfl (by decide) rfl m_85 rfl dX5_readies_17 ?_
    refine g_if_ne (tgt := 27) hF dX5_readies_20 (by decide) (fun c_20 => ?_) (fun c_20 => ?_)
    · refine g_iconst (v := (0)) hF dX5_readies_27 rfl ?_
      refine g_regroup (gs' := stGs F.1.2.2 (h, (r1, a1), (r2, a2), (r3, a3), r4, a4) (readyF (fc, nc) ((f1, n1), (f2, n2), (f3, n3), (f4, n4), at', status, rd, ck)) ++ [progO p rc rn rt, rowW F.1.2.2 rc ac 80 fc nc]) (by simp only [readyF, eq_true c_4, eq_false c_20, if_true, if_false, true_and, and_true, false_and, and_false, true_or, or_true, false_or, or_false, not_true_eq_false, not_false_eq_true, Bool.true_eq_false, Bool.false_eq_true, ite_true, ite_false, reduceIte, decide_true, decide_false, Bool.not_true, Bool.not_false]; rfl) ?_
      exact g_zret hF hR dX5_readies_28 rfl ⟨(by simp only [readyF, eq_true c_4, eq_false c_20, if_true, if_false, true_and, and_true, false_and, and_false, true_or, or_true, false_or, or_false, not_true_eq_false, not_false_eq_true, Bool.true_eq_false, Bool.false_eq_true, ite_true, ite_false, reduceIte, decide_true, decide_false, Bool.not_true, Bool.not_false, bI]), rfl⟩
    · refine g_iconst (v := (1)) hF dX5_readies_23 rfl ?_
      refine g_goto (tgt := 28) hF dX5_readies_24 (by decide) ?_
      refine g_regroup (gs' := stGs F.1.2.2 (h, (r1, a1), (r2, a2), (r3, a3), r4, a4) (readyF (fc, nc) ((f1, n1), (f2, n2), (f3, n3), (f4, n4), at', status, rd, ck)) ++ [progO p rc rn rt, rowW F.1.2.2 rc ac 80 fc nc]) (by simp only [readyF, eq_true c_4, eq_true c_20, if_true, if_false, true_and, and_true, false_and, and_false, true_or, or_true, false_or, or_false, not_true_eq_false, not_false_eq_true, Bool.true_eq_false, Bool.false_eq_true, ite_true, ite_false, reduceIte, decide_true, decide_false, Bool.not_true, Bool.not_false]; rfl) ?_
      exact g_zret hF hR dX5_readies_28 rfl ⟨(by simp only [readyF, eq_true c_4, eq_true c_20, if_true, if_false, true_and, and_true, false_and, and_false, true_or, or_true, false_or, or_false, not_true_eq_false, not_false_eq_true, Bool.true_eq_false, Bool.false_eq_true, ite_true, ite_false, reduceIte, decide_true, decide_false, Bool.not_true, Bool.not_false, bI]), rfl⟩
set_option maxHeartbeats 4000000 in
set_option maxRecDepth 100000 in
theorem c_Mom_describeStore {E : Env3} {q : Nat} {μ : Nat → Int32} {c b a : Int32} : Cd E none 0 yX0_describeStore cX0_describeStore 4 none [.ref q, .int c, .int b, .int a] [momO q μ] none [momO q (storeM μ c b a)] := by
  refine Ct.of [some (.ref q), some (.int c), some (.int b), some (.int a)] (by decide +kernel) rfl (Nat.le_of_ble_eq_true rfl) (fun F hE hF hR hN => ?_)
  subst hE
  refine g_aload_n hF dX0_describeStore_0 rfl ?_
  refine g_iload_n hF dX0_describeStore_1 rfl ?_
  refine g_put (j := 8) hF 0 rfl rfl (by decide) rfl m_135 rfl (tyX0_ok 8 (by decide)) rfl rfl (Nat.le_of_ble_eq_true rfl) dX0_describeStore_2 ?_
  try dsimp only [gput, gputA, List.set, stGs, List.cons_append, List.nil_append]
  refine g_aload_n hF dX0_describeStore_5 rfl ?_
  refine g_iload_n hF dX0_describeStore_6 rfl ?_
  refine g_put (j := 9) hF 0 rfl rfl (by decide) rfl m_139 rfl (tyX0_ok 9 (by decide)) rfl rfl (Nat.le_of_ble_eq_true rfl) dX0_describeStore_7 ?_
  try dsimp only [gput, gputA, List.set, stGs, List.cons_append, List.nil_append]
  refine g_aload_n hF dX0_describeStore_10 rfl ?_
  refine g_iload_n hF dX0_describeStore_11 rfl ?_
  refine g_put (j := 10) hF 0 rfl rfl (by decide) rfl m_142 rfl (tyX0_ok 10 (by decide)) rfl rfl (Nat.le_of_ble_eq_true rfl) dX0_describeStore_12 ?_
  try dsimp only [gput, gputA, List.set, stGs, List.cons_append, List.nil_append]
  exact g_vret hF hR dX0_describeStore_15 ⟨rfl, rfl⟩
set_option maxHeartbeats 4000000 in
set_option maxRecDepth 100000 in
theorem c_Mom_tellOf {E : Env3} {q : Nat} {μ : Nat → Int32} {k : Int32} : Cd E none 0 yX0_tellOf cX0_tellOf 2 (some .int) [.ref q, .int k] [momO q μ] (some (.int (if k = 0 then μ 0 else if k = 1 then μ 1 else if k = 2 then μ 2 else μ 4))) [momO q μ] := by
  refine Ct.of [some (.ref q), some (.int k)] (by decide +kernel) rfl (Nat.le_of_ble_eq_true rfl) (fun F hE hF hR hN => ?_)
  subst hE
  refine g_iload_n hF dX0_tellOf_0 rfl ?_
  by_cases t1_0 : k = 0
  · refine g_tableIn (off := 27) (tgt := 28) hF dX0_tellOf_1 (by rw [t1_0]; decide) (by rw [t1_0]; decide) (by rw [t1_0]; rfl) (by decide) ?_
    refine g_aload_n hF dX0_tellOf_28 rfl ?_
    refine g_get (j := 0) hF 0 rfl rfl (by decide) rfl m_122 rfl dX0_tellOf_29 ?_
    exact g_iret hF hR dX0_tellOf_32 ⟨(by rw [t1_0]; rfl), rfl⟩
  by_cases t1_1 : k = 1
  · refine g_tableIn (off := 32) (tgt := 33) hF dX0_tellOf_1 (by rw [t1_1]; decide) (by rw [t1_1]; decide) (by rw [t1_1]; rfl) (by decide) ?_
    refine g_aload_n hF dX0_tellOf_33 rfl ?_
    refine g_get (j := 1) hF 0 rfl rfl (by decide) rfl m_125 rfl dX0_tellOf_34 ?_
    exact g_iret hF hR dX0_tellOf_37 ⟨(by rw [t1_1]; rfl), rfl⟩
  by_cases t1_2 : k = 2
  · refine g_tableIn (off := 37) (tgt := 38) hF dX0_tellOf_1 (by rw [t1_2]; decide) (by rw [t1_2]; decide) (by rw [t1_2]; rfl) (by decide) ?_
    refine g_aload_n hF dX0_tellOf_38 rfl ?_
    refine g_get (j := 2) hF 0 rfl rfl (by decide) rfl m_127 rfl dX0_tellOf_39 ?_
    exact g_iret hF hR dX0_tellOf_42 ⟨(by rw [t1_2]; rfl), rfl⟩
  refine g_tableOut (tgt := 43) hF dX0_tellOf_1 (by have z0 := lv_neT t1_0 (a := 0) rfl; have z1 := lv_neT t1_1 (a := 1) rfl; have z2 := lv_neT t1_2 (a := 2) rfl; omega) (by decide) ?_
  refine g_aload_n hF dX0_tellOf_43 rfl ?_
  refine g_get (j := 4) hF 0 rfl rfl (by decide) rfl m_130 rfl dX0_tellOf_44 ?_
  exact g_iret hF hR dX0_tellOf_47 ⟨(by simp only [eq_false t1_0, eq_false t1_1, eq_false t1_2, reduceIte]), rfl⟩
set_option maxHeartbeats 4000000 in
set_option maxRecDepth 100000 in
theorem c_S_describe {E : Env3} {A : AV} {v : SV} {q : Nat} {μ : Nat → Int32} {p rc rn rt ac an : Nat} {fc fn : Nat → Int32} {nc nn : Nat} (hv : okS v) (hc : nc ≤ 80) (hnn : nn ≤ 80)  : Cd E none 2 yX5_describe cX5_describe 4 none [.ref A.1, .ref q, .ref p] (stGs E.2.2 A v ++ [momO q μ, progO p rc rn rt, rowW E.2.2 rc ac 80 fc nc, rowW E.2.2 rn an 80 fn nn]) none (stGs E.2.2 A (v) ++ [momO q (descM (rowGet fc nc v.2.2.2.2.1) (rowGet fn nn v.2.2.2.2.1) μ v), progO p rc rn rt, rowW E.2.2 rc ac 80 fc nc, rowW E.2.2 rn an 80 fn nn]) := by
  refine Ct.of [some (.ref A.1), some (.ref q), some (.ref p), none] (by decide +kernel) rfl (Nat.le_of_ble_eq_true rfl) (fun F hE hF hR hN => ?_)
  subst hE
  obtain ⟨⟨f1, n1⟩, ⟨f2, n2⟩, ⟨f3, n3⟩, ⟨f4, n4⟩, at', status, rd, ck⟩ := v
  obtain ⟨h, ⟨r1, a1⟩, ⟨r2, a2⟩, ⟨r3, a3⟩, r4, a4⟩ := A
  obtain ⟨h1, h2, h3, h4⟩ := hv
  dsimp only at h1 h2 h3 h4
  refine g_regroup (gs' := [stO h r1 r2 r3 r4 at' status rd ck, rowW F.1.2.2 r1 a1 24 f1 n1, rowW F.1.2.2 r2 a2 12 f2 n2, rowW F.1.2.2 r3 a3 8 f3 n3, rowW F.1.2.2 r4 a4 30 f4 n4, momO q μ, progO p rc rn rt, rowW F.1.2.2 rc ac 80 fc nc, rowW F.1.2.2 rn an 80 fn nn]) rfl ?_
  refine g_aload_n hF dX5_describe_0 rfl ?_
  refine g_aload_n hF dX5_describe_1 rfl ?_
  refine g_get (j := 4) hF 0 rfl rfl (by decide) rfl m_82 rfl dX5_describe_2 ?_
  refine g_callVq hF (c_Prog_codeAt (by omega)) cal_X3_codeAt rfl m_471 (by decide) (Or.inl rfl) (Nat.zero_le _) (Nat.zero_le _) 6 rfl rfl [6, 7] rfl rfl rfl (Nat.le_of_ble_eq_true rfl) dX5_describe_5 ?_
  refine g_istore_n hF dX5_describe_8 (Nat.le_of_ble_eq_true rfl) rfl ?_
  refine g_aload_n hF dX5_describe_9 rfl ?_
  refine g_aload_n hF dX5_describe_10 rfl ?_
  refine g_get (j := 4) hF 0 rfl rfl (by decide) rfl m_82 rfl dX5_describe_11 ?_
  refine g_putN (j := 0) hF 5 rfl rfl (by decide) rfl m_124 rfl (tyX0_ok 0 (by decide)) rfl rfl (Nat.le_of_ble_eq_true rfl) dX5_describe_14 ?_
  try dsimp only [gput, gputA, List.set, stGs, List.cons_append, List.nil_append]
  refine g_aload_n hF dX5_describe_17 rfl ?_
  refine g_aload_n hF dX5_describe_18 rfl ?_
  refine g_get (j := 0) hF 0 rfl rfl (by decide) rfl m_73 rfl dX5_describe_19 ?_
  refine g_callVq hF (c_Row_size) cal_X4_size rfl m_479 (by decide) (Or.inl rfl) (Nat.zero_le _) (Nat.zero_le _) 1 rfl rfl [1] rfl rfl rfl (Nat.le_of_ble_eq_true rfl) dX5_describe_22 ?_
  refine g_putN (j := 1) hF 5 rfl rfl (by decide) rfl m_126 rfl (tyX0_ok 1 (by decide)) rfl rfl (Nat.le_of_ble_eq_true rfl) dX5_describe_25 ?_
  try dsimp only [gput, gputA, List.set, stGs, List.cons_append, List.nil_append]
  refine g_aload_n hF dX5_describe_28 rfl ?_
  refine g_aload_n hF dX5_describe_29 rfl ?_
  refine g_get (j := 0) hF 0 rfl rfl (by decide) rfl m_73 rfl dX5_describe_30 ?_
  refine g_iconst (v := (0)) hF dX5_describe_33 rfl ?_
  refine g_callVq hF (c_Row_fromTop (by first | omega | exact clampI_le | (split <;> omega)) (by omega)) cal_X4_fromTop rfl m_483 (by decide) (Or.inl rfl) (Nat.zero_le _) (Nat.zero_le _) 1 rfl rfl [1] rfl rfl rfl (Nat.le_of_ble_eq_true rfl) dX5_describe_34 ?_
  refine g_putN (j := 2) hF 5 rfl rfl (by decide) rfl m_128 rfl (tyX0_ok 2 (by decide)) rfl rfl (Nat.le_of_ble_eq_true rfl) dX5_describe_37 ?_
  try dsimp only [gput, gputA, List.set, stGs, List.cons_append, List.nil_append]
  refine g_aload_n hF dX5_describe_40 rfl ?_
  refine g_aload_n hF dX5_describe_41 rfl ?_
  refine g_get (j := 0) hF 0 rfl rfl (by decide) rfl m_73 rfl dX5_describe_42 ?_
  refine g_iconst (v := (1)) hF dX5_describe_45 rfl ?_
  refine g_callVq hF (c_Row_fromTop (by first | omega | exact clampI_le | (split <;> omega)) (by omega)) cal_X4_fromTop rfl m_483 (by decide) (Or.inl rfl) (Nat.zero_le _) (Nat.zero_le _) 1 rfl rfl [1] rfl rfl rfl (Nat.le_of_ble_eq_true rfl) dX5_describe_46 ?_
  refine g_putN (j := 3) hF 5 rfl rfl (by decide) rfl m_129 rfl (tyX0_ok 3 (by decide)) rfl rfl (Nat.le_of_ble_eq_true rfl) dX5_describe_49 ?_
  try dsimp only [gput, gputA, List.set, stGs, List.cons_append, List.nil_append]
  refine g_aload_n hF dX5_describe_52 rfl ?_
  refine g_aload_n hF dX5_describe_53 rfl ?_
  refine g_get (j := 2) hF 0 rfl rfl (by decide) rfl m_78 rfl dX5_describe_54 ?_
  refine g_callVq hF (c_Row_size) cal_X4_size rfl m_479 (by decide) (Or.inl rfl) (Nat.zero_le _) (Nat.zero_le _) 3 rfl rfl [3] rfl rfl rfl (Nat.le_of_ble_eq_true rfl) dX5_describe_57 ?_
  refine g_putN (j := 4) hF 5 rfl rfl (by decide) rfl m_131 rfl (tyX0_ok 4 (by decide)) rfl rfl (Nat.le_of_ble_eq_true rfl) dX5_describe_60 ?_
  try dsimp only [gput, gputA, List.set, stGs, List.cons_append, List.nil_append]
  refine g_aload_n hF dX5_describe_63 rfl ?_
  refine g_aload_n hF dX5_describe_64 rfl ?_
  refine g_get (j := 2) hF 0 rfl rfl (by decide) rfl m_78 rfl dX5_describe_65 ?_
  refine g_iconst (v := (0)) hF dX5_describe_68 rfl ?_
  refine g_callVq hF (c_Row_fromTop (by first | omega | exact clampI_le | (split <;> omega)) (by omega)) cal_X4_fromTop rfl m_483 (by decide) (Or.inl rfl) (Nat.zero_le _) (Nat.zero_le _) 3 rfl rfl [3] rfl rfl rfl (Nat.le_of_ble_eq_true rfl) dX5_describe_69 ?_
  refine g_putN (j := 5) hF 5 rfl rfl (by decide) rfl m_132 rfl (tyX0_ok 5 (by decide)) rfl rfl (Nat.le_of_ble_eq_true rfl) dX5_describe_72 ?_
  try dsimp only [gput, gputA, List.set, stGs, List.cons_append, List.nil_append]
  refine g_aload_n hF dX5_describe_75 rfl ?_
  refine g_aload_n hF dX5_describe_76 rfl ?_
  refine g_get (j := 6) hF 0 rfl rfl (by decide) rfl m_88 rfl dX5_describe_77 ?_
  refine g_putN (j := 6) hF 5 rfl rfl (by decide) rfl m_133 rfl (tyX0_ok 6 (by decide)) rfl rfl (Nat.le_of_ble_eq_true rfl) dX5_describe_80 ?_
  try dsimp only [gput, gputA, List.set, stGs, List.cons_append, List.nil_append]
  refine g_aload_n hF dX5_describe_83 rfl ?_
  refine g_aload_n hF dX5_describe_84 rfl ?_
  refine g_get (j := 3) hF 0 rfl rfl (by decide) rfl m_80 rfl dX5_describe_85 ?_
  refine g_callVq hF (c_Row_size) cal_X4_size rfl m_479 (by decide) (Or.inl rfl) (Nat.zero_le _) (Nat.zero_le _) 4 rfl rfl [4] rfl rfl rfl (Nat.le_of_ble_eq_true rfl) dX5_describe_88 ?_
  refine g_putN (j := 7) hF 5 rfl rfl (by decide) rfl m_134 rfl (tyX0_ok 7 (by decide)) rfl rfl (Nat.le_of_ble_eq_true rfl) dX5_describe_91 ?_
  try dsimp only [gput, gputA, List.set, stGs, List.cons_append, List.nil_append]
  refine g_aload_n hF dX5_describe_94 rfl ?_
  refine g_iconst (v := (-1)) hF dX5_describe_95 rfl ?_
  refine g_putN (j := 8) hF 5 rfl rfl (by decide) rfl m_138 rfl (tyX0_ok 8 (by decide)) rfl rfl (Nat.le_of_ble_eq_true rfl) dX5_describe_96 ?_
  try dsimp only [gput, gputA, List.set, stGs, List.cons_append, List.nil_append]
  refine g_regroup (gs' := [stO h r1 r2 r3 r4 at' status rd ck, rowW F.1.2.2 r1 a1 24 f1 n1, rowW F.1.2.2 r2 a2 12 f2 n2, rowW F.1.2.2 r3 a3 8 f3 n3, rowW F.1.2.2 r4 a4 30 f4 n4, momO q (baseM μ ((f1, n1), (f2, n2), (f3, n3), (f4, n4), at', status, rd, ck)), progO p rc rn rt, rowW F.1.2.2 rc ac 80 fc nc, rowW F.1.2.2 rn an 80 fn nn]) rfl ?_
  refine g_iload_n hF dX5_describe_99 rfl ?_
  refine g_bipush (v := (13)) hF dX5_describe_100 rfl ?_
  refine g_icmp_ne (tgt := 136) hF dX5_describe_102 (by decide) (fun c_102 => ?_) (fun c_102 => ?_)
  · refine g_iload_n hF dX5_describe_136 rfl ?_
    refine g_bipush (v := (15)) hF dX5_describe_137 rfl ?_
    refine g_icmp_ne (tgt := 165) hF dX5_describe_139 (by decide) (fun c_139 => ?_) (fun c_139 => ?_)
    · refine g_regroup (gs' := stGs F.1.2.2 (h, (r1, a1), (r2, a2), (r3, a3), r4, a4) (((f1, n1), (f2, n2), (f3, n3), (f4, n4), at', status, rd, ck)) ++ [momO q (descM (rowGet fc nc ((f1, n1), (f2, n2), (f3, n3), (f4, n4), at', status, rd, ck).2.2.2.2.1) (rowGet fn nn ((f1, n1), (f2, n2), (f3, n3), (f4, n4), at', status, rd, ck).2.2.2.2.1) μ ((f1, n1), (f2, n2), (f3, n3), (f4, n4), at', status, rd, ck)), progO p rc rn rt, rowW F.1.2.2 rc ac 80 fc nc, rowW F.1.2.2 rn an 80 fn nn]) (by simp only [descM, eq_false c_102, eq_false c_139, if_true, if_false, true_and, and_true, false_and, and_false, true_or, or_true, false_or, or_false, not_true_eq_false, not_false_eq_true, Bool.true_eq_false, Bool.false_eq_true, ite_true, ite_false, reduceIte, decide_true, decide_false, Bool.not_true, Bool.not_false]; rfl) ?_
      exact g_vret hF hR dX5_describe_165 ⟨rfl, rfl⟩
    · refine g_aload_n hF dX5_describe_142 rfl ?_
      refine g_aload_n hF dX5_describe_143 rfl ?_
      refine g_getN (j := 2) hF 5 rfl rfl (by decide) rfl m_128 rfl dX5_describe_144 ?_
      refine g_aload_n hF dX5_describe_147 rfl ?_
      refine g_get (j := 1) hF 0 rfl rfl (by decide) rfl m_75 rfl dX5_describe_148 ?_
      refine g_aload_n hF dX5_describe_151 rfl ?_
      refine g_getN (j := 2) hF 5 rfl rfl (by decide) rfl m_128 rfl dX5_describe_152 ?_
      refine g_callVq hF (c_Row_get (by first | omega | exact clampI_le | (split <;> omega)) (by omega)) cal_X4_get rfl m_512 (by decide) (Or.inl rfl) (Nat.zero_le _) (Nat.zero_le _) 2 rfl rfl [2] rfl rfl rfl (Nat.le_of_ble_eq_true rfl) dX5_describe_155 ?_
      refine g_aload_n hF dX5_describe_158 rfl ?_
      refine g_getN (j := 3) hF 5 rfl rfl (by decide) rfl m_129 rfl dX5_describe_159 ?_
      refine g_callVd hF (c_Mom_describeStore) cal_X0_describeStore rfl m_513 (by decide) (Or.inl rfl) (Nat.zero_le _) (Nat.zero_le _) 5 rfl rfl [5] rfl rfl (Nat.le_of_ble_eq_true rfl) rfl (Nat.le_of_ble_eq_true rfl) dX5_describe_162 ?_
      try dsimp only [gput, gputA, List.set, stGs, List.cons_append, List.nil_append]
      refine g_regroup (gs' := stGs F.1.2.2 (h, (r1, a1), (r2, a2), (r3, a3), r4, a4) (((f1, n1), (f2, n2), (f3, n3), (f4, n4), at', status, rd, ck)) ++ [momO q (descM (rowGet fc nc ((f1, n1), (f2, n2), (f3, n3), (f4, n4), at', status, rd, ck).2.2.2.2.1) (rowGet fn nn ((f1, n1), (f2, n2), (f3, n3), (f4, n4), at', status, rd, ck).2.2.2.2.1) μ ((f1, n1), (f2, n2), (f3, n3), (f4, n4), at', status, rd, ck)), progO p rc rn rt, rowW F.1.2.2 rc ac 80 fc nc, rowW F.1.2.2 rn an 80 fn nn]) (by simp only [descM, eq_false c_102, eq_true c_139, if_true, if_false, true_and, and_true, false_and, and_false, true_or, or_true, false_or, or_false, not_true_eq_false, not_false_eq_true, Bool.true_eq_false, Bool.false_eq_true, ite_true, ite_false, reduceIte, decide_true, decide_false, Bool.not_true, Bool.not_false]; rfl) ?_
      exact g_vret hF hR dX5_describe_165 ⟨rfl, rfl⟩
  · refine g_aload_n hF dX5_describe_105 rfl ?_
    refine g_aload_n hF dX5_describe_106 rfl ?_
    refine g_aload_n hF dX5_describe_107 rfl ?_
    refine g_get (j := 4) hF 0 rfl rfl (by decide) rfl m_82 rfl dX5_describe_108 ?_
    refine g_callVq hF (c_Prog_numberAt (by omega)) cal_X3_numberAt rfl m_508 (by decide) (Or.inl rfl) (Nat.zero_le _) (Nat.zero_le _) 6 rfl rfl [6, 8] rfl rfl rfl (Nat.le_of_ble_eq_true rfl) dX5_describe_111 ?_
    refine g_aload_n hF dX5_describe_114 rfl ?_
    refine g_get (j := 1) hF 0 rfl rfl (by decide) rfl m_75 rfl dX5_describe_115 ?_
    refine g_aload_n hF dX5_describe_118 rfl ?_
    refine g_aload_n hF dX5_describe_119 rfl ?_
    refine g_get (j := 4) hF 0 rfl rfl (by decide) rfl m_82 rfl dX5_describe_120 ?_
    refine g_callVq hF (c_Prog_numberAt (by omega)) cal_X3_numberAt rfl m_508 (by decide) (Or.inl rfl) (Nat.zero_le _) (Nat.zero_le _) 6 rfl rfl [6, 8] rfl rfl rfl (Nat.le_of_ble_eq_true rfl) dX5_describe_123 ?_
    refine g_callVq hF (c_Row_get (by first | omega | exact clampI_le | (split <;> omega)) (by omega)) cal_X4_get rfl m_512 (by decide) (Or.inl rfl) (Nat.zero_le _) (Nat.zero_le _) 2 rfl rfl [2] rfl rfl rfl (Nat.le_of_ble_eq_true rfl) dX5_describe_126 ?_
    refine g_aload_n hF dX5_describe_129 rfl ?_
    refine g_getN (j := 2) hF 5 rfl rfl (by decide) rfl m_128 rfl dX5_describe_130 ?_
    refine g_callVd hF (c_Mom_describeStore) cal_X0_describeStore rfl m_513 (by decide) (Or.inl rfl) (Nat.zero_le _) (Nat.zero_le _) 5 rfl rfl [5] rfl rfl (Nat.le_of_ble_eq_true rfl) rfl (Nat.le_of_ble_eq_true rfl) dX5_describe_133 ?_
    try dsimp only [gput, gputA, List.set, stGs, List.cons_append, List.nil_append]
    refine g_iload_n hF dX5_describe_136 rfl ?_
    refine g_bipush (v := (15)) hF dX5_describe_137 rfl ?_
    refine g_icmp_ne (tgt := 165) hF dX5_describe_139 (by decide) (fun c_139 => ?_) (fun c_139 => absurd (c_102.symm.trans c_139) (by decide))
    refine g_regroup (gs' := stGs F.1.2.2 (h, (r1, a1), (r2, a2), (r3, a3), r4, a4) (((f1, n1), (f2, n2), (f3, n3), (f4, n4), at', status, rd, ck)) ++ [momO q (descM (rowGet fc nc ((f1, n1), (f2, n2), (f3, n3), (f4, n4), at', status, rd, ck).2.2.2.2.1) (rowGet fn nn ((f1, n1), (f2, n2), (f3, n3), (f4, n4), at', status, rd, ck).2.2.2.2.1) μ ((f1, n1), (f2, n2), (f3, n3), (f4, n4), at', status, rd, ck)), progO p rc rn rt, rowW F.1.2.2 rc ac 80 fc nc, rowW F.1.2.2 rn an 80 fn nn]) (by simp only [descM, eq_true c_102, eq_false c_139, if_true, if_false, true_and, and_true, false_and, and_false, true_or, or_true, false_or, or_false, not_true_eq_false, not_false_eq_true, Bool.true_eq_false, Bool.false_eq_true, ite_true, ite_false, reduceIte, decide_true, decide_false, Bool.not_true, Bool.not_false]; rfl) ?_
    exact g_vret hF hR dX5_describe_165 ⟨rfl, rfl⟩
set_option maxHeartbeats 4000000 in
set_option maxRecDepth 100000 in
theorem c_S_goBackTo {E : Env3} {A : AV} {v : SV} {q : Nat} {μ : Nat → Int32} (hv : okS v)  : Cd E none 2 yX5_goBackTo cX5_goBackTo 2 none [.ref A.1, .ref q] (stGs E.2.2 A v ++ [momO q μ]) none (stGs E.2.2 A (backF μ v) ++ [momO q μ]) := by
  refine Ct.of [some (.ref A.1), some (.ref q)] (by decide +kernel) rfl (Nat.le_of_ble_eq_true rfl) (fun F hE hF hR hN => ?_)
  subst hE
  obtain ⟨⟨f1, n1⟩, ⟨f2, n2⟩, ⟨f3, n3⟩, ⟨f4, n4⟩, at', status, rd, ck⟩ := v
  obtain ⟨h, ⟨r1, a1⟩, ⟨r2, a2⟩, ⟨r3, a3⟩, r4, a4⟩ := A
  obtain ⟨h1, h2, h3, h4⟩ := hv
  dsimp only at h1 h2 h3 h4
  refine g_regroup (gs' := [stO h r1 r2 r3 r4 at' status rd ck, rowW F.1.2.2 r1 a1 24 f1 n1, rowW F.1.2.2 r2 a2 12 f2 n2, rowW F.1.2.2 r3 a3 8 f3 n3, rowW F.1.2.2 r4 a4 30 f4 n4, momO q μ]) rfl ?_
  refine g_aload_n hF dX5_goBackTo_0 rfl ?_
  refine g_aload_n hF dX5_goBackTo_1 rfl ?_
  refine g_getN (j := 0) hF 5 rfl rfl (by decide) rfl m_124 rfl dX5_goBackTo_2 ?_
  refine g_put (j := 4) hF 0 rfl rfl (by decide) rfl m_82 rfl (tyX5_ok 4 (by decide)) rfl rfl (Nat.le_of_ble_eq_true rfl) dX5_goBackTo_5 ?_
  try dsimp only [gput, gputA, List.set, stGs, List.cons_append, List.nil_append]
  refine g_aload_n hF dX5_goBackTo_8 rfl ?_
  refine g_get (j := 0) hF 0 rfl rfl (by decide) rfl m_73 rfl dX5_goBackTo_9 ?_
  refine g_aload_n hF dX5_goBackTo_12 rfl ?_
  refine g_getN (j := 1) hF 5 rfl rfl (by decide) rfl m_126 rfl dX5_goBackTo_13 ?_
  refine g_callVd hF (c_Row_resize (by omega)) cal_X4_resize rfl m_383 (by decide) (Or.inl rfl) (Nat.zero_le _) (Nat.zero_le _) 1 rfl rfl [1] rfl rfl (Nat.le_of_ble_eq_true rfl) rfl (Nat.le_of_ble_eq_true rfl) dX5_goBackTo_16 ?_
  try dsimp only [gput, gputA, List.set, stGs, List.cons_append, List.nil_append]
  refine g_aload_n hF dX5_goBackTo_19 rfl ?_
  refine g_get (j := 0) hF 0 rfl rfl (by decide) rfl m_73 rfl dX5_goBackTo_20 ?_
  refine g_iconst (v := (0)) hF dX5_goBackTo_23 rfl ?_
  refine g_aload_n hF dX5_goBackTo_24 rfl ?_
  refine g_getN (j := 2) hF 5 rfl rfl (by decide) rfl m_128 rfl dX5_goBackTo_25 ?_
  refine g_callVd hF (c_Row_putFromTop (by first | omega | exact clampI_le | (split <;> omega)) (by omega)) cal_X4_putFromTop rfl m_608 (by decide) (Or.inl rfl) (Nat.zero_le _) (Nat.zero_le _) 1 rfl rfl [1] rfl rfl (Nat.le_of_ble_eq_true rfl) rfl (Nat.le_of_ble_eq_true rfl) dX5_goBackTo_28 ?_
  try dsimp only [gput, gputA, List.set, stGs, List.cons_append, List.nil_append]
  refine g_aload_n hF dX5_goBackTo_31 rfl ?_
  refine g_get (j := 0) hF 0 rfl rfl (by decide) rfl m_73 rfl dX5_goBackTo_32 ?_
  refine g_iconst (v := (1)) hF dX5_goBackTo_35 rfl ?_
  refine g_aload_n hF dX5_goBackTo_36 rfl ?_
  refine g_getN (j := 3) hF 5 rfl rfl (by decide) rfl m_129 rfl dX5_goBackTo_37 ?_
  refine g_callVd hF (c_Row_putFromTop (by first | omega | exact clampI_le | (split <;> omega)) (by omega)) cal_X4_putFromTop rfl m_608 (by decide) (Or.inl rfl) (Nat.zero_le _) (Nat.zero_le _) 1 rfl rfl [1] rfl rfl (Nat.le_of_ble_eq_true rfl) rfl (Nat.le_of_ble_eq_true rfl) dX5_goBackTo_40 ?_
  try dsimp only [gput, gputA, List.set, stGs, List.cons_append, List.nil_append]
  refine g_aload_n hF dX5_goBackTo_43 rfl ?_
  refine g_get (j := 2) hF 0 rfl rfl (by decide) rfl m_78 rfl dX5_goBackTo_44 ?_
  refine g_aload_n hF dX5_goBackTo_47 rfl ?_
  refine g_getN (j := 4) hF 5 rfl rfl (by decide) rfl m_131 rfl dX5_goBackTo_48 ?_
  refine g_callVd hF (c_Row_resize (by omega)) cal_X4_resize rfl m_383 (by decide) (Or.inl rfl) (Nat.zero_le _) (Nat.zero_le _) 3 rfl rfl [3] rfl rfl (Nat.le_of_ble_eq_true rfl) rfl (Nat.le_of_ble_eq_true rfl) dX5_goBackTo_51 ?_
  try dsimp only [gput, gputA, List.set, stGs, List.cons_append, List.nil_append]
  refine g_aload_n hF dX5_goBackTo_54 rfl ?_
  refine g_get (j := 2) hF 0 rfl rfl (by decide) rfl m_78 rfl dX5_goBackTo_55 ?_
  refine g_iconst (v := (0)) hF dX5_goBackTo_58 rfl ?_
  refine g_aload_n hF dX5_goBackTo_59 rfl ?_
  refine g_getN (j := 5) hF 5 rfl rfl (by decide) rfl m_132 rfl dX5_goBackTo_60 ?_
  refine g_callVd hF (c_Row_putFromTop (by first | omega | exact clampI_le | (split <;> omega)) (by omega)) cal_X4_putFromTop rfl m_608 (by decide) (Or.inl rfl) (Nat.zero_le _) (Nat.zero_le _) 3 rfl rfl [3] rfl rfl (Nat.le_of_ble_eq_true rfl) rfl (Nat.le_of_ble_eq_true rfl) dX5_goBackTo_63 ?_
  try dsimp only [gput, gputA, List.set, stGs, List.cons_append, List.nil_append]
  refine g_aload_n hF dX5_goBackTo_66 rfl ?_
  refine g_aload_n hF dX5_goBackTo_67 rfl ?_
  refine g_getN (j := 6) hF 5 rfl rfl (by decide) rfl m_133 rfl dX5_goBackTo_68 ?_
  refine g_put (j := 6) hF 0 rfl rfl (by decide) rfl m_88 rfl (tyX5_ok 6 (by decide)) rfl rfl (Nat.le_of_ble_eq_true rfl) dX5_goBackTo_71 ?_
  try dsimp only [gput, gputA, List.set, stGs, List.cons_append, List.nil_append]
  refine g_aload_n hF dX5_goBackTo_74 rfl ?_
  refine g_get (j := 3) hF 0 rfl rfl (by decide) rfl m_80 rfl dX5_goBackTo_75 ?_
  refine g_aload_n hF dX5_goBackTo_78 rfl ?_
  refine g_getN (j := 7) hF 5 rfl rfl (by decide) rfl m_134 rfl dX5_goBackTo_79 ?_
  refine g_callVd hF (c_Row_resize (by omega)) cal_X4_resize rfl m_383 (by decide) (Or.inl rfl) (Nat.zero_le _) (Nat.zero_le _) 4 rfl rfl [4] rfl rfl (Nat.le_of_ble_eq_true rfl) rfl (Nat.le_of_ble_eq_true rfl) dX5_goBackTo_82 ?_
  try dsimp only [gput, gputA, List.set, stGs, List.cons_append, List.nil_append]
  refine g_aload_n hF dX5_goBackTo_85 rfl ?_
  refine g_get (j := 1) hF 0 rfl rfl (by decide) rfl m_75 rfl dX5_goBackTo_86 ?_
  refine g_aload_n hF dX5_goBackTo_89 rfl ?_
  refine g_getN (j := 8) hF 5 rfl rfl (by decide) rfl m_138 rfl dX5_goBackTo_90 ?_
  refine g_aload_n hF dX5_goBackTo_93 rfl ?_
  refine g_getN (j := 9) hF 5 rfl rfl (by decide) rfl m_141 rfl dX5_goBackTo_94 ?_
  refine g_callVd hF (c_Row_put (by first | omega | exact clampI_le | (split <;> omega)) (by omega)) cal_X4_put rfl m_533 (by decide) (Or.inl rfl) (Nat.zero_le _) (Nat.zero_le _) 2 rfl rfl [2] rfl rfl (Nat.le_of_ble_eq_true rfl) rfl (Nat.le_of_ble_eq_true rfl) dX5_goBackTo_97 ?_
  try dsimp only [gput, gputA, List.set, stGs, List.cons_append, List.nil_append]
  refine g_aload_n hF dX5_goBackTo_100 rfl ?_
  refine g_iconst (v := (0)) hF dX5_goBackTo_101 rfl ?_
  refine g_put (j := 5) hF 0 rfl rfl (by decide) rfl m_85 rfl (tyX5_ok 5 (by decide)) rfl rfl (Nat.le_of_ble_eq_true rfl) dX5_goBackTo_102 ?_
  try dsimp only [gput, gputA, List.set, stGs, List.cons_append, List.nil_append]
  refine g_aload_n hF dX5_goBackTo_105 rfl ?_
  refine g_dup hF dX5_goBackTo_106 rfl ?_
  refine g_get (j := 7) hF 0 rfl rfl (by decide) rfl m_90 rfl dX5_goBackTo_107 ?_
  refine g_iconst (v := (1)) hF dX5_goBackTo_110 rfl ?_
  refine g_isub hF dX5_goBackTo_111 ?_
  refine g_put (j := 7) hF 0 rfl rfl (by decide) rfl m_90 rfl (tyX5_ok 7 (by decide)) rfl rfl (Nat.le_of_ble_eq_true rfl) dX5_goBackTo_112 ?_
  try dsimp only [gput, gputA, List.set, stGs, List.cons_append, List.nil_append]
  exact g_vret hF hR dX5_goBackTo_115 ⟨rfl, rfl⟩
set_option maxHeartbeats 4000000 in
set_option maxRecDepth 100000 in
theorem c_S_clear {E : Env3} {A : AV} {v : SV} (hv : okS v)  : Cd E none 2 yX5_clear cX5_clear 1 none [.ref A.1] (stGs E.2.2 A v ++ []) none (stGs E.2.2 A (clearF v) ++ []) := by
  refine Ct.of [some (.ref A.1)] (by decide +kernel) rfl (Nat.le_of_ble_eq_true rfl) (fun F hE hF hR hN => ?_)
  subst hE
  obtain ⟨⟨f1, n1⟩, ⟨f2, n2⟩, ⟨f3, n3⟩, ⟨f4, n4⟩, at', status, rd, ck⟩ := v
  obtain ⟨h, ⟨r1, a1⟩, ⟨r2, a2⟩, ⟨r3, a3⟩, r4, a4⟩ := A
  obtain ⟨h1, h2, h3, h4⟩ := hv
  dsimp only at h1 h2 h3 h4
  refine g_regroup (gs' := [stO h r1 r2 r3 r4 at' status rd ck, rowW F.1.2.2 r1 a1 24 f1 n1, rowW F.1.2.2 r2 a2 12 f2 n2, rowW F.1.2.2 r3 a3 8 f3 n3, rowW F.1.2.2 r4 a4 30 f4 n4]) rfl ?_
  refine g_aload_n hF dX5_clear_0 rfl ?_
  refine g_get (j := 0) hF 0 rfl rfl (by decide) rfl m_73 rfl dX5_clear_1 ?_
  refine g_iconst (v := (0)) hF dX5_clear_4 rfl ?_
  refine g_callVd hF (c_Row_resize (by omega)) cal_X4_resize rfl m_383 (by decide) (Or.inl rfl) (Nat.zero_le _) (Nat.zero_le _) 1 rfl rfl [1] rfl rfl (Nat.le_of_ble_eq_true rfl) rfl (Nat.le_of_ble_eq_true rfl) dX5_clear_5 ?_
  try dsimp only [gput, gputA, List.set, stGs, List.cons_append, List.nil_append]
  refine g_aload_n hF dX5_clear_8 rfl ?_
  refine g_get (j := 1) hF 0 rfl rfl (by decide) rfl m_75 rfl dX5_clear_9 ?_
  refine g_callVd hF (c_Row_fillWithZeros (by omega)) cal_X4_fillWithZeros rfl m_69 (by decide) (Or.inl rfl) (Nat.zero_le _) (Nat.zero_le _) 2 rfl rfl [2] rfl rfl (Nat.le_of_ble_eq_true rfl) rfl (Nat.le_of_ble_eq_true rfl) dX5_clear_12 ?_
  try dsimp only [gput, gputA, List.set, stGs, List.cons_append, List.nil_append]
  refine g_aload_n hF dX5_clear_15 rfl ?_
  refine g_get (j := 2) hF 0 rfl rfl (by decide) rfl m_78 rfl dX5_clear_16 ?_
  refine g_iconst (v := (0)) hF dX5_clear_19 rfl ?_
  refine g_callVd hF (c_Row_resize (by omega)) cal_X4_resize rfl m_383 (by decide) (Or.inl rfl) (Nat.zero_le _) (Nat.zero_le _) 3 rfl rfl [3] rfl rfl (Nat.le_of_ble_eq_true rfl) rfl (Nat.le_of_ble_eq_true rfl) dX5_clear_20 ?_
  try dsimp only [gput, gputA, List.set, stGs, List.cons_append, List.nil_append]
  refine g_aload_n hF dX5_clear_23 rfl ?_
  refine g_get (j := 3) hF 0 rfl rfl (by decide) rfl m_80 rfl dX5_clear_24 ?_
  refine g_iconst (v := (0)) hF dX5_clear_27 rfl ?_
  refine g_callVd hF (c_Row_resize (by omega)) cal_X4_resize rfl m_383 (by decide) (Or.inl rfl) (Nat.zero_le _) (Nat.zero_le _) 4 rfl rfl [4] rfl rfl (Nat.le_of_ble_eq_true rfl) rfl (Nat.le_of_ble_eq_true rfl) dX5_clear_28 ?_
  try dsimp only [gput, gputA, List.set, stGs, List.cons_append, List.nil_append]
  refine g_aload_n hF dX5_clear_31 rfl ?_
  refine g_iconst (v := (0)) hF dX5_clear_32 rfl ?_
  refine g_put (j := 4) hF 0 rfl rfl (by decide) rfl m_82 rfl (tyX5_ok 4 (by decide)) rfl rfl (Nat.le_of_ble_eq_true rfl) dX5_clear_33 ?_
  try dsimp only [gput, gputA, List.set, stGs, List.cons_append, List.nil_append]
  refine g_aload_n hF dX5_clear_36 rfl ?_
  refine g_iconst (v := (0)) hF dX5_clear_37 rfl ?_
  refine g_put (j := 5) hF 0 rfl rfl (by decide) rfl m_85 rfl (tyX5_ok 5 (by decide)) rfl rfl (Nat.le_of_ble_eq_true rfl) dX5_clear_38 ?_
  try dsimp only [gput, gputA, List.set, stGs, List.cons_append, List.nil_append]
  refine g_aload_n hF dX5_clear_41 rfl ?_
  refine g_iconst (v := (0)) hF dX5_clear_42 rfl ?_
  refine g_put (j := 6) hF 0 rfl rfl (by decide) rfl m_88 rfl (tyX5_ok 6 (by decide)) rfl rfl (Nat.le_of_ble_eq_true rfl) dX5_clear_43 ?_
  try dsimp only [gput, gputA, List.set, stGs, List.cons_append, List.nil_append]
  refine g_aload_n hF dX5_clear_46 rfl ?_
  refine g_iconst (v := (0)) hF dX5_clear_47 rfl ?_
  refine g_put (j := 7) hF 0 rfl rfl (by decide) rfl m_90 rfl (tyX5_ok 7 (by decide)) rfl rfl (Nat.le_of_ble_eq_true rfl) dX5_clear_48 ?_
  try dsimp only [gput, gputA, List.set, stGs, List.cons_append, List.nil_append]
  exact g_vret hF hR dX5_clear_51 ⟨rfl, rfl⟩
set_option maxHeartbeats 4000000 in
set_option maxRecDepth 100000 in
theorem c_S_copyFrom {E : Env3} {A : AV} {v : SV} {B : AV} {w : SV} (hv : okS v) (hw : okS w) : Cd E none 3 yX5_copyFrom cX5_copyFrom 2 none [.ref A.1, .ref B.1] (stGs E.2.2 A v ++ stGs E.2.2 B w) none (stGs E.2.2 A (copyF v w) ++ stGs E.2.2 B w) := by
  refine Ct.of [some (.ref A.1), some (.ref B.1)] (by decide +kernel) rfl (Nat.le_of_ble_eq_true rfl) (fun F hE hF hR hN => ?_)
  subst hE
  obtain ⟨⟨f1, n1⟩, ⟨f2, n2⟩, ⟨f3, n3⟩, ⟨f4, n4⟩, at', status, rd, ck⟩ := v
  obtain ⟨h, ⟨r1, a1⟩, ⟨r2, a2⟩, ⟨r3, a3⟩, r4, a4⟩ := A
  obtain ⟨h1, h2, h3, h4⟩ := hv
  dsimp only at h1 h2 h3 h4
  obtain ⟨⟨g1, m1⟩, ⟨g2, m2⟩, ⟨g3, m3⟩, ⟨g4, m4⟩, at2, status2, rd2, ck2⟩ := w
  obtain ⟨hB, ⟨b1, d1⟩, ⟨b2, d2⟩, ⟨b3, d3⟩, b4, d4⟩ := B
  obtain ⟨k1, k2, k3, k4⟩ := hw
  dsimp only at k1 k2 k3 k4
  refine g_regroup (gs' := [stO h r1 r2 r3 r4 at' status rd ck, rowW F.1.2.2 r1 a1 24 f1 n1, rowW F.1.2.2 r2 a2 12 f2 n2, rowW F.1.2.2 r3 a3 8 f3 n3, rowW F.1.2.2 r4 a4 30 f4 n4, stO hB b1 b2 b3 b4 at2 status2 rd2 ck2, rowW F.1.2.2 b1 d1 24 g1 m1, rowW F.1.2.2 b2 d2 12 g2 m2, rowW F.1.2.2 b3 d3 8 g3 m3, rowW F.1.2.2 b4 d4 30 g4 m4]) rfl ?_
  refine g_aload_n hF dX5_copyFrom_0 rfl ?_
  refine g_get (j := 0) hF 0 rfl rfl (by decide) rfl m_73 rfl dX5_copyFrom_1 ?_
  refine g_aload_n hF dX5_copyFrom_4 rfl ?_
  refine g_get (j := 0) hF 5 rfl rfl (by decide) rfl m_73 rfl dX5_copyFrom_5 ?_
  refine g_callVd hF (c_Row_copyFrom (by omega) (by omega) (by omega) (by omega)) cal_X4_copyFrom rfl m_759 (by decide) (Or.inl rfl) (Nat.zero_le _) (Nat.zero_le _) 1 rfl rfl [1, 6] rfl rfl (Nat.le_of_ble_eq_true rfl) rfl (Nat.le_of_ble_eq_true rfl) dX5_copyFrom_8 ?_
  try dsimp only [gput, gputA, List.set, stGs, List.cons_append, List.nil_append]
  refine g_aload_n hF dX5_copyFrom_11 rfl ?_
  refine g_get (j := 1) hF 0 rfl rfl (by decide) rfl m_75 rfl dX5_copyFrom_12 ?_
  refine g_aload_n hF dX5_copyFrom_15 rfl ?_
  refine g_get (j := 1) hF 5 rfl rfl (by decide) rfl m_75 rfl dX5_copyFrom_16 ?_
  refine g_callVd hF (c_Row_copyFrom (by omega) (by omega) (by omega) (by omega)) cal_X4_copyFrom rfl m_759 (by decide) (Or.inl rfl) (Nat.zero_le _) (Nat.zero_le _) 2 rfl rfl [2, 7] rfl rfl (Nat.le_of_ble_eq_true rfl) rfl (Nat.le_of_ble_eq_true rfl) dX5_copyFrom_19 ?_
  try dsimp only [gput, gputA, List.set, stGs, List.cons_append, List.nil_append]
  refine g_aload_n hF dX5_copyFrom_22 rfl ?_
  refine g_get (j := 2) hF 0 rfl rfl (by decide) rfl m_78 rfl dX5_copyFrom_23 ?_
  refine g_aload_n hF dX5_copyFrom_26 rfl ?_
  refine g_get (j := 2) hF 5 rfl rfl (by decide) rfl m_78 rfl dX5_copyFrom_27 ?_
  refine g_callVd hF (c_Row_copyFrom (by omega) (by omega) (by omega) (by omega)) cal_X4_copyFrom rfl m_759 (by decide) (Or.inl rfl) (Nat.zero_le _) (Nat.zero_le _) 3 rfl rfl [3, 8] rfl rfl (Nat.le_of_ble_eq_true rfl) rfl (Nat.le_of_ble_eq_true rfl) dX5_copyFrom_30 ?_
  try dsimp only [gput, gputA, List.set, stGs, List.cons_append, List.nil_append]
  refine g_aload_n hF dX5_copyFrom_33 rfl ?_
  refine g_get (j := 3) hF 0 rfl rfl (by decide) rfl m_80 rfl dX5_copyFrom_34 ?_
  refine g_aload_n hF dX5_copyFrom_37 rfl ?_
  refine g_get (j := 3) hF 5 rfl rfl (by decide) rfl m_80 rfl dX5_copyFrom_38 ?_
  refine g_callVd hF (c_Row_copyFrom (by omega) (by omega) (by omega) (by omega)) cal_X4_copyFrom rfl m_759 (by decide) (Or.inl rfl) (Nat.zero_le _) (Nat.zero_le _) 4 rfl rfl [4, 9] rfl rfl (Nat.le_of_ble_eq_true rfl) rfl (Nat.le_of_ble_eq_true rfl) dX5_copyFrom_41 ?_
  try dsimp only [gput, gputA, List.set, stGs, List.cons_append, List.nil_append]
  refine g_aload_n hF dX5_copyFrom_44 rfl ?_
  refine g_aload_n hF dX5_copyFrom_45 rfl ?_
  refine g_get (j := 4) hF 5 rfl rfl (by decide) rfl m_82 rfl dX5_copyFrom_46 ?_
  refine g_put (j := 4) hF 0 rfl rfl (by decide) rfl m_82 rfl (tyX5_ok 4 (by decide)) rfl rfl (Nat.le_of_ble_eq_true rfl) dX5_copyFrom_49 ?_
  try dsimp only [gput, gputA, List.set, stGs, List.cons_append, List.nil_append]
  refine g_aload_n hF dX5_copyFrom_52 rfl ?_
  refine g_aload_n hF dX5_copyFrom_53 rfl ?_
  refine g_get (j := 5) hF 5 rfl rfl (by decide) rfl m_85 rfl dX5_copyFrom_54 ?_
  refine g_put (j := 5) hF 0 rfl rfl (by decide) rfl m_85 rfl (tyX5_ok 5 (by decide)) rfl rfl (Nat.le_of_ble_eq_true rfl) dX5_copyFrom_57 ?_
  try dsimp only [gput, gputA, List.set, stGs, List.cons_append, List.nil_append]
  refine g_aload_n hF dX5_copyFrom_60 rfl ?_
  refine g_aload_n hF dX5_copyFrom_61 rfl ?_
  refine g_get (j := 6) hF 5 rfl rfl (by decide) rfl m_88 rfl dX5_copyFrom_62 ?_
  refine g_put (j := 6) hF 0 rfl rfl (by decide) rfl m_88 rfl (tyX5_ok 6 (by decide)) rfl rfl (Nat.le_of_ble_eq_true rfl) dX5_copyFrom_65 ?_
  try dsimp only [gput, gputA, List.set, stGs, List.cons_append, List.nil_append]
  refine g_aload_n hF dX5_copyFrom_68 rfl ?_
  refine g_aload_n hF dX5_copyFrom_69 rfl ?_
  refine g_get (j := 7) hF 5 rfl rfl (by decide) rfl m_90 rfl dX5_copyFrom_70 ?_
  refine g_put (j := 7) hF 0 rfl rfl (by decide) rfl m_90 rfl (tyX5_ok 7 (by decide)) rfl rfl (Nat.le_of_ble_eq_true rfl) dX5_copyFrom_73 ?_
  try dsimp only [gput, gputA, List.set, stGs, List.cons_append, List.nil_append]
  exact g_vret hF hR dX5_copyFrom_76 ⟨rfl, rfl⟩
set_option maxHeartbeats 4000000 in
set_option maxRecDepth 100000 in
theorem c_S_mixedInto {E : Env3} {A : AV} {v : SV} {d0 : Int64} (hv : okS v)  : Cd E none 3 yX5_mixedInto cX5_mixedInto 5 (some .long) [.ref A.1, .long d0] (stGs E.2.2 A v ++ []) (some (.long (mixSt v d0))) (stGs E.2.2 A (v) ++ []) := by
  refine Ct.of [some (.ref A.1), some (.long d0), none, none, none] (by decide +kernel) rfl (Nat.le_of_ble_eq_true rfl) (fun F hE hF hR hN => ?_)
  subst hE
  obtain ⟨⟨f1, n1⟩, ⟨f2, n2⟩, ⟨f3, n3⟩, ⟨f4, n4⟩, at', status, rd, ck⟩ := v
  obtain ⟨h, ⟨r1, a1⟩, ⟨r2, a2⟩, ⟨r3, a3⟩, r4, a4⟩ := A
  obtain ⟨h1, h2, h3, h4⟩ := hv
  dsimp only at h1 h2 h3 h4
  refine g_regroup (gs' := [stO h r1 r2 r3 r4 at' status rd ck, rowW F.1.2.2 r1 a1 24 f1 n1, rowW F.1.2.2 r2 a2 12 f2 n2, rowW F.1.2.2 r3 a3 8 f3 n3, rowW F.1.2.2 r4 a4 30 f4 n4]) rfl ?_
  refine g_aload_n hF dX5_mixedInto_0 rfl ?_
  refine g_get (j := 0) hF 0 rfl rfl (by decide) rfl m_73 rfl dX5_mixedInto_1 ?_
  refine g_lload_n hF dX5_mixedInto_4 rfl ?_
  refine g_callVq hF (c_Row_mixedFromTopInto (by first | omega | exact clampI_le | (split <;> omega)) (by omega)) cal_X4_mixedFromTopInto rfl m_786 (by decide) (Or.inl rfl) (Nat.zero_le _) (Nat.zero_le _) 1 rfl rfl [1] rfl rfl rfl (Nat.le_of_ble_eq_true rfl) dX5_mixedInto_5 ?_
  refine g_lstore_n hF dX5_mixedInto_8 (Nat.le_of_ble_eq_true rfl) rfl ?_
  refine g_aload_n hF dX5_mixedInto_9 rfl ?_
  refine g_get (j := 1) hF 0 rfl rfl (by decide) rfl m_75 rfl dX5_mixedInto_10 ?_
  refine g_lload_n hF dX5_mixedInto_13 rfl ?_
  refine g_callVq hF (c_Row_mixedInto (by first | omega | exact clampI_le | (split <;> omega)) (by omega)) cal_X4_mixedInto rfl m_792 (by decide) (Or.inl rfl) (Nat.zero_le _) (Nat.zero_le _) 2 rfl rfl [2] rfl rfl rfl (Nat.le_of_ble_eq_true rfl) dX5_mixedInto_14 ?_
  refine g_lstore_n hF dX5_mixedInto_17 (Nat.le_of_ble_eq_true rfl) rfl ?_
  refine g_aload_n hF dX5_mixedInto_18 rfl ?_
  refine g_get (j := 2) hF 0 rfl rfl (by decide) rfl m_78 rfl dX5_mixedInto_19 ?_
  refine g_lload_n hF dX5_mixedInto_22 rfl ?_
  refine g_callVq hF (c_Row_mixedFromTopInto (by first | omega | exact clampI_le | (split <;> omega)) (by omega)) cal_X4_mixedFromTopInto rfl m_786 (by decide) (Or.inl rfl) (Nat.zero_le _) (Nat.zero_le _) 3 rfl rfl [3] rfl rfl rfl (Nat.le_of_ble_eq_true rfl) dX5_mixedInto_23 ?_
  refine g_lstore_n hF dX5_mixedInto_26 (Nat.le_of_ble_eq_true rfl) rfl ?_
  refine g_aload_n hF dX5_mixedInto_27 rfl ?_
  refine g_get (j := 3) hF 0 rfl rfl (by decide) rfl m_80 rfl dX5_mixedInto_28 ?_
  refine g_lload_n hF dX5_mixedInto_31 rfl ?_
  refine g_callVq hF (c_Row_mixedInto (by first | omega | exact clampI_le | (split <;> omega)) (by omega)) cal_X4_mixedInto rfl m_792 (by decide) (Or.inl rfl) (Nat.zero_le _) (Nat.zero_le _) 4 rfl rfl [4] rfl rfl rfl (Nat.le_of_ble_eq_true rfl) dX5_mixedInto_32 ?_
  exact g_lret hF hR dX5_mixedInto_35 ⟨rfl, rfl⟩
