/-! Point, Tape, and the constructors -/
def poO (h : Nat) (st ps : Int32) (on : Bool) (how ce n stops : Int32) : va_W := [(h, .inr (2, [.int st, .int ps, .int (bI on), .int how, .int ce, .int n, .int stops]))]
def tapeO (h rs rj : Nat) (rec' : Bool) : va_W := [(h, .inr (6, [.ref rs, .ref rj, .int (bI rec')]))]
def holdsB (how n x : Int32) : Bool := if how = 1 then !decide (n ≤ x) else if how = 2 then decide (x = n) else if how = 3 then !decide (x ≤ n) else true
def hitB (on : Bool) (st at' status : Int32) (hb : Bool) : Bool := on && (decide (st = at') && (decide (status = 0) && hb))
theorem bI_true : bI true = 1 := rfl
theorem bI_false : bI false = 0 := rfl
def initS : SV := ((fun _ => 0, 0), (zeroTo (fun _ => 0) 12, 12), (fun _ => 0, 0), (fun _ => 0, 0), 0, 0, 0, 0)
theorem adF_0 (ad : Nat → Nat) : adF ad 0 = fun _ => none := by funext j; simp [adF]
theorem adF_succ (ad : Nat → Nat) (i q : Nat) : va_up (adF ad i) i (some q) = adF (va_up ad i q) (i + 1) := by
  funext j
  unfold va_up adF
  by_cases h : j = i
  · simp [h]
  · by_cases h2 : j < i
    · simp [h, h2, show j < i + 1 by omega]
    · simp [h, h2, show ¬ j < i + 1 by omega]
theorem momsR_push (ad : Nat → Nat) (M : Nat → Nat → Int32) (i q : Nat) : momsR ad M 0 i ++ momO q (M i) = momsR (va_up ad i q) M 0 (i + 1) := by
  rw [momsR_app, momsR_one, Nat.zero_add]
  have e : momsR ad M 0 i = momsR (va_up ad i q) M 0 i := by
    unfold momsR
    congr 1
    apply List.map_congr_left
    intro j hj
    have := List.mem_range'_1.mp hj
    unfold va_up
    rw [if_neg (by omega)]
  rw [e]
  simp [va_up]
set_option maxHeartbeats 4000000 in
set_option maxRecDepth 100000 in
theorem c_Mom_init {E : Env3} {q : Nat} {μ : Nat → Int32} : Ct E none 1 0 0 yX0_init cX0_init 1 none [.ref q] [momO q μ] (fun r g => r = none ∧ g = [momO q μ]) := by
  refine Ct.of [some (.ref q)] (by decide +kernel) rfl (Nat.le_of_ble_eq_true rfl) (fun F hE hF hR hN => ?_)
  subst hE
  refine g_aload_n hF dX0_init_0 rfl ?_
  refine g_objInit hF m_121 m_24 m_25 (by decide) (Nat.le_of_ble_eq_true rfl) dX0_init_1 ?_
  exact g_vret hF hR dX0_init_4 ⟨rfl, rfl⟩
set_option maxHeartbeats 4000000 in
set_option maxRecDepth 100000 in
theorem c_Point_init {E : Env3} {q : Nat} {st ps how ce m stops : Int32} {on : Bool} : Ct E none 1 0 0 yX2_init cX2_init 1 none [.ref q] [poO q st ps on how ce m stops] (fun r g => r = none ∧ g = [poO q st ps on how ce m stops]) := by
  refine Ct.of [some (.ref q)] (by decide +kernel) rfl (Nat.le_of_ble_eq_true rfl) (fun F hE hF hR hN => ?_)
  subst hE
  refine g_aload_n hF dX2_init_0 rfl ?_
  refine g_objInit hF m_183 m_24 m_25 (by decide) (Nat.le_of_ble_eq_true rfl) dX2_init_1 ?_
  exact g_vret hF hR dX2_init_4 ⟨rfl, rfl⟩
set_option maxHeartbeats 4000000 in
set_option maxRecDepth 100000 in
theorem c_Watch_init {E : Env3} {q : Nat} {x y z : Int32} : Ct E none 1 0 0 yX7_init cX7_init 1 none [.ref q] [[(q, .inr (7, [.int x, .int y, .int z]))]] (fun r g => r = none ∧ g = [[(q, .inr (7, [.int x, .int y, .int z]))]]) := by
  refine Ct.of [some (.ref q)] (by decide +kernel) rfl (Nat.le_of_ble_eq_true rfl) (fun F hE hF hR hN => ?_)
  subst hE
  refine g_aload_n hF dX7_init_0 rfl ?_
  refine g_objInit hF m_215 m_24 m_25 (by decide) (Nat.le_of_ble_eq_true rfl) dX7_init_1 ?_
  exact g_vret hF hR dX7_init_4 ⟨rfl, rfl⟩
set_option maxHeartbeats 4000000 in
set_option maxRecDepth 100000 in
theorem c_Point_place {E : Env3} {q : Nat} {st ps how ce m stops : Int32} {on : Bool} {s2 p2 : Int32} : Cd E none 0 yX2_place cX2_place 3 none [.ref q, .int s2, .int p2] [poO q st ps on how ce m stops] none [poO q s2 p2 true how ce m stops] := by
  refine Ct.of [some (.ref q), some (.int s2), some (.int p2)] (by decide +kernel) rfl (Nat.le_of_ble_eq_true rfl) (fun F hE hF hR hN => ?_)
  subst hE
  refine g_aload_n hF dX2_place_0 rfl ?_
  refine g_iload_n hF dX2_place_1 rfl ?_
  refine g_put (j := 0) hF 0 rfl rfl (by decide) rfl m_184 rfl (tyX2_ok 0 (by decide)) rfl rfl (Nat.le_of_ble_eq_true rfl) dX2_place_2 ?_
  try dsimp only [gput, gputA, List.set, stGs, List.cons_append, List.nil_append]
  refine g_aload_n hF dX2_place_5 rfl ?_
  refine g_iload_n hF dX2_place_6 rfl ?_
  refine g_put (j := 1) hF 0 rfl rfl (by decide) rfl m_186 rfl (tyX2_ok 1 (by decide)) rfl rfl (Nat.le_of_ble_eq_true rfl) dX2_place_7 ?_
  try dsimp only [gput, gputA, List.set, stGs, List.cons_append, List.nil_append]
  refine g_aload_n hF dX2_place_10 rfl ?_
  refine g_iconst (v := (1)) hF dX2_place_11 rfl ?_
  refine g_put (j := 2) hF 0 rfl rfl (by decide) rfl m_188 rfl (tyX2_ok 2 (by decide)) rfl rfl (Nat.le_of_ble_eq_true rfl) dX2_place_12 ?_
  try dsimp only [gput, gputA, List.set, stGs, List.cons_append, List.nil_append]
  exact g_vret hF hR dX2_place_15 ⟨rfl, rfl⟩
set_option maxHeartbeats 4000000 in
set_option maxRecDepth 100000 in
theorem c_Point_holds {E : Env3} {q : Nat} {st ps how ce m stops : Int32} {on : Bool} {x : Int32} : Cd E none 0 yX2_holds cX2_holds 2 (some .boolean) [.ref q, .int x] [poO q st ps on how ce m stops] (some (.int (bI (holdsB how m x)))) [poO q st ps on how ce m stops] := by
  refine Ct.of [some (.ref q), some (.int x)] (by decide +kernel) rfl (Nat.le_of_ble_eq_true rfl) (fun F hE hF hR hN => ?_)
  subst hE
  refine g_aload_n hF dX2_holds_0 rfl ?_
  refine g_get (j := 3) hF 0 rfl rfl (by decide) rfl m_190 rfl dX2_holds_1 ?_
  by_cases t4_1 : how = 1
  · refine g_tableIn (off := 28) (tgt := 32) hF dX2_holds_4 (by rw [t4_1]; decide) (by rw [t4_1]; decide) (by rw [t4_1]; rfl) (by decide) ?_
    refine g_iload_n hF dX2_holds_32 rfl ?_
    refine g_aload_n hF dX2_holds_33 rfl ?_
    refine g_get (j := 5) hF 0 rfl rfl (by decide) rfl m_192 rfl dX2_holds_34 ?_
    refine g_icmp_ge (tgt := 44) hF dX2_holds_37 (by decide) (fun c_37 => ?_) (fun c_37 => ?_)
    · refine g_iconst (v := (0)) hF dX2_holds_44 rfl ?_
      exact g_zret hF hR dX2_holds_45 rfl ⟨(by simp only [holdsB, bI_true, bI_false, eq_true t4_1, eq_true c_37, if_true, if_false, true_and, and_true, false_and, and_false, true_or, or_true, false_or, or_false, not_true_eq_false, not_false_eq_true, Bool.true_eq_false, Bool.false_eq_true, ite_true, ite_false, reduceIte, decide_true, decide_false, Bool.not_true, Bool.not_false]), rfl⟩
    · refine g_iconst (v := (1)) hF dX2_holds_40 rfl ?_
      refine g_goto (tgt := 45) hF dX2_holds_41 (by decide) ?_
      exact g_zret hF hR dX2_holds_45 rfl ⟨(by simp only [holdsB, bI_true, bI_false, eq_true t4_1, eq_false c_37, if_true, if_false, true_and, and_true, false_and, and_false, true_or, or_true, false_or, or_false, not_true_eq_false, not_false_eq_true, Bool.true_eq_false, Bool.false_eq_true, ite_true, ite_false, reduceIte, decide_true, decide_false, Bool.not_true, Bool.not_false]), rfl⟩
  by_cases t4_2 : how = 2
  · refine g_tableIn (off := 42) (tgt := 46) hF dX2_holds_4 (by rw [t4_2]; decide) (by rw [t4_2]; decide) (by rw [t4_2]; rfl) (by decide) ?_
    refine g_iload_n hF dX2_holds_46 rfl ?_
    refine g_aload_n hF dX2_holds_47 rfl ?_
    refine g_get (j := 5) hF 0 rfl rfl (by decide) rfl m_192 rfl dX2_holds_48 ?_
    refine g_icmp_ne (tgt := 58) hF dX2_holds_51 (by decide) (fun c_51 => ?_) (fun c_51 => ?_)
    · refine g_iconst (v := (0)) hF dX2_holds_58 rfl ?_
      exact g_zret hF hR dX2_holds_59 rfl ⟨(by simp only [holdsB, bI_true, bI_false, eq_false t4_1, eq_true t4_2, eq_false c_51, if_true, if_false, true_and, and_true, false_and, and_false, true_or, or_true, false_or, or_false, not_true_eq_false, not_false_eq_true, Bool.true_eq_false, Bool.false_eq_true, ite_true, ite_false, reduceIte, decide_true, decide_false, Bool.not_true, Bool.not_false]), rfl⟩
    · refine g_iconst (v := (1)) hF dX2_holds_54 rfl ?_
      refine g_goto (tgt := 59) hF dX2_holds_55 (by decide) ?_
      exact g_zret hF hR dX2_holds_59 rfl ⟨(by simp only [holdsB, bI_true, bI_false, eq_false t4_1, eq_true t4_2, eq_true c_51, if_true, if_false, true_and, and_true, false_and, and_false, true_or, or_true, false_or, or_false, not_true_eq_false, not_false_eq_true, Bool.true_eq_false, Bool.false_eq_true, ite_true, ite_false, reduceIte, decide_true, decide_false, Bool.not_true, Bool.not_false]), rfl⟩
  by_cases t4_3 : how = 3
  · refine g_tableIn (off := 56) (tgt := 60) hF dX2_holds_4 (by rw [t4_3]; decide) (by rw [t4_3]; decide) (by rw [t4_3]; rfl) (by decide) ?_
    refine g_iload_n hF dX2_holds_60 rfl ?_
    refine g_aload_n hF dX2_holds_61 rfl ?_
    refine g_get (j := 5) hF 0 rfl rfl (by decide) rfl m_192 rfl dX2_holds_62 ?_
    refine g_icmp_le (tgt := 72) hF dX2_holds_65 (by decide) (fun c_65 => ?_) (fun c_65 => ?_)
    · refine g_iconst (v := (0)) hF dX2_holds_72 rfl ?_
      exact g_zret hF hR dX2_holds_73 rfl ⟨(by simp only [holdsB, bI_true, bI_false, eq_false t4_1, eq_false t4_2, eq_true t4_3, eq_true c_65, if_true, if_false, true_and, and_true, false_and, and_false, true_or, or_true, false_or, or_false, not_true_eq_false, not_false_eq_true, Bool.true_eq_false, Bool.false_eq_true, ite_true, ite_false, reduceIte, decide_true, decide_false, Bool.not_true, Bool.not_false]), rfl⟩
    · refine g_iconst (v := (1)) hF dX2_holds_68 rfl ?_
      refine g_goto (tgt := 73) hF dX2_holds_69 (by decide) ?_
      exact g_zret hF hR dX2_holds_73 rfl ⟨(by simp only [holdsB, bI_true, bI_false, eq_false t4_1, eq_false t4_2, eq_true t4_3, eq_false c_65, if_true, if_false, true_and, and_true, false_and, and_false, true_or, or_true, false_or, or_false, not_true_eq_false, not_false_eq_true, Bool.true_eq_false, Bool.false_eq_true, ite_true, ite_false, reduceIte, decide_true, decide_false, Bool.not_true, Bool.not_false]), rfl⟩
  refine g_tableOut (tgt := 74) hF dX2_holds_4 (by have z0 := lv_neT t4_1 (a := 1) rfl; have z1 := lv_neT t4_2 (a := 2) rfl; have z2 := lv_neT t4_3 (a := 3) rfl; omega) (by decide) ?_
  refine g_iconst (v := (1)) hF dX2_holds_74 rfl ?_
  exact g_zret hF hR dX2_holds_75 rfl ⟨(by simp only [holdsB, bI_true, bI_false, eq_false t4_1, eq_false t4_2, eq_false t4_3, if_true, if_false, true_and, and_true, false_and, and_false, true_or, or_true, false_or, or_false, not_true_eq_false, not_false_eq_true, Bool.true_eq_false, Bool.false_eq_true, ite_true, ite_false, reduceIte, decide_true, decide_false, Bool.not_true, Bool.not_false]), rfl⟩
set_option maxHeartbeats 4000000 in
set_option maxRecDepth 100000 in
theorem c_Point_isHit {E : Env3} {q : Nat} {st ps how ce m stops : Int32} {on : Bool} {h r1 r2 r3 r4 a2 n2 : Nat} {at' status rd ck : Int32} {f2 : Nat → Int32} (hn : n2 ≤ 12)  : Cd E none 1 yX2_isHit cX2_isHit 2 (some .boolean) [.ref q, .ref h] [poO q st ps on how ce m stops, stO h r1 r2 r3 r4 at' status rd ck, rowW E.2.2 r2 a2 12 f2 n2] (some (.int (bI (hitB on st at' status (holdsB how m (rowGet f2 n2 ce)))))) [poO q st ps on how ce m stops, stO h r1 r2 r3 r4 at' status rd ck, rowW E.2.2 r2 a2 12 f2 n2] := by
  refine Ct.of [some (.ref q), some (.ref h)] (by decide +kernel) rfl (Nat.le_of_ble_eq_true rfl) (fun F hE hF hR hN => ?_)
  subst hE
  refine g_aload_n hF dX2_isHit_0 rfl ?_
  refine g_get (j := 2) hF 0 rfl rfl (by decide) rfl m_188 rfl dX2_isHit_1 ?_
  refine g_if_eq (tgt := 47) hF dX2_isHit_4 (by decide) (fun c_4 => ?_) (fun c_4 => ?_)
  · refine g_iconst (v := (0)) hF dX2_isHit_47 rfl ?_
    exact g_zret hF hR dX2_isHit_48 rfl ⟨(by simp only [hitB, bI_true, bI_false, bI_0.mp c_4, Bool.and_true, Bool.true_and, Bool.and_false, Bool.false_and, if_true, if_false, true_and, and_true, false_and, and_false, true_or, or_true, false_or, or_false, not_true_eq_false, not_false_eq_true, Bool.true_eq_false, Bool.false_eq_true, ite_true, ite_false, reduceIte, decide_true, decide_false, Bool.not_true, Bool.not_false]), rfl⟩
  · refine g_aload_n hF dX2_isHit_7 rfl ?_
    refine g_get (j := 0) hF 0 rfl rfl (by decide) rfl m_184 rfl dX2_isHit_8 ?_
    refine g_aload_n hF dX2_isHit_11 rfl ?_
    refine g_getN (j := 4) hF 1 rfl rfl (by decide) rfl m_83 rfl dX2_isHit_12 ?_
    refine g_icmp_ne (tgt := 47) hF dX2_isHit_15 (by decide) (fun c_15 => ?_) (fun c_15 => ?_)
    · refine g_iconst (v := (0)) hF dX2_isHit_47 rfl ?_
      exact g_zret hF hR dX2_isHit_48 rfl ⟨(by simp only [hitB, bI_true, bI_false, bI_n.mp c_4, eq_false c_15, Bool.and_true, Bool.true_and, Bool.and_false, Bool.false_and, if_true, if_false, true_and, and_true, false_and, and_false, true_or, or_true, false_or, or_false, not_true_eq_false, not_false_eq_true, Bool.true_eq_false, Bool.false_eq_true, ite_true, ite_false, reduceIte, decide_true, decide_false, Bool.not_true, Bool.not_false]), rfl⟩
    · refine g_aload_n hF dX2_isHit_18 rfl ?_
      refine g_getN (j := 5) hF 1 rfl rfl (by decide) rfl m_86 rfl dX2_isHit_19 ?_
      refine g_if_ne (tgt := 47) hF dX2_isHit_22 (by decide) (fun c_22 => ?_) (fun c_22 => ?_)
      · refine g_iconst (v := (0)) hF dX2_isHit_47 rfl ?_
        exact g_zret hF hR dX2_isHit_48 rfl ⟨(by simp only [hitB, bI_true, bI_false, bI_n.mp c_4, eq_true c_15, eq_false c_22, Bool.and_true, Bool.true_and, Bool.and_false, Bool.false_and, if_true, if_false, true_and, and_true, false_and, and_false, true_or, or_true, false_or, or_false, not_true_eq_false, not_false_eq_true, Bool.true_eq_false, Bool.false_eq_true, ite_true, ite_false, reduceIte, decide_true, decide_false, Bool.not_true, Bool.not_false]), rfl⟩
      · refine g_aload_n hF dX2_isHit_25 rfl ?_
        refine g_aload_n hF dX2_isHit_26 rfl ?_
        refine g_getN (j := 1) hF 1 rfl rfl (by decide) rfl m_76 rfl dX2_isHit_27 ?_
        refine g_aload_n hF dX2_isHit_30 rfl ?_
        refine g_get (j := 4) hF 0 rfl rfl (by decide) rfl m_191 rfl dX2_isHit_31 ?_
        refine g_callVq hF (c_Row_get (by first | omega | exact clampI_le | (split <;> omega)) (by omega)) cal_X4_get rfl m_586 (by decide) (Or.inl rfl) (Nat.zero_le _) (Nat.zero_le _) 2 rfl rfl [2] rfl rfl rfl (Nat.le_of_ble_eq_true rfl) dX2_isHit_34 ?_
        refine g_callVq hF (c_Point_holds) cal_X2_holds rfl m_587 (by decide) (Or.inl rfl) (Nat.zero_le _) (Nat.zero_le _) 0 rfl rfl [0] rfl rfl rfl (Nat.le_of_ble_eq_true rfl) dX2_isHit_37 ?_
        refine g_if_eq (tgt := 47) hF dX2_isHit_40 (by decide) (fun c_40 => ?_) (fun c_40 => ?_)
        · refine g_iconst (v := (0)) hF dX2_isHit_47 rfl ?_
          exact g_zret hF hR dX2_isHit_48 rfl ⟨(by simp only [hitB, bI_true, bI_false, bI_n.mp c_4, eq_true c_15, eq_true c_22, bI_0.mp c_40, Bool.and_true, Bool.true_and, Bool.and_false, Bool.false_and, if_true, if_false, true_and, and_true, false_and, and_false, true_or, or_true, false_or, or_false, not_true_eq_false, not_false_eq_true, Bool.true_eq_false, Bool.false_eq_true, ite_true, ite_false, reduceIte, decide_true, decide_false, Bool.not_true, Bool.not_false]), rfl⟩
        · refine g_iconst (v := (1)) hF dX2_isHit_43 rfl ?_
          refine g_goto (tgt := 48) hF dX2_isHit_44 (by decide) ?_
          exact g_zret hF hR dX2_isHit_48 rfl ⟨(by simp only [hitB, bI_true, bI_false, bI_n.mp c_4, eq_true c_15, eq_true c_22, bI_n.mp c_40, Bool.and_true, Bool.true_and, Bool.and_false, Bool.false_and, if_true, if_false, true_and, and_true, false_and, and_false, true_or, or_true, false_or, or_false, not_true_eq_false, not_false_eq_true, Bool.true_eq_false, Bool.false_eq_true, ite_true, ite_false, reduceIte, decide_true, decide_false, Bool.not_true, Bool.not_false]), rfl⟩
set_option maxHeartbeats 4000000 in
set_option maxRecDepth 100000 in
theorem c_Point_letsPass {E : Env3} {q : Nat} {st how ce m stops : Int32} {on : Bool}  : Cd E none 0 yX2_letsPass cX2_letsPass 1 (some .boolean) [.ref q] [poO q st 0 on how ce m stops] (some (.int 0)) [poO q st 0 on how ce m stops] := by
  refine Ct.of [some (.ref q)] (by decide +kernel) rfl (Nat.le_of_ble_eq_true rfl) (fun F hE hF hR hN => ?_)
  subst hE
  refine g_aload_n hF dX2_letsPass_0 rfl ?_
  refine g_get (j := 1) hF 0 rfl rfl (by decide) rfl m_186 rfl dX2_letsPass_1 ?_
  refine g_if_ne (tgt := 9) hF dX2_letsPass_4 (by decide) (fun c_4 => absurd rfl c_4) (fun c_4 => ?_)
  refine g_iconst (v := (0)) hF dX2_letsPass_7 rfl ?_
  exact g_zret hF hR dX2_letsPass_8 rfl ⟨rfl, rfl⟩
set_option maxHeartbeats 4000000 in
set_option maxRecDepth 100000 in
theorem c_Tape_init {E : Env3} {h : Nat} : Ct E none 2 4 224 yX6_init cX6_init 1 none [.ref h] [[(h, .inr (6, [.null, .null, .int 0]))]] (fun r g => ∃ rs as rj aj : Nat, r = none ∧ g = [tapeO h rs rj false, rowW E.2.2 rs as 200 (fun _ => 0) 0, rowW E.2.2 rj aj 20 (fun _ => 0) 0]) := by
  refine Ct.of [some (.ref h)] (by decide +kernel) rfl (Nat.le_of_ble_eq_true rfl) (fun F hE hF hR hN => ?_)
  subst hE
  refine g_aload_n hF dX6_init_0 rfl ?_
  refine g_objInit hF m_232 m_24 m_25 (by decide) (Nat.le_of_ble_eq_true rfl) dX6_init_1 ?_
  refine g_aload_n hF dX6_init_4 rfl ?_
  refine g_new (ci := 4) (fs := [.null, .int 0]) hF rfl tyX4 tyX4_ok m_233 m_33 m_3 (fun j hj => by rcases (show j = 0 ∨ j = 1 by omega) with rfl | rfl <;> rfl) (Nat.le_of_ble_eq_true rfl) (Nat.le_of_ble_eq_true rfl) dX6_init_5 (fun q1 => ?_)
  refine g_dup hF dX6_init_8 rfl ?_
  refine g_sipush (v := (200)) hF dX6_init_9 rfl ?_
  refine g_callI hF (c_Row_init (cap := 200) (by decide)) cal_X4_init rfl m_234 (by decide) (Or.inl rfl) (Nat.le_of_ble_eq_true rfl) (Nat.le_of_ble_eq_true rfl) [1] rfl rfl rfl (Nat.le_of_ble_eq_true rfl) dX6_init_12 (fun r gs1 hpo => ?_)
  obtain ⟨a1, rfl, rfl⟩ := hpo
  refine ⟨Nat.le_refl _, ?_⟩
  refine g_putF (j := 0) hF hN 0 rfl rfl (by decide) rfl m_235 rfl (tyX6_ok 0 (by decide)) rfl rfl (Nat.le_of_ble_eq_true rfl) dX6_init_15 ?_
  try dsimp only [gput, gputA, List.set, stGs, List.cons_append, List.nil_append]
  refine g_aload_n hF dX6_init_18 rfl ?_
  refine g_new (ci := 4) (fs := [.null, .int 0]) hF rfl tyX4 tyX4_ok m_233 m_33 m_3 (fun j hj => by rcases (show j = 0 ∨ j = 1 by omega) with rfl | rfl <;> rfl) (Nat.le_of_ble_eq_true rfl) (Nat.le_of_ble_eq_true rfl) dX6_init_19 (fun q2 => ?_)
  refine g_dup hF dX6_init_22 rfl ?_
  refine g_bipush (v := (20)) hF dX6_init_23 rfl ?_
  refine g_callI hF (c_Row_init (cap := 20) (by decide)) cal_X4_init rfl m_234 (by decide) (Or.inl rfl) (Nat.le_of_ble_eq_true rfl) (Nat.le_of_ble_eq_true rfl) [2] rfl rfl rfl (Nat.le_of_ble_eq_true rfl) dX6_init_25 (fun r gs1 hpo => ?_)
  obtain ⟨a2, rfl, rfl⟩ := hpo
  refine ⟨Nat.le_refl _, ?_⟩
  refine g_putF (j := 1) hF hN 0 rfl rfl (by decide) rfl m_237 rfl (tyX6_ok 1 (by decide)) rfl rfl (Nat.le_of_ble_eq_true rfl) dX6_init_28 ?_
  try dsimp only [gput, gputA, List.set, stGs, List.cons_append, List.nil_append]
  exact g_vret hF hR dX6_init_31 ⟨q1, a1, q2, a2, rfl, rfl⟩
set_option maxHeartbeats 4000000 in
set_option maxRecDepth 100000 in
theorem c_S_init {E : Env3} {h : Nat} : Ct E none 2 8 82 yX5_init cX5_init 1 none [.ref h] [[(h, .inr (5, [.null, .null, .null, .null, .int 0, .int 0, .int 0, .int 0]))]] (fun r g => ∃ A : AV, A.1 = h ∧ r = none ∧ g = stGs E.2.2 A initS) := by
  refine Ct.of [some (.ref h)] (by decide +kernel) rfl (Nat.le_of_ble_eq_true rfl) (fun F hE hF hR hN => ?_)
  subst hE
  refine g_aload_n hF dX5_init_0 rfl ?_
  refine g_objInit hF m_66 m_24 m_25 (by decide) (Nat.le_of_ble_eq_true rfl) dX5_init_1 ?_
  refine g_aload_n hF dX5_init_4 rfl ?_
  refine g_new (ci := 4) (fs := [.null, .int 0]) hF rfl tyX4 tyX4_ok m_67 m_33 m_3 (fun j hj => by rcases (show j = 0 ∨ j = 1 by omega) with rfl | rfl <;> rfl) (Nat.le_of_ble_eq_true rfl) (Nat.le_of_ble_eq_true rfl) dX5_init_5 (fun q1 => ?_)
  refine g_dup hF dX5_init_8 rfl ?_
  refine g_bipush (v := (24)) hF dX5_init_9 rfl ?_
  refine g_callI hF (c_Row_init (cap := 24) (by decide)) cal_X4_init rfl m_68 (by decide) (Or.inl rfl) (Nat.le_of_ble_eq_true rfl) (Nat.le_of_ble_eq_true rfl) [1] rfl rfl rfl (Nat.le_of_ble_eq_true rfl) dX5_init_11 (fun r gs1 hpo => ?_)
  obtain ⟨a1, rfl, rfl⟩ := hpo
  refine ⟨Nat.le_refl _, ?_⟩
  refine g_putF (j := 0) hF hN 0 rfl rfl (by decide) rfl m_73 rfl (tyX5_ok 0 (by decide)) rfl rfl (Nat.le_of_ble_eq_true rfl) dX5_init_14 ?_
  try dsimp only [gput, gputA, List.set, stGs, List.cons_append, List.nil_append]
  refine g_aload_n hF dX5_init_17 rfl ?_
  refine g_new (ci := 4) (fs := [.null, .int 0]) hF rfl tyX4 tyX4_ok m_67 m_33 m_3 (fun j hj => by rcases (show j = 0 ∨ j = 1 by omega) with rfl | rfl <;> rfl) (Nat.le_of_ble_eq_true rfl) (Nat.le_of_ble_eq_true rfl) dX5_init_18 (fun q2 => ?_)
  refine g_dup hF dX5_init_21 rfl ?_
  refine g_bipush (v := (12)) hF dX5_init_22 rfl ?_
  refine g_callI hF (c_Row_init (cap := 12) (by decide)) cal_X4_init rfl m_68 (by decide) (Or.inl rfl) (Nat.le_of_ble_eq_true rfl) (Nat.le_of_ble_eq_true rfl) [2] rfl rfl rfl (Nat.le_of_ble_eq_true rfl) dX5_init_24 (fun r gs1 hpo => ?_)
  obtain ⟨a2, rfl, rfl⟩ := hpo
  refine ⟨Nat.le_refl _, ?_⟩
  refine g_putF (j := 1) hF hN 0 rfl rfl (by decide) rfl m_75 rfl (tyX5_ok 1 (by decide)) rfl rfl (Nat.le_of_ble_eq_true rfl) dX5_init_27 ?_
  try dsimp only [gput, gputA, List.set, stGs, List.cons_append, List.nil_append]
  refine g_aload_n hF dX5_init_30 rfl ?_
  refine g_new (ci := 4) (fs := [.null, .int 0]) hF rfl tyX4 tyX4_ok m_67 m_33 m_3 (fun j hj => by rcases (show j = 0 ∨ j = 1 by omega) with rfl | rfl <;> rfl) (Nat.le_of_ble_eq_true rfl) (Nat.le_of_ble_eq_true rfl) dX5_init_31 (fun q3 => ?_)
  refine g_dup hF dX5_init_34 rfl ?_
  refine g_bipush (v := (8)) hF dX5_init_35 rfl ?_
  refine g_callI hF (c_Row_init (cap := 8) (by decide)) cal_X4_init rfl m_68 (by decide) (Or.inl rfl) (Nat.le_of_ble_eq_true rfl) (Nat.le_of_ble_eq_true rfl) [3] rfl rfl rfl (Nat.le_of_ble_eq_true rfl) dX5_init_37 (fun r gs1 hpo => ?_)
  obtain ⟨a3, rfl, rfl⟩ := hpo
  refine ⟨Nat.le_refl _, ?_⟩
  refine g_putF (j := 2) hF hN 0 rfl rfl (by decide) rfl m_78 rfl (tyX5_ok 2 (by decide)) rfl rfl (Nat.le_of_ble_eq_true rfl) dX5_init_40 ?_
  try dsimp only [gput, gputA, List.set, stGs, List.cons_append, List.nil_append]
  refine g_aload_n hF dX5_init_43 rfl ?_
  refine g_new (ci := 4) (fs := [.null, .int 0]) hF rfl tyX4 tyX4_ok m_67 m_33 m_3 (fun j hj => by rcases (show j = 0 ∨ j = 1 by omega) with rfl | rfl <;> rfl) (Nat.le_of_ble_eq_true rfl) (Nat.le_of_ble_eq_true rfl) dX5_init_44 (fun q4 => ?_)
  refine g_dup hF dX5_init_47 rfl ?_
  refine g_bipush (v := (30)) hF dX5_init_48 rfl ?_
  refine g_callI hF (c_Row_init (cap := 30) (by decide)) cal_X4_init rfl m_68 (by decide) (Or.inl rfl) (Nat.le_of_ble_eq_true rfl) (Nat.le_of_ble_eq_true rfl) [4] rfl rfl rfl (Nat.le_of_ble_eq_true rfl) dX5_init_50 (fun r gs1 hpo => ?_)
  obtain ⟨a4, rfl, rfl⟩ := hpo
  refine ⟨Nat.le_refl _, ?_⟩
  refine g_putF (j := 3) hF hN 0 rfl rfl (by decide) rfl m_80 rfl (tyX5_ok 3 (by decide)) rfl rfl (Nat.le_of_ble_eq_true rfl) dX5_init_53 ?_
  try dsimp only [gput, gputA, List.set, stGs, List.cons_append, List.nil_append]
  refine g_aload_n hF dX5_init_56 rfl ?_
  refine g_get (j := 1) hF 0 rfl rfl (by decide) rfl m_75 rfl dX5_init_57 ?_
  refine g_callVd hF (c_Row_fillWithZeros (by omega)) cal_X4_fillWithZeros rfl m_69 (by decide) (Or.inl rfl) (Nat.le_of_ble_eq_true rfl) (Nat.le_of_ble_eq_true rfl) 2 rfl rfl [2] rfl rfl (Nat.le_of_ble_eq_true rfl) rfl (Nat.le_of_ble_eq_true rfl) dX5_init_60 ?_
  try dsimp only [gput, gputA, List.set, stGs, List.cons_append, List.nil_append]
  exact g_vret hF hR dX5_init_63 ⟨(h, (q1, a1), (q2, a2), (q3, a3), q4, a4), rfl, rfl, rfl⟩
set_option maxHeartbeats 4000000 in
set_option maxRecDepth 100000 in
theorem c_Past_init {E : Env3} {h : Nat} : Ct E none 2 201 2400 yX1_init cX1_init 2 none [.ref h] [[(h, .inr (1, [.null, .int 0, .int 0]))]] (fun r g => ∃ (ma : Nat) (ad : Nat → Nat), r = none ∧ g = [pastO h ma 0, arrM E.2.2 ma ad, momsW ad (fun _ _ => 0)]) := by
  refine Ct.of [some (.ref h), none] (by decide +kernel) rfl (Nat.le_of_ble_eq_true rfl) (fun F hE hF hR hN => ?_)
  subst hE
  refine g_aload_n hF dX1_init_0 rfl ?_
  refine g_objInit hF m_114 m_24 m_25 (by decide) (Nat.le_of_ble_eq_true rfl) dX1_init_1 ?_
  refine g_aload_n hF dX1_init_4 rfl ?_
  refine g_sipush (v := (200)) hF dX1_init_5 rfl ?_
  refine g_newq (N := 200) hF rfl 1 rfl m_115 m_116 (by decide) rfl (by decide) (Nat.le_of_ble_eq_true rfl) (Nat.le_of_ble_eq_true rfl) dX1_init_8 (fun r1 => ?_)
  refine g_putF (j := 0) hF hN 0 rfl rfl (by decide) rfl m_167 rfl (tyX1_ok 0 (by decide)) rfl rfl (Nat.le_of_ble_eq_true rfl) dX1_init_11 ?_
  try dsimp only [gput, gputA, List.set, stGs, List.cons_append, List.nil_append]
  refine g_iconst (v := (0)) hF dX1_init_14 rfl ?_
  refine g_istore_n hF dX1_init_15 (Nat.le_of_ble_eq_true rfl) rfl ?_
  have loop : ∀ i, i ≤ 200 → ∀ ad : Nat → Nat, G F (1 + i) (200 + 11 * i) [[(h, .inr (1, [.ref r1, .int 0, .int 0]))], [(r1, .inl (F.1.2.2 1, 200, .inr (.inr (.inr (.inr (adF ad i))))))], momsR ad (fun _ _ => 0) 0 i] 16 [some (.ref h), some (.int (nI i))] [] := by
    refine up_loop (Q := fun i => ∀ ad : Nat → Nat, G F (1 + i) (200 + 11 * i) [[(h, .inr (1, [.ref r1, .int 0, .int 0]))], [(r1, .inl (F.1.2.2 1, 200, .inr (.inr (.inr (.inr (adF ad i))))))], momsR ad (fun _ _ => 0) 0 i] 16 [some (.ref h), some (.int (nI i))] []) ?_ (fun i hi ih => ?_)
    · intro ad
      refine g_iload_n hF dX1_init_16 rfl ?_
      refine g_aload_n hF dX1_init_17 rfl ?_
      refine g_get (j := 0) hF 0 rfl rfl (by decide) rfl m_167 rfl dX1_init_18 ?_
      refine g_alen hF rfl 1 1 rfl rfl rfl dX1_init_21 ?_
      refine g_icmp_ge (tgt := 44) hF dX1_init_22 (by decide) (fun c_22 => ?_) (fun c_22 => absurd (nI_le (Nat.le_refl 200) (show (200 : Nat) < 2 ^ 31 by decide)) c_22)
      exact g_vret hF hR dX1_init_44 ⟨r1, ad, rfl, rfl⟩
    · intro ad
      refine g_iload_n hF dX1_init_16 rfl ?_
      refine g_aload_n hF dX1_init_17 rfl ?_
      refine g_get (j := 0) hF 0 rfl rfl (by decide) rfl m_167 rfl dX1_init_18 ?_
      refine g_alen hF rfl 1 1 rfl rfl rfl dX1_init_21 ?_
      refine g_icmp_ge (tgt := 44) hF dX1_init_22 (by decide) (fun c_22 => absurd c_22 (nI_ge hi (show (200 : Nat) < 2 ^ 31 by decide))) (fun c_22 => ?_)
      refine g_aload_n hF dX1_init_25 rfl ?_
      refine g_get (j := 0) hF 0 rfl rfl (by decide) rfl m_167 rfl dX1_init_26 ?_
      refine g_iload_n hF dX1_init_29 rfl ?_
      refine g_new (ci := 0) (fs := [.int 0, .int 0, .int 0, .int 0, .int 0, .int 0, .int 0, .int 0, .int 0, .int 0, .int 0]) hF rfl tyX0 tyX0_ok m_115 m_117 m_7 (fun j hj => by rcases (show j = 0 ∨ j = 1 ∨ j = 2 ∨ j = 3 ∨ j = 4 ∨ j = 5 ∨ j = 6 ∨ j = 7 ∨ j = 8 ∨ j = 9 ∨ j = 10 by omega) with rfl | rfl | rfl | rfl | rfl | rfl | rfl | rfl | rfl | rfl | rfl <;> rfl) (by omega) (by omega) dX1_init_30 (fun q1 => ?_)
      refine g_dup hF dX1_init_33 rfl ?_
      refine g_callIN hF (c_Mom_init (μ := fun _ => 0)) cal_X0_init rfl m_118 (by decide) (Or.inl rfl) (by omega) (by omega) [3] rfl rfl rfl (Nat.le_of_ble_eq_true rfl) dX1_init_34 (fun r gs1 hpo => ?_)
      obtain ⟨rfl, rfl⟩ := hpo
      refine ⟨Nat.le_refl _, ?_⟩
      try dsimp only [gput, gputA, List.set, stGs, List.cons_append, List.nil_append]
      refine g_aast hF rfl 1 1 3 i rfl rfl rfl rfl (vp_in_nI hi (show (200 : Nat) < 2 ^ 31 by decide)) (nI_clamp (by omega)) dX1_init_37 ?_
      try dsimp only [gput, gputA, List.set, stGs, List.cons_append, List.nil_append]
      refine g_iinc (v := nI (i + 1)) hF dX1_init_38 rfl (nI_1 i) rfl ?_
      refine g_goto (tgt := 16) hF dX1_init_41 (by decide) ?_
      refine g_regroup (gs' := [[(h, .inr (1, [.ref r1, .int 0, .int 0]))], [(r1, .inl (F.1.2.2 1, 200, .inr (.inr (.inr (.inr (adF (va_up ad i q1) (i + 1)))))))], momsR (va_up ad i q1) (fun _ _ => 0) 0 (i + 1)]) (by rw [adF_succ, ← momsR_push]; simp only [List.flatten_cons, List.flatten_nil, List.append_assoc, List.append_nil] <;> rfl) ?_
      refine g_widen (k' := 1 + (i + 1)) (n' := 200 + 11 * (i + 1)) (by omega) (by omega) ?_
      exact ih (va_up ad i q1)
  refine g_regroup (gs' := [[(h, .inr (1, [.ref r1, .int 0, .int 0]))], [(r1, .inl (F.1.2.2 1, 200, .inr (.inr (.inr (.inr (adF (fun _ => 0) 0))))))], momsR (fun _ => 0) (fun _ _ => 0) 0 0]) (by rw [adF_0]; rfl) ?_
  exact loop 0 (Nat.zero_le _) (fun _ => 0)
