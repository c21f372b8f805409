/-! the law's helper program: a program by cells -/
def cdF : Nat → Int32 := (upd (upd (upd (upd (upd (upd (upd (upd (upd (upd (upd (upd (upd (upd (upd (upd (upd (upd (upd (upd (upd (upd (upd (upd (upd (upd (upd (upd (upd (fun _ => (0 : Int32)) 0 0) 1 0) 2 1) 3 2) 4 3) 5 4) 6 5) 7 6) 8 7) 9 8) 10 9) 11 10) 12 11) 13 12) 14 13) 15 13) 16 14) 17 15) 18 16) 19 17) 20 17) 21 18) 22 18) 23 19) 24 20) 25 21) 26 0) 27 0) 28 0)
theorem cdF_ok : ∀ j, j < 29 → ∃ k, k ≤ 22 ∧ cdF j = nI k := by
  have h : ∀ j : Fin 29, ∃ k : Fin 23, cdF j.val = nI k.val := by decide +kernel
  intro j hj
  obtain ⟨k, hk⟩ := h ⟨j, hj⟩
  exact ⟨k.val, by omega, hk⟩
def pairO (cy : Nat → ClassId) (q : Nat) (c x : Int32) : va_W := [(q, .inl (cy 0, 2, .inl (upd (upd (fun _ => 0) 0 c) 1 x)))]
def pairsR (cy : Nat → ClassId) (ad : Nat → Nat) (fc fn : Nat → Int32) (n : Nat) : va_W := ((List.range n).map (fun j => pairO cy (ad j) (fc j) (fn j))).flatten
theorem pairs_push (cy : Nat → ClassId) (ad : Nat → Nat) (fc fn : Nat → Int32) (i q : Nat) (c x : Int32) : pairsR cy ad fc fn i ++ pairO cy q c x = pairsR cy (va_up ad i q) (upd fc i c) (upd fn i x) (i + 1) := by
  unfold pairsR
  rw [List.range_succ, List.map_append, List.flatten_append]
  congr 1
  · congr 1
    apply List.map_congr_left
    intro j hj
    have := List.mem_range.mp hj
    simp [va_up, upd, show ¬ j = i by omega]
  · simp [va_up, upd]
theorem allows_0 (y : Int32) : progAllows 0 y = true := by
  unfold progAllows
  rw [if_neg (by decide), if_neg (by decide)]
  decide
theorem allows_c {c : Int32} (h : c = 12 ∨ c = 13) (x : Int32) : progAllows c (belI x 4) = true := by
  obtain ⟨j, hj, e⟩ := bel_ex x (n := 4) (by decide) (by decide)
  unfold progAllows
  rw [if_pos h, show belI x 4 = nI j from e]
  exact isCell_nI (by omega)
theorem allows_n {c : Int32} (hc : ∃ k, k ≤ 22 ∧ c = nI k) (h : ¬ (c = 12 ∨ c = 13)) (x : Int32) {many : Nat} (hm : many < 80) : progAllows c (belI x (nI many + 1)) = true := by
  obtain ⟨j, hj, e⟩ := bel_ex x (n := many + 1) (by omega) (by omega)
  obtain ⟨k, hk, rfl⟩ := hc
  unfold progAllows
  rw [if_neg h, nI_1, e]
  by_cases h2 : nI k = 16 ∨ nI k = 17 ∨ nI k = 18
  · rw [if_pos h2, decide_eq_false (nI_pos (by omega)), decide_eq_false (show ¬ (80 : Int32) < nI j from nI_nlt (show j ≤ 80 by omega) (by decide))]
    rfl
  · rw [if_neg h2, decide_eq_false (nI_pos (by omega)), decide_eq_false (show ¬ (22 : Int32) < nI k from nI_nlt (show k ≤ 22 by omega) (by decide))]
    rfl
theorem all_up {fc fn ft : Nat → Int32} {i : Nat} {c x : Int32} (h : ∀ j, j < i → progAllows (fc j) (fn j) = true ∧ ft j = 0) (hc : progAllows c x = true) : ∀ j, j < i + 1 → progAllows (upd fc i c j) (upd fn i x j) = true ∧ upd ft i 0 j = 0 := by
  intro j hj
  unfold upd
  by_cases e : j = i
  · rw [if_pos e, if_pos e, if_pos e]
    exact ⟨hc, rfl⟩
  · rw [if_neg e, if_neg e, if_neg e]
    exact h j (by omega)
section LW2
variable {F : Fix} {cc : ByteArray} {own : String} {dd kM nM k n pc : Nat} {gs : List va_W} {lv : List (Option Value)} {st : List Value}
theorem g_newAA {cy : Nat → ClassId} (hF : Ok F cc own dd kM nM) (hcy : F.1.2.2 = cy) {i : Int32} {N idx : Nat} (hm : Cond.classLink own idx "[I" ∈ bw) (hm2 : Cond.arrayOver (.array .int) ∈ bw) (hn : ¬ i < 0) (hN : i.toNatClampNeg = N) (hbytes : N ≤ 134217728) (hk : k + 1 ≤ kM) (hn2 : n + N ≤ nM) (d : decode cc pc = .ok (.anewarray idx, 3)) (kk : ∀ q : Nat, G F (k + 1) (n + N) (gs ++ [[(q, .inl (cy 5, N, .inr (.inr (.inr (.inr (adF (fun _ => 0) 0))))))]]) (pc + 3) lv (.ref q :: st)) : G F k n gs pc lv (.int i :: st) := by
  refine g_newA hF hcy hm hm2 hn hN hbytes hk hn2 d (fun q => ?_)
  rw [← adF_0 (fun _ => 0)]
  exact kk q
theorem g_aastIA {cy : Nat → ClassId} (hF : Ok F cc own dd kM nM) (hcy : F.1.2.2 = cy) (hm2 : Cond.arrayOver (.array .int) ∈ bw) (kg kv : Nat) {a N v M : Nat} {ad : Nat → Nat} {g : Nat → Int32} {t tv : va_W} {i : Int32} (j : Nat) (hg : gs[kg]? = some ((a, .inl (cy 5, N, .inr (.inr (.inr (.inr (adF ad j)))))) :: t)) (hv : gs[kv]? = some ((v, .inl (cy 0, M, .inl g)) :: tv)) (hin : vp_in i N) (hj : i.toNatClampNeg = j) (d : decode cc pc = .ok (.aastore, 1)) (kk : G F k n (gs.set kg ((a, .inl (cy 5, N, .inr (.inr (.inr (.inr (adF (va_up ad j v) (j + 1))))))) :: t)) (pc + 1) lv st) : G F k n gs pc lv (.ref v :: .int i :: .ref a :: st) := by
  refine g_aastI hF hcy hm2 kg kv j hg hv hin hj d ?_
  rw [adF_succ]
  exact kk
end LW2
set_option maxHeartbeats 4000000 in
set_option maxRecDepth 100000 in
theorem c_L_program {E : Env3} {h p ri hp pts wts tps ti rc rn rt ac an at0 : Nat} {A : AV} {B : AV} {fc : Nat → Int32} {fn : Nat → Int32} {ft : Nat → Int32} {reason : Int32} {cause : Int32} {pc : Int32} {b L : Nat} {xs : Nat → Int32} {many : Nat} (hL : L < 2 ^ 31) (hm : many < 32) (hov : Cond.arrayOver (.array .int) ∈ bw)  : Ct E (some (b, L, xs)) 3 40 130 yL_program cL_program 9 (some (.array (.array .int))) [.ref h, .ref b, .int (nI many)] [lanO h p ri A.1 hp pts pc wts tps reason cause B.1 ti, progO p rc rn rt, rowW E.2.2 rc ac 80 fc 0, rowW E.2.2 rn an 80 fn 0, rowW E.2.2 rt at0 80 ft 0] (fun r g => ∃ (fc' fn' ft' : Nat → Int32) (qo qc : Nat) (ad : Nat → Nat), r = some (.ref qo) ∧ g = [lanO h p ri A.1 hp pts pc wts tps reason cause B.1 ti, progO p rc rn rt, rowW E.2.2 rc ac 80 fc' many, rowW E.2.2 rn an 80 fn' many, rowW E.2.2 rt at0 80 ft' many, [(qo, .inl (E.2.2 5, many, .inr (.inr (.inr (.inr (adF ad many))))))], [(qc, .inl (E.2.2 0, 29, .inl cdF))], pairsR E.2.2 ad fc' fn' many] ∧ ∀ j, j < many → progAllows (fc' j) (fn' j) = true ∧ ft' j = 0) := by
  refine Ct.ofX [some (.ref h), some (.ref b), some (.int (nI many)), none, none, none, none, none, none] (by decide +kernel) rfl (Nat.le_of_ble_eq_true rfl) (fun F hE hXF hF hR hN => ?_)
  subst hE
  refine g_iload_n hF dL_program_0 rfl ?_
  refine g_newAA (N := many) hF rfl m_821 hov (nI_pos (by omega)) (nI_clamp (by omega)) (by omega) (by omega) (by omega) dL_program_1 (fun qo => ?_)
  try dsimp only [gput, gputA, List.set, stGs, List.cons_append, List.nil_append]
  refine g_astore_n hF dL_program_4 (Nat.le_of_ble_eq_true rfl) rfl ?_
  refine g_bipush (v := (29)) hF dL_program_5 rfl ?_
  refine g_newi (N := 29) hF rfl m_48 (by decide) rfl (by decide) (by omega) (by omega) dL_program_7 (fun qc => ?_)
  try dsimp only [gput, gputA, List.set, stGs, List.cons_append, List.nil_append]
  refine g_dup hF dL_program_9 rfl ?_
  refine g_iconst (v := (0)) hF dL_program_10 rfl ?_
  refine g_iconst (v := (0)) hF dL_program_11 rfl ?_
  refine g_iast hF rfl 6 0 rfl (show vp_in (nI 0) 29 from vp_in_nI (by decide) (by decide)) rfl dL_program_12 ?_
  try dsimp only [gput, gputA, List.set, stGs, List.cons_append, List.nil_append]
  refine g_dup hF dL_program_13 rfl ?_
  refine g_iconst (v := (1)) hF dL_program_14 rfl ?_
  refine g_iconst (v := (0)) hF dL_program_15 rfl ?_
  refine g_iast hF rfl 6 1 rfl (show vp_in (nI 1) 29 from vp_in_nI (by decide) (by decide)) rfl dL_program_16 ?_
  try dsimp only [gput, gputA, List.set, stGs, List.cons_append, List.nil_append]
  refine g_dup hF dL_program_17 rfl ?_
  refine g_iconst (v := (2)) hF dL_program_18 rfl ?_
  refine g_iconst (v := (1)) hF dL_program_19 rfl ?_
  refine g_iast hF rfl 6 2 rfl (show vp_in (nI 2) 29 from vp_in_nI (by decide) (by decide)) rfl dL_program_20 ?_
  try dsimp only [gput, gputA, List.set, stGs, List.cons_append, List.nil_append]
  refine g_dup hF dL_program_21 rfl ?_
  refine g_iconst (v := (3)) hF dL_program_22 rfl ?_
  refine g_iconst (v := (2)) hF dL_program_23 rfl ?_
  refine g_iast hF rfl 6 3 rfl (show vp_in (nI 3) 29 from vp_in_nI (by decide) (by decide)) rfl dL_program_24 ?_
  try dsimp only [gput, gputA, List.set, stGs, List.cons_append, List.nil_append]
  refine g_dup hF dL_program_25 rfl ?_
  refine g_iconst (v := (4)) hF dL_program_26 rfl ?_
  refine g_iconst (v := (3)) hF dL_program_27 rfl ?_
  refine g_iast hF rfl 6 4 rfl (show vp_in (nI 4) 29 from vp_in_nI (by decide) (by decide)) rfl dL_program_28 ?_
  try dsimp only [gput, gputA, List.set, stGs, List.cons_append, List.nil_append]
  refine g_dup hF dL_program_29 rfl ?_
  refine g_iconst (v := (5)) hF dL_program_30 rfl ?_
  refine g_iconst (v := (4)) hF dL_program_31 rfl ?_
  refine g_iast hF rfl 6 5 rfl (show vp_in (nI 5) 29 from vp_in_nI (by decide) (by decide)) rfl dL_program_32 ?_
  try dsimp only [gput, gputA, List.set, stGs, List.cons_append, List.nil_append]
  refine g_dup hF dL_program_33 rfl ?_
  refine g_bipush (v := (6)) hF dL_program_34 rfl ?_
  refine g_iconst (v := (5)) hF dL_program_36 rfl ?_
  refine g_iast hF rfl 6 6 rfl (show vp_in (nI 6) 29 from vp_in_nI (by decide) (by decide)) rfl dL_program_37 ?_
  try dsimp only [gput, gputA, List.set, stGs, List.cons_append, List.nil_append]
  refine g_dup hF dL_program_38 rfl ?_
  refine g_bipush (v := (7)) hF dL_program_39 rfl ?_
  refine g_bipush (v := (6)) hF dL_program_41 rfl ?_
  refine g_iast hF rfl 6 7 rfl (show vp_in (nI 7) 29 from vp_in_nI (by decide) (by decide)) rfl dL_program_43 ?_
  try dsimp only [gput, gputA, List.set, stGs, List.cons_append, List.nil_append]
  refine g_dup hF dL_program_44 rfl ?_
  refine g_bipush (v := (8)) hF dL_program_45 rfl ?_
  refine g_bipush (v := (7)) hF dL_program_47 rfl ?_
  refine g_iast hF rfl 6 8 rfl (show vp_in (nI 8) 29 from vp_in_nI (by decide) (by decide)) rfl dL_program_49 ?_
  try dsimp only [gput, gputA, List.set, stGs, List.cons_append, List.nil_append]
  refine g_dup hF dL_program_50 rfl ?_
  refine g_bipush (v := (9)) hF dL_program_51 rfl ?_
  refine g_bipush (v := (8)) hF dL_program_53 rfl ?_
  refine g_iast hF rfl 6 9 rfl (show vp_in (nI 9) 29 from vp_in_nI (by decide) (by decide)) rfl dL_program_55 ?_
  try dsimp only [gput, gputA, List.set, stGs, List.cons_append, List.nil_append]
  refine g_dup hF dL_program_56 rfl ?_
  refine g_bipush (v := (10)) hF dL_program_57 rfl ?_
  refine g_bipush (v := (9)) hF dL_program_59 rfl ?_
  refine g_iast hF rfl 6 10 rfl (show vp_in (nI 10) 29 from vp_in_nI (by decide) (by decide)) rfl dL_program_61 ?_
  try dsimp only [gput, gputA, List.set, stGs, List.cons_append, List.nil_append]
  refine g_dup hF dL_program_62 rfl ?_
  refine g_bipush (v := (11)) hF dL_program_63 rfl ?_
  refine g_bipush (v := (10)) hF dL_program_65 rfl ?_
  refine g_iast hF rfl 6 11 rfl (show vp_in (nI 11) 29 from vp_in_nI (by decide) (by decide)) rfl dL_program_67 ?_
  try dsimp only [gput, gputA, List.set, stGs, List.cons_append, List.nil_append]
  refine g_dup hF dL_program_68 rfl ?_
  refine g_bipush (v := (12)) hF dL_program_69 rfl ?_
  refine g_bipush (v := (11)) hF dL_program_71 rfl ?_
  refine g_iast hF rfl 6 12 rfl (show vp_in (nI 12) 29 from vp_in_nI (by decide) (by decide)) rfl dL_program_73 ?_
  try dsimp only [gput, gputA, List.set, stGs, List.cons_append, List.nil_append]
  refine g_dup hF dL_program_74 rfl ?_
  refine g_bipush (v := (13)) hF dL_program_75 rfl ?_
  refine g_bipush (v := (12)) hF dL_program_77 rfl ?_
  refine g_iast hF rfl 6 13 rfl (show vp_in (nI 13) 29 from vp_in_nI (by decide) (by decide)) rfl dL_program_79 ?_
  try dsimp only [gput, gputA, List.set, stGs, List.cons_append, List.nil_append]
  refine g_dup hF dL_program_80 rfl ?_
  refine g_bipush (v := (14)) hF dL_program_81 rfl ?_
  refine g_bipush (v := (13)) hF dL_program_83 rfl ?_
  refine g_iast hF rfl 6 14 rfl (show vp_in (nI 14) 29 from vp_in_nI (by decide) (by decide)) rfl dL_program_85 ?_
  try dsimp only [gput, gputA, List.set, stGs, List.cons_append, List.nil_append]
  refine g_dup hF dL_program_86 rfl ?_
  refine g_bipush (v := (15)) hF dL_program_87 rfl ?_
  refine g_bipush (v := (13)) hF dL_program_89 rfl ?_
  refine g_iast hF rfl 6 15 rfl (show vp_in (nI 15) 29 from vp_in_nI (by decide) (by decide)) rfl dL_program_91 ?_
  try dsimp only [gput, gputA, List.set, stGs, List.cons_append, List.nil_append]
  refine g_dup hF dL_program_92 rfl ?_
  refine g_bipush (v := (16)) hF dL_program_93 rfl ?_
  refine g_bipush (v := (14)) hF dL_program_95 rfl ?_
  refine g_iast hF rfl 6 16 rfl (show vp_in (nI 16) 29 from vp_in_nI (by decide) (by decide)) rfl dL_program_97 ?_
  try dsimp only [gput, gputA, List.set, stGs, List.cons_append, List.nil_append]
  refine g_dup hF dL_program_98 rfl ?_
  refine g_bipush (v := (17)) hF dL_program_99 rfl ?_
  refine g_bipush (v := (15)) hF dL_program_101 rfl ?_
  refine g_iast hF rfl 6 17 rfl (show vp_in (nI 17) 29 from vp_in_nI (by decide) (by decide)) rfl dL_program_103 ?_
  try dsimp only [gput, gputA, List.set, stGs, List.cons_append, List.nil_append]
  refine g_dup hF dL_program_104 rfl ?_
  refine g_bipush (v := (18)) hF dL_program_105 rfl ?_
  refine g_bipush (v := (16)) hF dL_program_107 rfl ?_
  refine g_iast hF rfl 6 18 rfl (show vp_in (nI 18) 29 from vp_in_nI (by decide) (by decide)) rfl dL_program_109 ?_
  try dsimp only [gput, gputA, List.set, stGs, List.cons_append, List.nil_append]
  refine g_dup hF dL_program_110 rfl ?_
  refine g_bipush (v := (19)) hF dL_program_111 rfl ?_
  refine g_bipush (v := (17)) hF dL_program_113 rfl ?_
  refine g_iast hF rfl 6 19 rfl (show vp_in (nI 19) 29 from vp_in_nI (by decide) (by decide)) rfl dL_program_115 ?_
  try dsimp only [gput, gputA, List.set, stGs, List.cons_append, List.nil_append]
  refine g_dup hF dL_program_116 rfl ?_
  refine g_bipush (v := (20)) hF dL_program_117 rfl ?_
  refine g_bipush (v := (17)) hF dL_program_119 rfl ?_
  refine g_iast hF rfl 6 20 rfl (show vp_in (nI 20) 29 from vp_in_nI (by decide) (by decide)) rfl dL_program_121 ?_
  try dsimp only [gput, gputA, List.set, stGs, List.cons_append, List.nil_append]
  refine g_dup hF dL_program_122 rfl ?_
  refine g_bipush (v := (21)) hF dL_program_123 rfl ?_
  refine g_bipush (v := (18)) hF dL_program_125 rfl ?_
  refine g_iast hF rfl 6 21 rfl (show vp_in (nI 21) 29 from vp_in_nI (by decide) (by decide)) rfl dL_program_127 ?_
  try dsimp only [gput, gputA, List.set, stGs, List.cons_append, List.nil_append]
  refine g_dup hF dL_program_128 rfl ?_
  refine g_bipush (v := (22)) hF dL_program_129 rfl ?_
  refine g_bipush (v := (18)) hF dL_program_131 rfl ?_
  refine g_iast hF rfl 6 22 rfl (show vp_in (nI 22) 29 from vp_in_nI (by decide) (by decide)) rfl dL_program_133 ?_
  try dsimp only [gput, gputA, List.set, stGs, List.cons_append, List.nil_append]
  refine g_dup hF dL_program_134 rfl ?_
  refine g_bipush (v := (23)) hF dL_program_135 rfl ?_
  refine g_bipush (v := (19)) hF dL_program_137 rfl ?_
  refine g_iast hF rfl 6 23 rfl (show vp_in (nI 23) 29 from vp_in_nI (by decide) (by decide)) rfl dL_program_139 ?_
  try dsimp only [gput, gputA, List.set, stGs, List.cons_append, List.nil_append]
  refine g_dup hF dL_program_140 rfl ?_
  refine g_bipush (v := (24)) hF dL_program_141 rfl ?_
  refine g_bipush (v := (20)) hF dL_program_143 rfl ?_
  refine g_iast hF rfl 6 24 rfl (show vp_in (nI 24) 29 from vp_in_nI (by decide) (by decide)) rfl dL_program_145 ?_
  try dsimp only [gput, gputA, List.set, stGs, List.cons_append, List.nil_append]
  refine g_dup hF dL_program_146 rfl ?_
  refine g_bipush (v := (25)) hF dL_program_147 rfl ?_
  refine g_bipush (v := (21)) hF dL_program_149 rfl ?_
  refine g_iast hF rfl 6 25 rfl (show vp_in (nI 25) 29 from vp_in_nI (by decide) (by decide)) rfl dL_program_151 ?_
  try dsimp only [gput, gputA, List.set, stGs, List.cons_append, List.nil_append]
  refine g_dup hF dL_program_152 rfl ?_
  refine g_bipush (v := (26)) hF dL_program_153 rfl ?_
  refine g_iconst (v := (0)) hF dL_program_155 rfl ?_
  refine g_iast hF rfl 6 26 rfl (show vp_in (nI 26) 29 from vp_in_nI (by decide) (by decide)) rfl dL_program_156 ?_
  try dsimp only [gput, gputA, List.set, stGs, List.cons_append, List.nil_append]
  refine g_dup hF dL_program_157 rfl ?_
  refine g_bipush (v := (27)) hF dL_program_158 rfl ?_
  refine g_iconst (v := (0)) hF dL_program_160 rfl ?_
  refine g_iast hF rfl 6 27 rfl (show vp_in (nI 27) 29 from vp_in_nI (by decide) (by decide)) rfl dL_program_161 ?_
  try dsimp only [gput, gputA, List.set, stGs, List.cons_append, List.nil_append]
  refine g_dup hF dL_program_162 rfl ?_
  refine g_bipush (v := (28)) hF dL_program_163 rfl ?_
  refine g_iconst (v := (0)) hF dL_program_165 rfl ?_
  refine g_iast hF rfl 6 28 rfl (show vp_in (nI 28) 29 from vp_in_nI (by decide) (by decide)) rfl dL_program_166 ?_
  try dsimp only [gput, gputA, List.set, stGs, List.cons_append, List.nil_append]
  refine g_astore hF dL_program_167 (Nat.le_of_ble_eq_true rfl) rfl ?_
  refine g_iconst (v := (0)) hF dL_program_169 rfl ?_
  refine g_istore hF dL_program_170 (Nat.le_of_ble_eq_true rfl) rfl ?_
  have loop : ∀ i, i ≤ many → ∀ (fc fn ft : Nat → Int32) (ad : Nat → Nat), (∀ j, j < i → progAllows (fc j) (fn j) = true ∧ ft j = 0) → G F (2 + i) (many + 29 + 2 * i) [lanO h p ri A.1 hp pts pc wts tps reason cause B.1 ti, progO p rc rn rt, rowW F.1.2.2 rc ac 80 fc i, rowW F.1.2.2 rn an 80 fn i, rowW F.1.2.2 rt at0 80 ft i, [(qo, .inl (F.1.2.2 5, many, .inr (.inr (.inr (.inr (adF ad i))))))], [(qc, .inl (F.1.2.2 0, 29, .inl cdF))], pairsR F.1.2.2 ad fc fn i] 172 [some (.ref h), some (.ref b), some (.int (nI many)), some (.ref qo), some (.ref qc), some (.int (nI i)), none, none, none] [] := by
    refine up_loop (Q := fun i => ∀ (fc fn ft : Nat → Int32) (ad : Nat → Nat), (∀ j, j < i → progAllows (fc j) (fn j) = true ∧ ft j = 0) → G F (2 + i) (many + 29 + 2 * i) [lanO h p ri A.1 hp pts pc wts tps reason cause B.1 ti, progO p rc rn rt, rowW F.1.2.2 rc ac 80 fc i, rowW F.1.2.2 rn an 80 fn i, rowW F.1.2.2 rt at0 80 ft i, [(qo, .inl (F.1.2.2 5, many, .inr (.inr (.inr (.inr (adF ad i))))))], [(qc, .inl (F.1.2.2 0, 29, .inl cdF))], pairsR F.1.2.2 ad fc fn i] 172 [some (.ref h), some (.ref b), some (.int (nI many)), some (.ref qo), some (.ref qc), some (.int (nI i)), none, none, none] []) ?_ (fun i hi ih => ?_)
    · intro fc fn ft ad hall
      refine g_iload hF dL_program_172 rfl ?_
      refine g_iload_n hF dL_program_174 rfl ?_
      refine g_icmp_ge (tgt := 345) hF dL_program_175 (by decide) (fun c_175 => ?_) (fun c_175 => absurd (nI_le (Nat.le_refl many) (by omega)) c_175)
      refine g_aload_n hF dL_program_345 rfl ?_
      refine g_widen (k' := 40) (n' := 130) (by omega) (by omega) ?_
      exact g_aret hF hR (Or.inr ⟨_, rfl⟩) (Or.inr ⟨_, rfl⟩) dL_program_346 ⟨fc, fn, ft, qo, qc, ad, rfl, rfl, hall⟩
    · intro fc fn ft ad hall
      refine g_iload hF dL_program_172 rfl ?_
      refine g_iload_n hF dL_program_174 rfl ?_
      refine g_icmp_ge (tgt := 345) hF dL_program_175 (by decide) (fun c_175 => absurd c_175 (nI_ge hi (by omega))) (fun c_175 => ?_)
      refine g_aload_n hF dL_program_178 rfl ?_
      refine g_iload hF dL_program_179 rfl ?_
      refine g_bipush (v := (16)) hF dL_program_181 rfl ?_
      refine g_irem hF dL_program_183 (by decide) ?_
      rw [show nI i - nI i / 16 * 16 = nI (i % 16) from pk_rem (by omega) (by decide) (by decide)]
      refine g_callSq hF (c_L_cell (j := i % 16) hL (by omega)) cal_L_cell rfl m_814 (by decide) (Or.inr hXF.symm) (by omega) (by omega) [] rfl rfl rfl (Nat.le_of_ble_eq_true rfl) dL_program_184 ?_
      refine g_iload hF dL_program_187 rfl ?_
      refine g_bipush (v := (16)) hF dL_program_189 rfl ?_
      refine g_idiv hF dL_program_191 (by decide) ?_
      refine g_iconst (v := (3)) hF dL_program_192 rfl ?_
      refine g_imul hF dL_program_193 ?_
      refine g_ishr hF dL_program_194 ?_
      refine g_bipush (v := (7)) hF dL_program_195 rfl ?_
      refine g_iload hF dL_program_197 rfl ?_
      refine g_imul hF dL_program_199 ?_
      refine g_iadd hF dL_program_200 ?_
      generalize celN L xs (i % 16) >>> (nI i / 16 * 3 &&& 31) + 7 * nI i = x
      refine g_istore hF dL_program_201 (Nat.le_of_ble_eq_true rfl) rfl ?_
      have tail2 : ∀ c y : Int32, progAllows c y = true → G F (2 + i) (many + 29 + 2 * i) [lanO h p ri A.1 hp pts pc wts tps reason cause B.1 ti, progO p rc rn rt, rowW F.1.2.2 rc ac 80 fc i, rowW F.1.2.2 rn an 80 fn i, rowW F.1.2.2 rt at0 80 ft i, [(qo, .inl (F.1.2.2 5, many, .inr (.inr (.inr (.inr (adF ad i))))))], [(qc, .inl (F.1.2.2 0, 29, .inl cdF))], pairsR F.1.2.2 ad fc fn i] 302 [some (.ref h), some (.ref b), some (.int (nI many)), some (.ref qo), some (.ref qc), some (.int (nI i)), some (.int x), some (.int c), none] [.int y] := by
        intro c y ha
        refine g_istore hF dL_program_302 (Nat.le_of_ble_eq_true rfl) rfl ?_
        refine g_aload_n hF dL_program_304 rfl ?_
        refine g_iload hF dL_program_305 rfl ?_
        refine g_iconst (v := (2)) hF dL_program_307 rfl ?_
        refine g_newi (N := 2) hF rfl m_48 (by decide) rfl (by decide) (by omega) (by omega) dL_program_308 (fun qp => ?_)
        try dsimp only [gput, gputA, List.set, stGs, List.cons_append, List.nil_append]
        refine g_dup hF dL_program_310 rfl ?_
        refine g_iconst (v := (0)) hF dL_program_311 rfl ?_
        refine g_iload hF dL_program_312 rfl ?_
        refine g_iast hF rfl 8 0 rfl (show vp_in (nI 0) 2 from vp_in_nI (by decide) (by decide)) rfl dL_program_314 ?_
        try dsimp only [gput, gputA, List.set, stGs, List.cons_append, List.nil_append]
        refine g_dup hF dL_program_315 rfl ?_
        refine g_iconst (v := (1)) hF dL_program_316 rfl ?_
        refine g_iload hF dL_program_317 rfl ?_
        refine g_iast hF rfl 8 1 rfl (show vp_in (nI 1) 2 from vp_in_nI (by decide) (by decide)) rfl dL_program_319 ?_
        try dsimp only [gput, gputA, List.set, stGs, List.cons_append, List.nil_append]
        refine g_aastIA hF rfl hov 5 8 i rfl rfl (vp_in_nI hi (by omega)) (nI_clamp (by omega)) dL_program_320 ?_
        try dsimp only [gput, gputA, List.set, stGs, List.cons_append, List.nil_append]
        refine g_aload_n hF dL_program_321 rfl ?_
        refine g_iload hF dL_program_322 rfl ?_
        refine g_iload hF dL_program_324 rfl ?_
        refine g_callVd hF (c_step ha (by omega)) cal_X8_step rfl m_823 (by decide) (Or.inl rfl) (by omega) (by omega) 0 rfl rfl [0, 1, 2, 3, 4] rfl rfl (Nat.le_of_ble_eq_true rfl) rfl (Nat.le_of_ble_eq_true rfl) dL_program_326 ?_
        try dsimp only [gput, gputA, List.set, stGs, List.cons_append, List.nil_append]
        refine g_iload hF dL_program_329 rfl ?_
        refine g_icmp_eq (tgt := 339) hF dL_program_331 (by decide) (fun c_331 => ?_) (fun c_331 => absurd rfl c_331)
        refine g_iinc (v := nI (i + 1)) hF dL_program_339 rfl (nI_1 i) rfl ?_
        refine g_goto (tgt := 172) hF dL_program_342 (by decide) ?_
        refine g_forget1 6 ?_
        refine g_forget1 7 ?_
        refine g_forget1 8 ?_
        try dsimp only [gput, gputA, List.set, stGs, List.cons_append, List.nil_append]
        refine g_regroup (gs' := [lanO h p ri A.1 hp pts pc wts tps reason cause B.1 ti, progO p rc rn rt, rowW F.1.2.2 rc ac 80 (upd fc i c) (i + 1), rowW F.1.2.2 rn an 80 (upd fn i y) (i + 1), rowW F.1.2.2 rt at0 80 (upd ft i 0) (i + 1), [(qo, .inl (F.1.2.2 5, many, .inr (.inr (.inr (.inr (adF (va_up ad i qp) (i + 1)))))))], [(qc, .inl (F.1.2.2 0, 29, .inl cdF))], pairsR F.1.2.2 (va_up ad i qp) (upd fc i c) (upd fn i y) (i + 1)]) (by rw [← pairs_push]; simp only [List.flatten_cons, List.flatten_nil, List.append_assoc, List.append_nil] <;> rfl) ?_
        refine g_widen (k' := 2 + (i + 1)) (n' := many + 29 + 2 * (i + 1)) (by omega) (by omega) ?_
        exact ih (upd fc i c) (upd fn i y) (upd ft i 0) (va_up ad i qp) (all_up hall ha)
      have tail : ∀ c : Int32, (∃ k, k ≤ 22 ∧ c = nI k) → G F (2 + i) (many + 29 + 2 * i) [lanO h p ri A.1 hp pts pc wts tps reason cause B.1 ti, progO p rc rn rt, rowW F.1.2.2 rc ac 80 fc i, rowW F.1.2.2 rn an 80 fn i, rowW F.1.2.2 rt at0 80 ft i, [(qo, .inl (F.1.2.2 5, many, .inr (.inr (.inr (.inr (adF ad i))))))], [(qc, .inl (F.1.2.2 0, 29, .inl cdF))], pairsR F.1.2.2 ad fc fn i] 246 [some (.ref h), some (.ref b), some (.int (nI many)), some (.ref qo), some (.ref qc), some (.int (nI i)), some (.int x), none, none] [.int c] := by
        intro c hc
        refine g_istore hF dL_program_246 (Nat.le_of_ble_eq_true rfl) rfl ?_
        refine g_iload hF dL_program_248 rfl ?_
        refine g_if_ne (tgt := 267) hF dL_program_250 (by decide) (fun c_250 => ?_) (fun c_250 => ?_)
        · refine g_iload hF dL_program_267 rfl ?_
          refine g_bipush (v := (12)) hF dL_program_269 rfl ?_
          refine g_icmp_eq (tgt := 281) hF dL_program_271 (by decide) (fun c_271 => ?_) (fun c_271 => ?_)
          · refine g_iload hF dL_program_281 rfl ?_
            refine g_iconst (v := (2)) hF dL_program_283 rfl ?_
            refine g_ishr hF dL_program_284 ?_
            refine g_iconst (v := (4)) hF dL_program_285 rfl ?_
            refine g_callSq hF (c_L_below (by decide)) cal_L_below rfl m_810 (by decide) (Or.inl rfl) (by omega) (by omega) [] rfl rfl rfl (Nat.le_of_ble_eq_true rfl) dL_program_286 ?_
            refine g_goto (tgt := 302) hF dL_program_289 (by decide) ?_
            exact tail2 _ _ (allows_c (Or.inl c_271) _)
          · refine g_iload hF dL_program_274 rfl ?_
            refine g_bipush (v := (13)) hF dL_program_276 rfl ?_
            refine g_icmp_ne (tgt := 292) hF dL_program_278 (by decide) (fun c_278 => ?_) (fun c_278 => ?_)
            · refine g_iload hF dL_program_292 rfl ?_
              refine g_iconst (v := (3)) hF dL_program_294 rfl ?_
              refine g_ishr hF dL_program_295 ?_
              refine g_iload_n hF dL_program_296 rfl ?_
              refine g_iconst (v := (1)) hF dL_program_297 rfl ?_
              refine g_iadd hF dL_program_298 ?_
              refine g_callSq hF (c_L_below (by rw [nI_1]; exact nI_ne0 (by omega) (by omega))) cal_L_below rfl m_810 (by decide) (Or.inl rfl) (by omega) (by omega) [] rfl rfl rfl (Nat.le_of_ble_eq_true rfl) dL_program_299 ?_
              exact tail2 _ _ (allows_n hc (fun z => z.elim c_271 c_278) _ (by omega))
            · refine g_iload hF dL_program_281 rfl ?_
              refine g_iconst (v := (2)) hF dL_program_283 rfl ?_
              refine g_ishr hF dL_program_284 ?_
              refine g_iconst (v := (4)) hF dL_program_285 rfl ?_
              refine g_callSq hF (c_L_below (by decide)) cal_L_below rfl m_810 (by decide) (Or.inl rfl) (by omega) (by omega) [] rfl rfl rfl (Nat.le_of_ble_eq_true rfl) dL_program_286 ?_
              refine g_goto (tgt := 302) hF dL_program_289 (by decide) ?_
              exact tail2 _ _ (allows_c (Or.inr c_278) _)
        · refine g_iload hF dL_program_253 rfl ?_
          refine g_iconst (v := (3)) hF dL_program_255 rfl ?_
          refine g_ishr hF dL_program_256 ?_
          refine g_bipush (v := (16)) hF dL_program_257 rfl ?_
          refine g_callSq hF (c_L_below (by decide)) cal_L_below rfl m_810 (by decide) (Or.inl rfl) (by omega) (by omega) [] rfl rfl rfl (Nat.le_of_ble_eq_true rfl) dL_program_259 ?_
          refine g_iconst (v := (2)) hF dL_program_262 rfl ?_
          refine g_isub hF dL_program_263 ?_
          refine g_goto (tgt := 302) hF dL_program_264 (by decide) ?_
          rw [c_250]
          exact tail2 _ _ (allows_0 _)
      refine g_iload hF dL_program_203 rfl ?_
      refine g_iconst (v := (3)) hF dL_program_205 rfl ?_
      refine g_icmp_ge (tgt := 213) hF dL_program_206 (by decide) (fun c_206 => ?_) (fun c_206 => ?_)
      · refine g_iload hF dL_program_213 rfl ?_
        refine g_iload_n hF dL_program_215 rfl ?_
        refine g_iconst (v := (1)) hF dL_program_216 rfl ?_
        refine g_isub hF dL_program_217 ?_
        refine g_icmp_ne (tgt := 235) hF dL_program_218 (by decide) (fun c_218 => ?_) (fun c_218 => ?_)
        · refine g_aload hF dL_program_235 rfl ?_
          refine g_iload hF dL_program_237 rfl ?_
          refine g_aload hF dL_program_239 rfl ?_
          refine g_alen hF rfl 6 0 rfl rfl rfl dL_program_241 ?_
          refine g_callSq hF (c_L_below (by decide)) cal_L_below rfl m_810 (by decide) (Or.inl rfl) (by omega) (by omega) [] rfl rfl rfl (Nat.le_of_ble_eq_true rfl) dL_program_242 ?_
          obtain ⟨j, hj, ej⟩ := bel_ex x (n := 29) (by decide) (by decide)
          rw [show belI x (Int32.ofNat 29) = nI j from ej]
          refine g_iald hF rfl 6 rfl (vp_in_nI hj (by decide)) rfl dL_program_245 ?_
          exact tail _ (by rw [nI_clamp (by omega)]; exact cdF_ok j hj)
        · refine g_iload hF dL_program_221 rfl ?_
          refine g_iconst (v := (3)) hF dL_program_223 rfl ?_
          refine g_callSq hF (c_L_below (by decide)) cal_L_below rfl m_810 (by decide) (Or.inl rfl) (by omega) (by omega) [] rfl rfl rfl (Nat.le_of_ble_eq_true rfl) dL_program_224 ?_
          refine g_if_le (tgt := 235) hF dL_program_227 (by decide) (fun c_227 => ?_) (fun c_227 => ?_)
          · refine g_aload hF dL_program_235 rfl ?_
            refine g_iload hF dL_program_237 rfl ?_
            refine g_aload hF dL_program_239 rfl ?_
            refine g_alen hF rfl 6 0 rfl rfl rfl dL_program_241 ?_
            refine g_callSq hF (c_L_below (by decide)) cal_L_below rfl m_810 (by decide) (Or.inl rfl) (by omega) (by omega) [] rfl rfl rfl (Nat.le_of_ble_eq_true rfl) dL_program_242 ?_
            obtain ⟨j, hj, ej⟩ := bel_ex x (n := 29) (by decide) (by decide)
            rw [show belI x (Int32.ofNat 29) = nI j from ej]
            refine g_iald hF rfl 6 rfl (vp_in_nI hj (by decide)) rfl dL_program_245 ?_
            exact tail _ (by rw [nI_clamp (by omega)]; exact cdF_ok j hj)
          · refine g_bipush (v := (22)) hF dL_program_230 rfl ?_
            refine g_goto (tgt := 246) hF dL_program_232 (by decide) ?_
            exact tail 22 ⟨22, by decide, rfl⟩
      · refine g_iconst (v := (0)) hF dL_program_209 rfl ?_
        refine g_goto (tgt := 246) hF dL_program_210 (by decide) ?_
        exact tail 0 ⟨0, by decide, rfl⟩
  refine g_widen (k' := 2 + 0) (n' := many + 29 + 2 * 0) (by omega) (by omega) ?_
  refine g_regroup (gs' := [lanO h p ri A.1 hp pts pc wts tps reason cause B.1 ti, progO p rc rn rt, rowW F.1.2.2 rc ac 80 fc 0, rowW F.1.2.2 rn an 80 fn 0, rowW F.1.2.2 rt at0 80 ft 0, [(qo, .inl (F.1.2.2 5, many, .inr (.inr (.inr (.inr (adF (fun _ => 0) 0))))))], [(qc, .inl (F.1.2.2 0, 29, .inl cdF))], pairsR F.1.2.2 (fun _ => 0) fc fn 0]) (by rfl) ?_
  exact loop 0 (Nat.zero_le _) fc fn ft (fun _ => 0) (fun j hj => absurd hj (Nat.not_lt_zero j))
