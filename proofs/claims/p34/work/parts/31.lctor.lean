/-! Lantern's constructor -/
section LC1
variable {F : Fix} {cc : ByteArray} {own : String} {dd kM nM k n pc : Nat} {gs : List va_W} {lv : List (Option Value)} {st : List Value}
theorem g_newqA {cy : Nat → ClassId} (hF : Ok F cc own dd kM nM) (hcy : F.1.2.2 = cy) (tk : Nat) {i : Int32} {N idx : Nat} {C : String} (ht : (tyL cy)[tk]? = some (cy tk, .object C)) (hm : Cond.classLink own idx C ∈ bw) (hm2 : Cond.arrayOver (.object C) ∈ bw) (hn : ¬ i < 0) (hN : i.toNatClampNeg = N) (hbytes : N ≤ 134217728) (hk : k + 1 ≤ kM) (hn2 : n + N ≤ nM) (d : decode cc pc = .ok (.anewarray idx, 3)) (kk : ∀ q : Nat, G F (k + 1) (n + N) (gs ++ [[(q, .inl (cy tk, N, .inr (.inr (.inr (.inr (adF (fun _ => 0) 0))))))]]) (pc + 3) lv (.ref q :: st)) : G F k n gs pc lv (.int i :: st) := by
  refine g_newq hF hcy tk ht hm hm2 hn hN hbytes hk hn2 d (fun q => ?_)
  rw [← adF_0 (fun _ => 0)]
  exact kk q
theorem g_aastA {cy : Nat → ClassId} (hF : Ok F cc own dd kM nM) (hcy : F.1.2.2 = cy) (kg tk kv : Nat) {a N v ci : Nat} {r : vw_C} {ad : Nat → Nat} {t tv : va_W} {vs : List Value} {i : Int32} (j : Nat) (hg : gs[kg]? = some ((a, .inl (cy tk, N, .inr (.inr (.inr (.inr (adF ad j)))))) :: t)) (ht : (tyL cy)[tk]? = some (cy tk, .object r.1)) (hv : gs[kv]? = some ((v, .inr (ci, vs)) :: tv)) (hc : vwCl[ci]? = some r) (hin : vp_in i N) (hj : i.toNatClampNeg = j) (d : decode cc pc = .ok (.aastore, 1)) (kk : G F k n (gs.set kg ((a, .inl (cy tk, N, .inr (.inr (.inr (.inr (adF (va_up ad j v) (j + 1))))))) :: t)) (pc + 1) lv st) : G F k n gs pc lv (.ref v :: .int i :: .ref a :: st) := by
  refine g_aast hF hcy kg tk kv j hg ht hv hc hin hj d ?_
  rw [adF_succ]
  exact kk
end LC1
set_option maxHeartbeats 4000000 in
set_option maxRecDepth 100000 in
theorem c_Lan_init {E : Env3} {h : Nat} : Ct E none 3 300 4000 yX8_init cX8_init 2 none [.ref h] [[(h, .inr (8, [.null, .null, .null, .null, .null, .int 0, .null, .int 0, .null, .int 0, .int 0, .null, .null]))]] (fun r g => ∃ (p rc rn rt ri hp pts wts tps ti ac an at0 ai ma rs rj as aj : Nat) (A B : AV) (ad ap tp : Nat → Nat), r = none ∧ g = [lanO h p ri A.1 hp pts 0 wts tps 0 (-1) B.1 ti, progO p rc rn rt, rowW E.2.2 rc ac 80 (fun _ => 0) 0, rowW E.2.2 rn an 80 (fun _ => 0) 0, rowW E.2.2 rt at0 80 (fun _ => 0) 0, rowW E.2.2 ri ai 20 (fun _ => 0) 0, stOv A initS, rw1 E.2.2 A initS, rw2 E.2.2 A initS, rw3 E.2.2 A initS, rw4 E.2.2 A initS, pastO hp ma 0, arrM E.2.2 ma ad, momsW ad (fun _ _ => 0), stOv B initS, rw1 E.2.2 B initS, rw2 E.2.2 B initS, rw3 E.2.2 B initS, rw4 E.2.2 B initS, ptsA E.2.2 pts ap, poO (ap 0) 0 0 false 0 0 0 0, tpsA E.2.2 tps tp, tapeO (tp 1) rs rj false, rowW E.2.2 rs as 200 (fun _ => 0) 0, rowW E.2.2 rj aj 20 (fun _ => 0) 0]) := by
  refine Ct.of [some (.ref h), none] (by decide +kernel) rfl (Nat.le_of_ble_eq_true rfl) (fun F hE hF hR hN => ?_)
  subst hE
  refine g_aload_n hF dX8_init_0 rfl ?_
  refine g_objInit hF m_23 m_24 m_25 (by decide) (Nat.le_of_ble_eq_true rfl) dX8_init_1 ?_
  refine g_aload_n hF dX8_init_4 rfl ?_
  refine g_new (ci := 3) (fs := [.null, .null, .null]) hF rfl tyX3 tyX3_ok m_26 m_27 m_2 (fun j hj => by rcases (show j = 0 ∨ j = 1 ∨ j = 2 by omega) with rfl | rfl | rfl <;> rfl) (Nat.le_of_ble_eq_true rfl) (Nat.le_of_ble_eq_true rfl) dX8_init_5 (fun q1 => ?_)
  refine g_dup hF dX8_init_8 rfl ?_
  refine g_callIN hF (c_Prog_init) cal_X3_init rfl m_28 (by decide) (Or.inl rfl) (Nat.le_of_ble_eq_true rfl) (Nat.le_of_ble_eq_true rfl) [1] rfl rfl rfl (Nat.le_of_ble_eq_true rfl) dX8_init_9 (fun r gs1 hpo => ?_)
  obtain ⟨rc, ac, rn, an, rt, at0, rfl, rfl⟩ := hpo
  refine ⟨Nat.le_of_ble_eq_true rfl, ?_⟩
  try dsimp only [gput, gputA, List.set, stGs, List.cons_append, List.nil_append]
  refine g_putF (j := 0) hF hN 0 rfl rfl (by decide) rfl m_247 rfl (tyX8_ok 0 (by decide)) rfl rfl (Nat.le_of_ble_eq_true rfl) dX8_init_12 ?_
  try dsimp only [gput, gputA, List.set, stGs, List.cons_append, List.nil_append]
  refine g_aload_n hF dX8_init_15 rfl ?_
  refine g_new (ci := 4) (fs := [.null, .int 0]) hF rfl tyX4 tyX4_ok m_59 m_33 m_3 (fun j hj => by rcases (show j = 0 ∨ j = 1 by omega) with rfl | rfl <;> rfl) (Nat.le_of_ble_eq_true rfl) (Nat.le_of_ble_eq_true rfl) dX8_init_16 (fun q2 => ?_)
  refine g_dup hF dX8_init_19 rfl ?_
  refine g_bipush (v := (20)) hF dX8_init_20 rfl ?_
  refine g_callI hF (c_Row_init (cap := 20) (by decide)) cal_X4_init rfl m_60 (by decide) (Or.inl rfl) (Nat.le_of_ble_eq_true rfl) (Nat.le_of_ble_eq_true rfl) [5] rfl rfl rfl (Nat.le_of_ble_eq_true rfl) dX8_init_22 (fun r gs1 hpo => ?_)
  obtain ⟨a1, rfl, rfl⟩ := hpo
  refine ⟨Nat.le_refl _, ?_⟩
  refine g_putF (j := 1) hF hN 0 rfl rfl (by decide) rfl m_248 rfl (tyX8_ok 1 (by decide)) rfl rfl (Nat.le_of_ble_eq_true rfl) dX8_init_25 ?_
  try dsimp only [gput, gputA, List.set, stGs, List.cons_append, List.nil_append]
  refine g_aload_n hF dX8_init_28 rfl ?_
  refine g_new (ci := 5) (fs := [.null, .null, .null, .null, .int 0, .int 0, .int 0, .int 0]) hF rfl tyX5 tyX5_ok m_61 m_62 m_5 (fun j hj => by rcases (show j = 0 ∨ j = 1 ∨ j = 2 ∨ j = 3 ∨ j = 4 ∨ j = 5 ∨ j = 6 ∨ j = 7 by omega) with rfl | rfl | rfl | rfl | rfl | rfl | rfl | rfl <;> rfl) (Nat.le_of_ble_eq_true rfl) (Nat.le_of_ble_eq_true rfl) dX8_init_29 (fun q3 => ?_)
  refine g_dup hF dX8_init_32 rfl ?_
  refine g_callI hF (c_S_init) cal_X5_init rfl m_63 (by decide) (Or.inl rfl) (Nat.le_of_ble_eq_true rfl) (Nat.le_of_ble_eq_true rfl) [6] rfl rfl rfl (Nat.le_of_ble_eq_true rfl) dX8_init_33 (fun r gs1 hpo => ?_)
  obtain ⟨A, rfl, rfl, rfl⟩ := hpo
  refine ⟨Nat.le_of_ble_eq_true rfl, ?_⟩
  try dsimp only [gput, gputA, List.set, stGs, List.cons_append, List.nil_append]
  refine g_putF (j := 2) hF hN 0 rfl rfl (by decide) rfl m_249 rfl (tyX8_ok 2 (by decide)) rfl rfl (Nat.le_of_ble_eq_true rfl) dX8_init_36 ?_
  try dsimp only [gput, gputA, List.set, stGs, List.cons_append, List.nil_append]
  refine g_aload_n hF dX8_init_39 rfl ?_
  refine g_new (ci := 1) (fs := [.null, .int 0, .int 0]) hF rfl tyX1 tyX1_ok m_109 m_110 m_6 (fun j hj => by rcases (show j = 0 ∨ j = 1 ∨ j = 2 by omega) with rfl | rfl | rfl <;> rfl) (Nat.le_of_ble_eq_true rfl) (Nat.le_of_ble_eq_true rfl) dX8_init_40 (fun q4 => ?_)
  refine g_dup hF dX8_init_43 rfl ?_
  refine g_callI hF (c_Past_init) cal_X1_init rfl m_111 (by decide) (Or.inl rfl) (Nat.le_of_ble_eq_true rfl) (Nat.le_of_ble_eq_true rfl) [11] rfl rfl rfl (Nat.le_of_ble_eq_true rfl) dX8_init_44 (fun r gs1 hpo => ?_)
  obtain ⟨ma, ad, rfl, rfl⟩ := hpo
  refine ⟨Nat.le_of_ble_eq_true rfl, ?_⟩
  try dsimp only [gput, gputA, List.set, stGs, List.cons_append, List.nil_append]
  refine g_putF (j := 3) hF hN 0 rfl rfl (by decide) rfl m_250 rfl (tyX8_ok 3 (by decide)) rfl rfl (Nat.le_of_ble_eq_true rfl) dX8_init_47 ?_
  try dsimp only [gput, gputA, List.set, stGs, List.cons_append, List.nil_append]
  refine g_aload_n hF dX8_init_50 rfl ?_
  refine g_bipush (v := (6)) hF dX8_init_51 rfl ?_
  refine g_newqA (N := 6) hF rfl 2 rfl m_177 m_178 (by decide) rfl (by decide) (Nat.le_of_ble_eq_true rfl) (Nat.le_of_ble_eq_true rfl) dX8_init_53 (fun r1 => ?_)
  try dsimp only [gput, gputA, List.set, stGs, List.cons_append, List.nil_append]
  refine g_putF (j := 4) hF hN 0 rfl rfl (by decide) rfl m_251 rfl (tyX8_ok 4 (by decide)) rfl rfl (Nat.le_of_ble_eq_true rfl) dX8_init_56 ?_
  try dsimp only [gput, gputA, List.set, stGs, List.cons_append, List.nil_append]
  refine g_iconst (v := (0)) hF dX8_init_59 rfl ?_
  refine g_istore_n hF dX8_init_60 (Nat.le_of_ble_eq_true rfl) rfl ?_
  refine g_iload_n hF dX8_init_61 rfl ?_
  refine g_aload_n hF dX8_init_62 rfl ?_
  refine g_get (j := 4) hF 0 rfl rfl (by decide) rfl m_251 rfl dX8_init_63 ?_
  refine g_alen hF rfl 14 2 rfl rfl rfl dX8_init_66 ?_
  refine g_icmp_ge (tgt := 89) hF dX8_init_67 (by decide) (fun c_67 => absurd c_67 (show ¬ ((6) : Int32) ≤ 0 by decide)) (fun c_67 => ?_)
  refine g_aload_n hF dX8_init_70 rfl ?_
  refine g_get (j := 4) hF 0 rfl rfl (by decide) rfl m_251 rfl dX8_init_71 ?_
  refine g_iload_n hF dX8_init_74 rfl ?_
  refine g_new (ci := 2) (fs := [.int 0, .int 0, .int 0, .int 0, .int 0, .int 0, .int 0]) hF rfl tyX2 tyX2_ok m_177 m_179 m_8 (fun j hj => by rcases (show j = 0 ∨ j = 1 ∨ j = 2 ∨ j = 3 ∨ j = 4 ∨ j = 5 ∨ j = 6 by omega) with rfl | rfl | rfl | rfl | rfl | rfl | rfl <;> rfl) (Nat.le_of_ble_eq_true rfl) (Nat.le_of_ble_eq_true rfl) dX8_init_75 (fun q5 => ?_)
  refine g_dup hF dX8_init_78 rfl ?_
  refine g_callIN hF (c_Point_init (on := false)) cal_X2_init rfl m_180 (by decide) (Or.inl rfl) (Nat.le_of_ble_eq_true rfl) (Nat.le_of_ble_eq_true rfl) [15] rfl rfl rfl (Nat.le_of_ble_eq_true rfl) dX8_init_79 (fun r gs1 hpo => ?_)
  obtain ⟨rfl, rfl⟩ := hpo
  refine ⟨Nat.le_refl _, ?_⟩
  try dsimp only [gput, gputA, List.set, stGs, List.cons_append, List.nil_append]
  refine g_aastA hF rfl 14 2 15 0 rfl rfl rfl rfl (show vp_in (nI 0) 6 from vp_in_nI (by decide) (by decide)) rfl dX8_init_82 ?_
  try dsimp only [gput, gputA, List.set, stGs, List.cons_append, List.nil_append]
  refine g_iinc (v := (1)) hF dX8_init_83 rfl rfl rfl ?_
  refine g_goto (tgt := 61) hF dX8_init_86 (by decide) ?_
  refine g_iload_n hF dX8_init_61 rfl ?_
  refine g_aload_n hF dX8_init_62 rfl ?_
  refine g_get (j := 4) hF 0 rfl rfl (by decide) rfl m_251 rfl dX8_init_63 ?_
  refine g_alen hF rfl 14 2 rfl rfl rfl dX8_init_66 ?_
  refine g_icmp_ge (tgt := 89) hF dX8_init_67 (by decide) (fun c_67 => absurd c_67 (show ¬ ((6) : Int32) ≤ 1 by decide)) (fun c_67 => ?_)
  refine g_aload_n hF dX8_init_70 rfl ?_
  refine g_get (j := 4) hF 0 rfl rfl (by decide) rfl m_251 rfl dX8_init_71 ?_
  refine g_iload_n hF dX8_init_74 rfl ?_
  refine g_new (ci := 2) (fs := [.int 0, .int 0, .int 0, .int 0, .int 0, .int 0, .int 0]) hF rfl tyX2 tyX2_ok m_177 m_179 m_8 (fun j hj => by rcases (show j = 0 ∨ j = 1 ∨ j = 2 ∨ j = 3 ∨ j = 4 ∨ j = 5 ∨ j = 6 by omega) with rfl | rfl | rfl | rfl | rfl | rfl | rfl <;> rfl) (Nat.le_of_ble_eq_true rfl) (Nat.le_of_ble_eq_true rfl) dX8_init_75 (fun q6 => ?_)
  refine g_dup hF dX8_init_78 rfl ?_
  refine g_callIN hF (c_Point_init (on := false)) cal_X2_init rfl m_180 (by decide) (Or.inl rfl) (Nat.le_of_ble_eq_true rfl) (Nat.le_of_ble_eq_true rfl) [16] rfl rfl rfl (Nat.le_of_ble_eq_true rfl) dX8_init_79 (fun r gs1 hpo => ?_)
  obtain ⟨rfl, rfl⟩ := hpo
  refine ⟨Nat.le_refl _, ?_⟩
  try dsimp only [gput, gputA, List.set, stGs, List.cons_append, List.nil_append]
  refine g_aastA hF rfl 14 2 16 1 rfl rfl rfl rfl (show vp_in (nI 1) 6 from vp_in_nI (by decide) (by decide)) rfl dX8_init_82 ?_
  try dsimp only [gput, gputA, List.set, stGs, List.cons_append, List.nil_append]
  refine g_iinc (v := (2)) hF dX8_init_83 rfl rfl rfl ?_
  refine g_goto (tgt := 61) hF dX8_init_86 (by decide) ?_
  refine g_iload_n hF dX8_init_61 rfl ?_
  refine g_aload_n hF dX8_init_62 rfl ?_
  refine g_get (j := 4) hF 0 rfl rfl (by decide) rfl m_251 rfl dX8_init_63 ?_
  refine g_alen hF rfl 14 2 rfl rfl rfl dX8_init_66 ?_
  refine g_icmp_ge (tgt := 89) hF dX8_init_67 (by decide) (fun c_67 => absurd c_67 (show ¬ ((6) : Int32) ≤ 2 by decide)) (fun c_67 => ?_)
  refine g_aload_n hF dX8_init_70 rfl ?_
  refine g_get (j := 4) hF 0 rfl rfl (by decide) rfl m_251 rfl dX8_init_71 ?_
  refine g_iload_n hF dX8_init_74 rfl ?_
  refine g_new (ci := 2) (fs := [.int 0, .int 0, .int 0, .int 0, .int 0, .int 0, .int 0]) hF rfl tyX2 tyX2_ok m_177 m_179 m_8 (fun j hj => by rcases (show j = 0 ∨ j = 1 ∨ j = 2 ∨ j = 3 ∨ j = 4 ∨ j = 5 ∨ j = 6 by omega) with rfl | rfl | rfl | rfl | rfl | rfl | rfl <;> rfl) (Nat.le_of_ble_eq_true rfl) (Nat.le_of_ble_eq_true rfl) dX8_init_75 (fun q7 => ?_)
  refine g_dup hF dX8_init_78 rfl ?_
  refine g_callIN hF (c_Point_init (on := false)) cal_X2_init rfl m_180 (by decide) (Or.inl rfl) (Nat.le_of_ble_eq_true rfl) (Nat.le_of_ble_eq_true rfl) [17] rfl rfl rfl (Nat.le_of_ble_eq_true rfl) dX8_init_79 (fun r gs1 hpo => ?_)
  obtain ⟨rfl, rfl⟩ := hpo
  refine ⟨Nat.le_refl _, ?_⟩
  try dsimp only [gput, gputA, List.set, stGs, List.cons_append, List.nil_append]
  refine g_aastA hF rfl 14 2 17 2 rfl rfl rfl rfl (show vp_in (nI 2) 6 from vp_in_nI (by decide) (by decide)) rfl dX8_init_82 ?_
  try dsimp only [gput, gputA, List.set, stGs, List.cons_append, List.nil_append]
  refine g_iinc (v := (3)) hF dX8_init_83 rfl rfl rfl ?_
  refine g_goto (tgt := 61) hF dX8_init_86 (by decide) ?_
  refine g_iload_n hF dX8_init_61 rfl ?_
  refine g_aload_n hF dX8_init_62 rfl ?_
  refine g_get (j := 4) hF 0 rfl rfl (by decide) rfl m_251 rfl dX8_init_63 ?_
  refine g_alen hF rfl 14 2 rfl rfl rfl dX8_init_66 ?_
  refine g_icmp_ge (tgt := 89) hF dX8_init_67 (by decide) (fun c_67 => absurd c_67 (show ¬ ((6) : Int32) ≤ 3 by decide)) (fun c_67 => ?_)
  refine g_aload_n hF dX8_init_70 rfl ?_
  refine g_get (j := 4) hF 0 rfl rfl (by decide) rfl m_251 rfl dX8_init_71 ?_
  refine g_iload_n hF dX8_init_74 rfl ?_
  refine g_new (ci := 2) (fs := [.int 0, .int 0, .int 0, .int 0, .int 0, .int 0, .int 0]) hF rfl tyX2 tyX2_ok m_177 m_179 m_8 (fun j hj => by rcases (show j = 0 ∨ j = 1 ∨ j = 2 ∨ j = 3 ∨ j = 4 ∨ j = 5 ∨ j = 6 by omega) with rfl | rfl | rfl | rfl | rfl | rfl | rfl <;> rfl) (Nat.le_of_ble_eq_true rfl) (Nat.le_of_ble_eq_true rfl) dX8_init_75 (fun q8 => ?_)
  refine g_dup hF dX8_init_78 rfl ?_
  refine g_callIN hF (c_Point_init (on := false)) cal_X2_init rfl m_180 (by decide) (Or.inl rfl) (Nat.le_of_ble_eq_true rfl) (Nat.le_of_ble_eq_true rfl) [18] rfl rfl rfl (Nat.le_of_ble_eq_true rfl) dX8_init_79 (fun r gs1 hpo => ?_)
  obtain ⟨rfl, rfl⟩ := hpo
  refine ⟨Nat.le_refl _, ?_⟩
  try dsimp only [gput, gputA, List.set, stGs, List.cons_append, List.nil_append]
  refine g_aastA hF rfl 14 2 18 3 rfl rfl rfl rfl (show vp_in (nI 3) 6 from vp_in_nI (by decide) (by decide)) rfl dX8_init_82 ?_
  try dsimp only [gput, gputA, List.set, stGs, List.cons_append, List.nil_append]
  refine g_iinc (v := (4)) hF dX8_init_83 rfl rfl rfl ?_
  refine g_goto (tgt := 61) hF dX8_init_86 (by decide) ?_
  refine g_iload_n hF dX8_init_61 rfl ?_
  refine g_aload_n hF dX8_init_62 rfl ?_
  refine g_get (j := 4) hF 0 rfl rfl (by decide) rfl m_251 rfl dX8_init_63 ?_
  refine g_alen hF rfl 14 2 rfl rfl rfl dX8_init_66 ?_
  refine g_icmp_ge (tgt := 89) hF dX8_init_67 (by decide) (fun c_67 => absurd c_67 (show ¬ ((6) : Int32) ≤ 4 by decide)) (fun c_67 => ?_)
  refine g_aload_n hF dX8_init_70 rfl ?_
  refine g_get (j := 4) hF 0 rfl rfl (by decide) rfl m_251 rfl dX8_init_71 ?_
  refine g_iload_n hF dX8_init_74 rfl ?_
  refine g_new (ci := 2) (fs := [.int 0, .int 0, .int 0, .int 0, .int 0, .int 0, .int 0]) hF rfl tyX2 tyX2_ok m_177 m_179 m_8 (fun j hj => by rcases (show j = 0 ∨ j = 1 ∨ j = 2 ∨ j = 3 ∨ j = 4 ∨ j = 5 ∨ j = 6 by omega) with rfl | rfl | rfl | rfl | rfl | rfl | rfl <;> rfl) (Nat.le_of_ble_eq_true rfl) (Nat.le_of_ble_eq_true rfl) dX8_init_75 (fun q9 => ?_)
  refine g_dup hF dX8_init_78 rfl ?_
  refine g_callIN hF (c_Point_init (on := false)) cal_X2_init rfl m_180 (by decide) (Or.inl rfl) (Nat.le_of_ble_eq_true rfl) (Nat.le_of_ble_eq_true rfl) [19] rfl rfl rfl (Nat.le_of_ble_eq_true rfl) dX8_init_79 (fun r gs1 hpo => ?_)
  obtain ⟨rfl, rfl⟩ := hpo
  refine ⟨Nat.le_refl _, ?_⟩
  try dsimp only [gput, gputA, List.set, stGs, List.cons_append, List.nil_append]
  refine g_aastA hF rfl 14 2 19 4 rfl rfl rfl rfl (show vp_in (nI 4) 6 from vp_in_nI (by decide) (by decide)) rfl dX8_init_82 ?_
  try dsimp only [gput, gputA, List.set, stGs, List.cons_append, List.nil_append]
  refine g_iinc (v := (5)) hF dX8_init_83 rfl rfl rfl ?_
  refine g_goto (tgt := 61) hF dX8_init_86 (by decide) ?_
  refine g_iload_n hF dX8_init_61 rfl ?_
  refine g_aload_n hF dX8_init_62 rfl ?_
  refine g_get (j := 4) hF 0 rfl rfl (by decide) rfl m_251 rfl dX8_init_63 ?_
  refine g_alen hF rfl 14 2 rfl rfl rfl dX8_init_66 ?_
  refine g_icmp_ge (tgt := 89) hF dX8_init_67 (by decide) (fun c_67 => absurd c_67 (show ¬ ((6) : Int32) ≤ 5 by decide)) (fun c_67 => ?_)
  refine g_aload_n hF dX8_init_70 rfl ?_
  refine g_get (j := 4) hF 0 rfl rfl (by decide) rfl m_251 rfl dX8_init_71 ?_
  refine g_iload_n hF dX8_init_74 rfl ?_
  refine g_new (ci := 2) (fs := [.int 0, .int 0, .int 0, .int 0, .int 0, .int 0, .int 0]) hF rfl tyX2 tyX2_ok m_177 m_179 m_8 (fun j hj => by rcases (show j = 0 ∨ j = 1 ∨ j = 2 ∨ j = 3 ∨ j = 4 ∨ j = 5 ∨ j = 6 by omega) with rfl | rfl | rfl | rfl | rfl | rfl | rfl <;> rfl) (Nat.le_of_ble_eq_true rfl) (Nat.le_of_ble_eq_true rfl) dX8_init_75 (fun q10 => ?_)
  refine g_dup hF dX8_init_78 rfl ?_
  refine g_callIN hF (c_Point_init (on := false)) cal_X2_init rfl m_180 (by decide) (Or.inl rfl) (Nat.le_of_ble_eq_true rfl) (Nat.le_of_ble_eq_true rfl) [20] rfl rfl rfl (Nat.le_of_ble_eq_true rfl) dX8_init_79 (fun r gs1 hpo => ?_)
  obtain ⟨rfl, rfl⟩ := hpo
  refine ⟨Nat.le_refl _, ?_⟩
  try dsimp only [gput, gputA, List.set, stGs, List.cons_append, List.nil_append]
  refine g_aastA hF rfl 14 2 20 5 rfl rfl rfl rfl (show vp_in (nI 5) 6 from vp_in_nI (by decide) (by decide)) rfl dX8_init_82 ?_
  try dsimp only [gput, gputA, List.set, stGs, List.cons_append, List.nil_append]
  refine g_iinc (v := (6)) hF dX8_init_83 rfl rfl rfl ?_
  refine g_goto (tgt := 61) hF dX8_init_86 (by decide) ?_
  refine g_iload_n hF dX8_init_61 rfl ?_
  refine g_aload_n hF dX8_init_62 rfl ?_
  refine g_get (j := 4) hF 0 rfl rfl (by decide) rfl m_251 rfl dX8_init_63 ?_
  refine g_alen hF rfl 14 2 rfl rfl rfl dX8_init_66 ?_
  refine g_icmp_ge (tgt := 89) hF dX8_init_67 (by decide) (fun c_67 => ?_) (fun c_67 => absurd (show ((6) : Int32) ≤ 6 by decide) c_67)
  refine g_aload_n hF dX8_init_89 rfl ?_
  refine g_iconst (v := (4)) hF dX8_init_90 rfl ?_
  refine g_newqA (N := 4) hF rfl 3 rfl m_209 m_210 (by decide) rfl (by decide) (Nat.le_of_ble_eq_true rfl) (Nat.le_of_ble_eq_true rfl) dX8_init_91 (fun r2 => ?_)
  try dsimp only [gput, gputA, List.set, stGs, List.cons_append, List.nil_append]
  refine g_putF (j := 6) hF hN 0 rfl rfl (by decide) rfl m_253 rfl (tyX8_ok 6 (by decide)) rfl rfl (Nat.le_of_ble_eq_true rfl) dX8_init_94 ?_
  try dsimp only [gput, gputA, List.set, stGs, List.cons_append, List.nil_append]
  refine g_iconst (v := (0)) hF dX8_init_97 rfl ?_
  refine g_istore_n hF dX8_init_98 (Nat.le_of_ble_eq_true rfl) rfl ?_
  refine g_iload_n hF dX8_init_99 rfl ?_
  refine g_aload_n hF dX8_init_100 rfl ?_
  refine g_get (j := 6) hF 0 rfl rfl (by decide) rfl m_253 rfl dX8_init_101 ?_
  refine g_alen hF rfl 21 3 rfl rfl rfl dX8_init_104 ?_
  refine g_icmp_ge (tgt := 127) hF dX8_init_105 (by decide) (fun c_105 => absurd c_105 (show ¬ ((4) : Int32) ≤ 0 by decide)) (fun c_105 => ?_)
  refine g_aload_n hF dX8_init_108 rfl ?_
  refine g_get (j := 6) hF 0 rfl rfl (by decide) rfl m_253 rfl dX8_init_109 ?_
  refine g_iload_n hF dX8_init_112 rfl ?_
  refine g_new (ci := 7) (fs := [.int 0, .int 0, .int 0]) hF rfl tyX7 tyX7_ok m_209 m_211 m_9 (fun j hj => by rcases (show j = 0 ∨ j = 1 ∨ j = 2 by omega) with rfl | rfl | rfl <;> rfl) (Nat.le_of_ble_eq_true rfl) (Nat.le_of_ble_eq_true rfl) dX8_init_113 (fun q11 => ?_)
  refine g_dup hF dX8_init_116 rfl ?_
  refine g_callIN hF (c_Watch_init) cal_X7_init rfl m_212 (by decide) (Or.inl rfl) (Nat.le_of_ble_eq_true rfl) (Nat.le_of_ble_eq_true rfl) [22] rfl rfl rfl (Nat.le_of_ble_eq_true rfl) dX8_init_117 (fun r gs1 hpo => ?_)
  obtain ⟨rfl, rfl⟩ := hpo
  refine ⟨Nat.le_refl _, ?_⟩
  try dsimp only [gput, gputA, List.set, stGs, List.cons_append, List.nil_append]
  refine g_aastA hF rfl 21 3 22 0 rfl rfl rfl rfl (show vp_in (nI 0) 4 from vp_in_nI (by decide) (by decide)) rfl dX8_init_120 ?_
  try dsimp only [gput, gputA, List.set, stGs, List.cons_append, List.nil_append]
  refine g_iinc (v := (1)) hF dX8_init_121 rfl rfl rfl ?_
  refine g_goto (tgt := 99) hF dX8_init_124 (by decide) ?_
  refine g_iload_n hF dX8_init_99 rfl ?_
  refine g_aload_n hF dX8_init_100 rfl ?_
  refine g_get (j := 6) hF 0 rfl rfl (by decide) rfl m_253 rfl dX8_init_101 ?_
  refine g_alen hF rfl 21 3 rfl rfl rfl dX8_init_104 ?_
  refine g_icmp_ge (tgt := 127) hF dX8_init_105 (by decide) (fun c_105 => absurd c_105 (show ¬ ((4) : Int32) ≤ 1 by decide)) (fun c_105 => ?_)
  refine g_aload_n hF dX8_init_108 rfl ?_
  refine g_get (j := 6) hF 0 rfl rfl (by decide) rfl m_253 rfl dX8_init_109 ?_
  refine g_iload_n hF dX8_init_112 rfl ?_
  refine g_new (ci := 7) (fs := [.int 0, .int 0, .int 0]) hF rfl tyX7 tyX7_ok m_209 m_211 m_9 (fun j hj => by rcases (show j = 0 ∨ j = 1 ∨ j = 2 by omega) with rfl | rfl | rfl <;> rfl) (Nat.le_of_ble_eq_true rfl) (Nat.le_of_ble_eq_true rfl) dX8_init_113 (fun q12 => ?_)
  refine g_dup hF dX8_init_116 rfl ?_
  refine g_callIN hF (c_Watch_init) cal_X7_init rfl m_212 (by decide) (Or.inl rfl) (Nat.le_of_ble_eq_true rfl) (Nat.le_of_ble_eq_true rfl) [23] rfl rfl rfl (Nat.le_of_ble_eq_true rfl) dX8_init_117 (fun r gs1 hpo => ?_)
  obtain ⟨rfl, rfl⟩ := hpo
  refine ⟨Nat.le_refl _, ?_⟩
  try dsimp only [gput, gputA, List.set, stGs, List.cons_append, List.nil_append]
  refine g_aastA hF rfl 21 3 23 1 rfl rfl rfl rfl (show vp_in (nI 1) 4 from vp_in_nI (by decide) (by decide)) rfl dX8_init_120 ?_
  try dsimp only [gput, gputA, List.set, stGs, List.cons_append, List.nil_append]
  refine g_iinc (v := (2)) hF dX8_init_121 rfl rfl rfl ?_
  refine g_goto (tgt := 99) hF dX8_init_124 (by decide) ?_
  refine g_iload_n hF dX8_init_99 rfl ?_
  refine g_aload_n hF dX8_init_100 rfl ?_
  refine g_get (j := 6) hF 0 rfl rfl (by decide) rfl m_253 rfl dX8_init_101 ?_
  refine g_alen hF rfl 21 3 rfl rfl rfl dX8_init_104 ?_
  refine g_icmp_ge (tgt := 127) hF dX8_init_105 (by decide) (fun c_105 => absurd c_105 (show ¬ ((4) : Int32) ≤ 2 by decide)) (fun c_105 => ?_)
  refine g_aload_n hF dX8_init_108 rfl ?_
  refine g_get (j := 6) hF 0 rfl rfl (by decide) rfl m_253 rfl dX8_init_109 ?_
  refine g_iload_n hF dX8_init_112 rfl ?_
  refine g_new (ci := 7) (fs := [.int 0, .int 0, .int 0]) hF rfl tyX7 tyX7_ok m_209 m_211 m_9 (fun j hj => by rcases (show j = 0 ∨ j = 1 ∨ j = 2 by omega) with rfl | rfl | rfl <;> rfl) (Nat.le_of_ble_eq_true rfl) (Nat.le_of_ble_eq_true rfl) dX8_init_113 (fun q13 => ?_)
  refine g_dup hF dX8_init_116 rfl ?_
  refine g_callIN hF (c_Watch_init) cal_X7_init rfl m_212 (by decide) (Or.inl rfl) (Nat.le_of_ble_eq_true rfl) (Nat.le_of_ble_eq_true rfl) [24] rfl rfl rfl (Nat.le_of_ble_eq_true rfl) dX8_init_117 (fun r gs1 hpo => ?_)
  obtain ⟨rfl, rfl⟩ := hpo
  refine ⟨Nat.le_refl _, ?_⟩
  try dsimp only [gput, gputA, List.set, stGs, List.cons_append, List.nil_append]
  refine g_aastA hF rfl 21 3 24 2 rfl rfl rfl rfl (show vp_in (nI 2) 4 from vp_in_nI (by decide) (by decide)) rfl dX8_init_120 ?_
  try dsimp only [gput, gputA, List.set, stGs, List.cons_append, List.nil_append]
  refine g_iinc (v := (3)) hF dX8_init_121 rfl rfl rfl ?_
  refine g_goto (tgt := 99) hF dX8_init_124 (by decide) ?_
  refine g_iload_n hF dX8_init_99 rfl ?_
  refine g_aload_n hF dX8_init_100 rfl ?_
  refine g_get (j := 6) hF 0 rfl rfl (by decide) rfl m_253 rfl dX8_init_101 ?_
  refine g_alen hF rfl 21 3 rfl rfl rfl dX8_init_104 ?_
  refine g_icmp_ge (tgt := 127) hF dX8_init_105 (by decide) (fun c_105 => absurd c_105 (show ¬ ((4) : Int32) ≤ 3 by decide)) (fun c_105 => ?_)
  refine g_aload_n hF dX8_init_108 rfl ?_
  refine g_get (j := 6) hF 0 rfl rfl (by decide) rfl m_253 rfl dX8_init_109 ?_
  refine g_iload_n hF dX8_init_112 rfl ?_
  refine g_new (ci := 7) (fs := [.int 0, .int 0, .int 0]) hF rfl tyX7 tyX7_ok m_209 m_211 m_9 (fun j hj => by rcases (show j = 0 ∨ j = 1 ∨ j = 2 by omega) with rfl | rfl | rfl <;> rfl) (Nat.le_of_ble_eq_true rfl) (Nat.le_of_ble_eq_true rfl) dX8_init_113 (fun q14 => ?_)
  refine g_dup hF dX8_init_116 rfl ?_
  refine g_callIN hF (c_Watch_init) cal_X7_init rfl m_212 (by decide) (Or.inl rfl) (Nat.le_of_ble_eq_true rfl) (Nat.le_of_ble_eq_true rfl) [25] rfl rfl rfl (Nat.le_of_ble_eq_true rfl) dX8_init_117 (fun r gs1 hpo => ?_)
  obtain ⟨rfl, rfl⟩ := hpo
  refine ⟨Nat.le_refl _, ?_⟩
  try dsimp only [gput, gputA, List.set, stGs, List.cons_append, List.nil_append]
  refine g_aastA hF rfl 21 3 25 3 rfl rfl rfl rfl (show vp_in (nI 3) 4 from vp_in_nI (by decide) (by decide)) rfl dX8_init_120 ?_
  try dsimp only [gput, gputA, List.set, stGs, List.cons_append, List.nil_append]
  refine g_iinc (v := (4)) hF dX8_init_121 rfl rfl rfl ?_
  refine g_goto (tgt := 99) hF dX8_init_124 (by decide) ?_
  refine g_iload_n hF dX8_init_99 rfl ?_
  refine g_aload_n hF dX8_init_100 rfl ?_
  refine g_get (j := 6) hF 0 rfl rfl (by decide) rfl m_253 rfl dX8_init_101 ?_
  refine g_alen hF rfl 21 3 rfl rfl rfl dX8_init_104 ?_
  refine g_icmp_ge (tgt := 127) hF dX8_init_105 (by decide) (fun c_105 => ?_) (fun c_105 => absurd (show ((4) : Int32) ≤ 4 by decide) c_105)
  refine g_aload_n hF dX8_init_127 rfl ?_
  refine g_iconst (v := (3)) hF dX8_init_128 rfl ?_
  refine g_newqA (N := 3) hF rfl 4 rfl m_226 m_227 (by decide) rfl (by decide) (Nat.le_of_ble_eq_true rfl) (Nat.le_of_ble_eq_true rfl) dX8_init_129 (fun r3 => ?_)
  try dsimp only [gput, gputA, List.set, stGs, List.cons_append, List.nil_append]
  refine g_putF (j := 8) hF hN 0 rfl rfl (by decide) rfl m_255 rfl (tyX8_ok 8 (by decide)) rfl rfl (Nat.le_of_ble_eq_true rfl) dX8_init_132 ?_
  try dsimp only [gput, gputA, List.set, stGs, List.cons_append, List.nil_append]
  refine g_iconst (v := (0)) hF dX8_init_135 rfl ?_
  refine g_istore_n hF dX8_init_136 (Nat.le_of_ble_eq_true rfl) rfl ?_
  refine g_iload_n hF dX8_init_137 rfl ?_
  refine g_aload_n hF dX8_init_138 rfl ?_
  refine g_get (j := 8) hF 0 rfl rfl (by decide) rfl m_255 rfl dX8_init_139 ?_
  refine g_alen hF rfl 26 4 rfl rfl rfl dX8_init_142 ?_
  refine g_icmp_ge (tgt := 165) hF dX8_init_143 (by decide) (fun c_143 => absurd c_143 (show ¬ ((3) : Int32) ≤ 0 by decide)) (fun c_143 => ?_)
  refine g_aload_n hF dX8_init_146 rfl ?_
  refine g_get (j := 8) hF 0 rfl rfl (by decide) rfl m_255 rfl dX8_init_147 ?_
  refine g_iload_n hF dX8_init_150 rfl ?_
  refine g_new (ci := 6) (fs := [.null, .null, .int 0]) hF rfl tyX6 tyX6_ok m_226 m_228 m_10 (fun j hj => by rcases (show j = 0 ∨ j = 1 ∨ j = 2 by omega) with rfl | rfl | rfl <;> rfl) (Nat.le_of_ble_eq_true rfl) (Nat.le_of_ble_eq_true rfl) dX8_init_151 (fun q15 => ?_)
  refine g_dup hF dX8_init_154 rfl ?_
  refine g_callIN hF (c_Tape_init) cal_X6_init rfl m_229 (by decide) (Or.inl rfl) (Nat.le_of_ble_eq_true rfl) (Nat.le_of_ble_eq_true rfl) [27] rfl rfl rfl (Nat.le_of_ble_eq_true rfl) dX8_init_155 (fun r gs1 hpo => ?_)
  obtain ⟨rs0, as0, rj0, aj0, rfl, rfl⟩ := hpo
  refine ⟨Nat.le_of_ble_eq_true rfl, ?_⟩
  try dsimp only [gput, gputA, List.set, stGs, List.cons_append, List.nil_append]
  refine g_aastA hF rfl 26 4 27 0 rfl rfl rfl rfl (show vp_in (nI 0) 3 from vp_in_nI (by decide) (by decide)) rfl dX8_init_158 ?_
  try dsimp only [gput, gputA, List.set, stGs, List.cons_append, List.nil_append]
  refine g_iinc (v := (1)) hF dX8_init_159 rfl rfl rfl ?_
  refine g_goto (tgt := 137) hF dX8_init_162 (by decide) ?_
  refine g_iload_n hF dX8_init_137 rfl ?_
  refine g_aload_n hF dX8_init_138 rfl ?_
  refine g_get (j := 8) hF 0 rfl rfl (by decide) rfl m_255 rfl dX8_init_139 ?_
  refine g_alen hF rfl 26 4 rfl rfl rfl dX8_init_142 ?_
  refine g_icmp_ge (tgt := 165) hF dX8_init_143 (by decide) (fun c_143 => absurd c_143 (show ¬ ((3) : Int32) ≤ 1 by decide)) (fun c_143 => ?_)
  refine g_aload_n hF dX8_init_146 rfl ?_
  refine g_get (j := 8) hF 0 rfl rfl (by decide) rfl m_255 rfl dX8_init_147 ?_
  refine g_iload_n hF dX8_init_150 rfl ?_
  refine g_new (ci := 6) (fs := [.null, .null, .int 0]) hF rfl tyX6 tyX6_ok m_226 m_228 m_10 (fun j hj => by rcases (show j = 0 ∨ j = 1 ∨ j = 2 by omega) with rfl | rfl | rfl <;> rfl) (Nat.le_of_ble_eq_true rfl) (Nat.le_of_ble_eq_true rfl) dX8_init_151 (fun q16 => ?_)
  refine g_dup hF dX8_init_154 rfl ?_
  refine g_callIN hF (c_Tape_init) cal_X6_init rfl m_229 (by decide) (Or.inl rfl) (Nat.le_of_ble_eq_true rfl) (Nat.le_of_ble_eq_true rfl) [30] rfl rfl rfl (Nat.le_of_ble_eq_true rfl) dX8_init_155 (fun r gs1 hpo => ?_)
  obtain ⟨rs1, as1, rj1, aj1, rfl, rfl⟩ := hpo
  refine ⟨Nat.le_of_ble_eq_true rfl, ?_⟩
  try dsimp only [gput, gputA, List.set, stGs, List.cons_append, List.nil_append]
  refine g_aastA hF rfl 26 4 30 1 rfl rfl rfl rfl (show vp_in (nI 1) 3 from vp_in_nI (by decide) (by decide)) rfl dX8_init_158 ?_
  try dsimp only [gput, gputA, List.set, stGs, List.cons_append, List.nil_append]
  refine g_iinc (v := (2)) hF dX8_init_159 rfl rfl rfl ?_
  refine g_goto (tgt := 137) hF dX8_init_162 (by decide) ?_
  refine g_iload_n hF dX8_init_137 rfl ?_
  refine g_aload_n hF dX8_init_138 rfl ?_
  refine g_get (j := 8) hF 0 rfl rfl (by decide) rfl m_255 rfl dX8_init_139 ?_
  refine g_alen hF rfl 26 4 rfl rfl rfl dX8_init_142 ?_
  refine g_icmp_ge (tgt := 165) hF dX8_init_143 (by decide) (fun c_143 => absurd c_143 (show ¬ ((3) : Int32) ≤ 2 by decide)) (fun c_143 => ?_)
  refine g_aload_n hF dX8_init_146 rfl ?_
  refine g_get (j := 8) hF 0 rfl rfl (by decide) rfl m_255 rfl dX8_init_147 ?_
  refine g_iload_n hF dX8_init_150 rfl ?_
  refine g_new (ci := 6) (fs := [.null, .null, .int 0]) hF rfl tyX6 tyX6_ok m_226 m_228 m_10 (fun j hj => by rcases (show j = 0 ∨ j = 1 ∨ j = 2 by omega) with rfl | rfl | rfl <;> rfl) (Nat.le_of_ble_eq_true rfl) (Nat.le_of_ble_eq_true rfl) dX8_init_151 (fun q17 => ?_)
  refine g_dup hF dX8_init_154 rfl ?_
  refine g_callIN hF (c_Tape_init) cal_X6_init rfl m_229 (by decide) (Or.inl rfl) (Nat.le_of_ble_eq_true rfl) (Nat.le_of_ble_eq_true rfl) [33] rfl rfl rfl (Nat.le_of_ble_eq_true rfl) dX8_init_155 (fun r gs1 hpo => ?_)
  obtain ⟨rs2, as2, rj2, aj2, rfl, rfl⟩ := hpo
  refine ⟨Nat.le_of_ble_eq_true rfl, ?_⟩
  try dsimp only [gput, gputA, List.set, stGs, List.cons_append, List.nil_append]
  refine g_aastA hF rfl 26 4 33 2 rfl rfl rfl rfl (show vp_in (nI 2) 3 from vp_in_nI (by decide) (by decide)) rfl dX8_init_158 ?_
  try dsimp only [gput, gputA, List.set, stGs, List.cons_append, List.nil_append]
  refine g_iinc (v := (3)) hF dX8_init_159 rfl rfl rfl ?_
  refine g_goto (tgt := 137) hF dX8_init_162 (by decide) ?_
  refine g_iload_n hF dX8_init_137 rfl ?_
  refine g_aload_n hF dX8_init_138 rfl ?_
  refine g_get (j := 8) hF 0 rfl rfl (by decide) rfl m_255 rfl dX8_init_139 ?_
  refine g_alen hF rfl 26 4 rfl rfl rfl dX8_init_142 ?_
  refine g_icmp_ge (tgt := 165) hF dX8_init_143 (by decide) (fun c_143 => ?_) (fun c_143 => absurd (show ((3) : Int32) ≤ 3 by decide) c_143)
  refine g_aload_n hF dX8_init_165 rfl ?_
  refine g_iconst (v := (0)) hF dX8_init_166 rfl ?_
  refine g_put (j := 9) hF 0 rfl rfl (by decide) rfl m_256 rfl (tyX8_ok 9 (by decide)) rfl rfl (Nat.le_of_ble_eq_true rfl) dX8_init_167 ?_
  try dsimp only [gput, gputA, List.set, stGs, List.cons_append, List.nil_append]
  refine g_aload_n hF dX8_init_170 rfl ?_
  refine g_iconst (v := (-1)) hF dX8_init_171 rfl ?_
  refine g_put (j := 10) hF 0 rfl rfl (by decide) rfl m_257 rfl (tyX8_ok 10 (by decide)) rfl rfl (Nat.le_of_ble_eq_true rfl) dX8_init_172 ?_
  try dsimp only [gput, gputA, List.set, stGs, List.cons_append, List.nil_append]
  refine g_aload_n hF dX8_init_175 rfl ?_
  refine g_new (ci := 5) (fs := [.null, .null, .null, .null, .int 0, .int 0, .int 0, .int 0]) hF rfl tyX5 tyX5_ok m_61 m_62 m_5 (fun j hj => by rcases (show j = 0 ∨ j = 1 ∨ j = 2 ∨ j = 3 ∨ j = 4 ∨ j = 5 ∨ j = 6 ∨ j = 7 by omega) with rfl | rfl | rfl | rfl | rfl | rfl | rfl | rfl <;> rfl) (Nat.le_of_ble_eq_true rfl) (Nat.le_of_ble_eq_true rfl) dX8_init_176 (fun q18 => ?_)
  refine g_dup hF dX8_init_179 rfl ?_
  refine g_callI hF (c_S_init) cal_X5_init rfl m_63 (by decide) (Or.inl rfl) (Nat.le_of_ble_eq_true rfl) (Nat.le_of_ble_eq_true rfl) [36] rfl rfl rfl (Nat.le_of_ble_eq_true rfl) dX8_init_180 (fun r gs1 hpo => ?_)
  obtain ⟨B, rfl, rfl, rfl⟩ := hpo
  refine ⟨Nat.le_of_ble_eq_true rfl, ?_⟩
  try dsimp only [gput, gputA, List.set, stGs, List.cons_append, List.nil_append]
  refine g_putF (j := 11) hF hN 0 rfl rfl (by decide) rfl m_258 rfl (tyX8_ok 11 (by decide)) rfl rfl (Nat.le_of_ble_eq_true rfl) dX8_init_183 ?_
  try dsimp only [gput, gputA, List.set, stGs, List.cons_append, List.nil_append]
  refine g_aload_n hF dX8_init_186 rfl ?_
  refine g_new (ci := 4) (fs := [.null, .int 0]) hF rfl tyX4 tyX4_ok m_59 m_33 m_3 (fun j hj => by rcases (show j = 0 ∨ j = 1 by omega) with rfl | rfl <;> rfl) (Nat.le_of_ble_eq_true rfl) (Nat.le_of_ble_eq_true rfl) dX8_init_187 (fun q19 => ?_)
  refine g_dup hF dX8_init_190 rfl ?_
  refine g_bipush (v := (20)) hF dX8_init_191 rfl ?_
  refine g_callI hF (c_Row_init (cap := 20) (by decide)) cal_X4_init rfl m_60 (by decide) (Or.inl rfl) (Nat.le_of_ble_eq_true rfl) (Nat.le_of_ble_eq_true rfl) [41] rfl rfl rfl (Nat.le_of_ble_eq_true rfl) dX8_init_193 (fun r gs1 hpo => ?_)
  obtain ⟨a2, rfl, rfl⟩ := hpo
  refine ⟨Nat.le_refl _, ?_⟩
  refine g_putF (j := 12) hF hN 0 rfl rfl (by decide) rfl m_259 rfl (tyX8_ok 12 (by decide)) rfl rfl (Nat.le_of_ble_eq_true rfl) dX8_init_196 ?_
  try dsimp only [gput, gputA, List.set, stGs, List.cons_append, List.nil_append]
  refine g_drop (gs' := [lanO h q1 q2 A.1 q4 r1 0 r2 r3 0 (-1) B.1 q19, progO q1 rc rn rt, rowW F.1.2.2 rc ac 80 (fun _ => 0) 0, rowW F.1.2.2 rn an 80 (fun _ => 0) 0, rowW F.1.2.2 rt at0 80 (fun _ => 0) 0, rowW F.1.2.2 q2 a1 20 (fun _ => 0) 0, stOv A initS, rw1 F.1.2.2 A initS, rw2 F.1.2.2 A initS, rw3 F.1.2.2 A initS, rw4 F.1.2.2 A initS, pastO q4 ma 0, arrM F.1.2.2 ma ad, momsW ad (fun _ _ => 0), stOv B initS, rw1 F.1.2.2 B initS, rw2 F.1.2.2 B initS, rw3 F.1.2.2 B initS, rw4 F.1.2.2 B initS, ptsA F.1.2.2 r1 (va_up (va_up (va_up (va_up (va_up (va_up (fun _ => 0) 0 q5) 1 q6) 2 q7) 3 q8) 4 q9) 5 q10), poO ((va_up (va_up (va_up (va_up (va_up (va_up (fun _ => 0) 0 q5) 1 q6) 2 q7) 3 q8) 4 q9) 5 q10) 0) 0 0 false 0 0 0 0, tpsA F.1.2.2 r3 (va_up (va_up (va_up (fun _ => 0) 0 q15) 1 q16) 2 q17), tapeO ((va_up (va_up (va_up (fun _ => 0) 0 q15) 1 q16) 2 q17) 1) rs1 rj1 false, rowW F.1.2.2 rs1 as1 200 (fun _ => 0) 0, rowW F.1.2.2 rj1 aj1 20 (fun _ => 0) 0]) _ (gs_perm (ps := [0, 1, 2, 3, 4, 5, 6, 7, 8, 9, 10, 11, 12, 13, 36, 37, 38, 39, 40, 14, 15, 26, 30, 31, 32]) rfl rfl) ?_
  refine g_widen (k' := 300) (n' := 4000) (Nat.le_of_ble_eq_true rfl) (Nat.le_of_ble_eq_true rfl) ?_
  exact g_vret hF hR dX8_init_199 ⟨q1, rc, rn, rt, q2, q4, r1, r2, r3, q19, ac, an, at0, a1, ma, rs1, rj1, as1, aj1, A, B, ad, (va_up (va_up (va_up (va_up (va_up (va_up (fun _ => 0) 0 q5) 1 q6) 2 q7) 3 q8) 4 q9) 5 q10), (va_up (va_up (va_up (fun _ => 0) 0 q15) 1 q16) 2 q17), rfl, rfl⟩
