/-! the law's walk: small facts; contracts with their answers named -/
theorem i_lt {x y : Int32} (h : ¬ y ≤ x) : x < y := by
  rw [Int32.le_iff_toInt_le] at h
  rw [Int32.lt_iff_toInt_lt]
  omega
theorem i_nlt {x y : Int32} (h : y ≤ x) : ¬ x < y := by
  rw [Int32.le_iff_toInt_le] at h
  rw [Int32.lt_iff_toInt_lt]
  omega
theorem lcmp_self (x : Int64) : lg_cmp x x = 0 := by
  unfold lg_cmp
  rw [if_neg (fun h => by have z := Int64.lt_iff_toInt_lt.mp h; omega), if_pos rfl]
theorem bel12 (x : Int32) : ∃ k, 1 ≤ k ∧ k ≤ 12 ∧ (1 : Int32) + belI x 12 = nI k := by
  obtain ⟨j, hj, e⟩ := bel_ex x (n := 12) (by decide) (by decide)
  refine ⟨1 + j, by omega, by omega, ?_⟩
  rw [show belI x 12 = nI j from e]
  exact nI_add 1 j
theorem min_nI {a b : Nat} (ha : a < 2 ^ 31) (hb : b < 2 ^ 31) : (if nI b < nI a then nI b else nI a) = nI (min a b) := by
  by_cases h : b < a
  · rw [if_pos (nI_lt h ha), Nat.min_eq_right (by omega)]
  · rw [if_neg (nI_nlt (by omega) hb), Nat.min_eq_left (by omega)]
theorem min8 {n : Nat} (h : n < 2 ^ 31) : (if nI n < 8 then nI n else 8) = nI (min 8 n) := min_nI (a := 8) (b := n) (by decide) h
theorem has0 {n : Nat} (h : ¬ nI n ≤ 0) : rowHas n 0 = true := by
  unfold rowHas
  rw [decide_eq_false (show ¬ (0 : Int32) < 0 by decide), decide_eq_false h]
  rfl
def topV (v : SV) : Int32 := if nI v.1.2 ≤ 0 then 0 else topR v.1 0
theorem topV_eq {v1 v2 : SV} (h : REq v1.1 v2.1) (hc : ¬ nI v2.1.2 ≤ 0) : topR v2.1 0 = topV v1 := by
  unfold topV
  rw [h.1, if_neg hc]
  exact (topR_eq h 0).symm
theorem ends_le {k came : Nat} {v1 : SV} (hk : k < 2 ^ 31) (h1 : came ≤ k) (h2 : came < k → ¬ v1.2.2.2.2.2.1 = 0) (h3 : came = k → v1.2.2.2.2.2.1 = 0 ∨ v1.2.2.2.2.2.1 = 1) : (¬ 0 ≤ endsV k (came, v1) → came = k ∧ v1.2.2.2.2.2.1 = 0) ∧ (0 ≤ endsV k (came, v1) → endsV k (came, v1) = nI came ∧ ¬ v1.2.2.2.2.2.1 = 0) := by
  obtain ⟨a, b⟩ := ends_lt hk h1 h2 h3
  exact ⟨fun q => a (i_lt q), fun q => b (i_nlt q)⟩
theorem told_1 {r c : Int32} {n : Nat} {v : SV} : toldF r c n v 1 = v.2.2.2.2.2.1 := rfl
theorem told_0 {r c : Int32} {n : Nat} {v : SV} : toldF r c n v 0 = v.2.2.2.2.1 := rfl
theorem told_2 {r c : Int32} {n : Nat} {v : SV} : toldF r c n v 2 = v.2.2.2.2.2.2.2 := rfl
theorem told_7 {r c : Int32} {n : Nat} {v : SV} : toldF r c n v 7 = nI n := rfl
theorem told_8 {r c : Int32} {n : Nat} {v : SV} : toldF r c n v 8 = r := rfl
theorem told_9 {r c : Int32} {n : Nat} {v : SV} : toldF r c n v 9 = c := rfl
def thenV (v : SV) (M : Nat → Nat → Int32) (cnt j k : Nat) : Int32 := if j = 0 then nowF v (nI k) else tellM (M (cnt - j)) (nI k)
theorem then_facts {pc pn inp : RV} {ft : Nat → Int32} {v : SV} {n j : Nat} {M : Nat → Nat → Int32} (hp : pc.2 ≤ 79) (h2 : pn.2 = pc.2) (hal : Allow pc pn) (h : Inv pc pn inp initS (ft, v, n, M)) (hj : j ≤ n) : (∃ a, a ≤ 24 ∧ thenV v M n j 1 = nI a) ∧ (∃ a, a ≤ 8 ∧ thenV v M n j 3 = nI a) ∧ ∃ a, a ≤ 80 ∧ thenV v M n j 0 = nI a ∧ (1 ≤ j → a < pc.2) := by
  unfold thenV
  by_cases e : j = 0
  · subst e
    rw [if_pos rfl, if_pos rfl, if_pos rfl]
    refine ⟨⟨v.1.2, h.1.1, rfl⟩, ⟨v.2.2.1.2, h.1.2.2.1, rfl⟩, ?_⟩
    obtain ⟨a, h1, e1⟩ := now_in hp h2 hal h
    exact ⟨a, h1, e1, fun q => absurd q (by decide)⟩
  · rw [if_neg e, if_neg e, if_neg e]
    obtain ⟨⟨i, hi, e0⟩, ⟨a1, ha1, e1⟩, ⟨a4, ha4, e4⟩⟩ := past_in (show pc.2 < 2 ^ 31 by omega) h (show n - j < n by omega)
    exact ⟨⟨a1, ha1, e1⟩, ⟨a4, ha4, e4⟩, ⟨i, by omega, e0, fun _ => hi⟩⟩
theorem stored_ex {M : Nat → Nat → Int32} {cnt c : Nat} : ∃ g, g ≤ cnt ∧ storedD M cnt (nI c) cnt = nI g ∧ (1 ≤ g → M (cnt - g) 8 = nI c ∧ ∀ j, 1 ≤ j → j ≤ g - 1 → ¬ M (cnt - j) 8 = nI c) := by
  rcases stored_cases M cnt (nI c) cnt with ⟨es, -⟩ | ⟨e, he, h8, es, hno⟩
  · exact ⟨0, Nat.zero_le _, es.trans nI_0.symm, fun q => absurd q (by decide)⟩
  · refine ⟨cnt - e, by omega, es, fun _ => ⟨by rw [show cnt - (cnt - e) = e by omega]; exact h8, fun j h1 h2 => hno (cnt - j) (by omega) (by omega)⟩⟩
theorem pairs_split {cy : Nat → ClassId} {ad : Nat → Nat} {fc fn : Nat → Int32} {n i : Nat} (hi : i < n) : ∃ X Y, pairsR cy ad fc fn n = X ++ (pairO cy (ad i) (fc i) (fn i) ++ Y) := by
  obtain ⟨s, t, e⟩ := List.append_of_mem (List.mem_range.mpr hi)
  refine ⟨(s.map (fun j => pairO cy (ad j) (fc j) (fn j))).flatten, (t.map (fun j => pairO cy (ad j) (fc j) (fn j))).flatten, ?_⟩
  unfold pairsR
  rw [e, List.map_append, List.map_cons, List.flatten_append, List.flatten_cons]
theorem g_forgetN {F : Fix} {k n pc : Nat} {gs : List va_W} {st : List Value} : ∀ (js : List Nat) {lv : List (Option Value)}, G F k n gs pc (js.foldl (fun l j => l.set j none) lv) st → G F k n gs pc lv st
  | [], _, kk => kk
  | j :: js, lv, kk => g_forget1 j (g_forgetN js kk)
theorem steps_same {M : Nat → Nat → Int32} {f : Nat → Int32} {n : Nat} : ∀ i, i < n → stepsF M f n i = M i 0 := by
  intro i hi
  unfold stepsF
  rw [if_pos hi]
theorem c_runX {E : Env3} {h p ri hp pts wts tps ti rc rn rt ac an at0 np ai ni ma cnt : Nat} {A : AV} {B : AV} {v : SV} {ad : Nat → Nat} {fc : Nat → Int32} {fn : Nat → Int32} {ft : Nat → Int32} {fi : Nat → Int32} {M : Nat → Nat → Int32} {reason : Int32} {cause : Int32} (hv : okS v) (hnp : np ≤ 80) (hni : ni ≤ 20) {k : Nat} (hl : isLenB (nI k) = true) (hk : k < 2 ^ 31) (hcn : cnt + k ≤ 200) {came : Nat} {ft1 : Nat → Int32} {v1 : SV} {n1 : Nat} {M1 : Nat → Nat → Int32} {r1 : Int32} (hx : runR (fc, np) (fn, np) (fi, ni) (fun _ => false) k (ft, v, cnt, M) = (came, (ft1, v1, n1, M1), r1)) : Cd E none 6 yX8_run cX8_run 2 (some .int) [.ref h, .int (nI k)] [lanO h p ri A.1 hp pts 0 wts tps reason cause B.1 ti, progO p rc rn rt, rowW E.2.2 rc ac 80 fc np, rowW E.2.2 rn an 80 fn np, rowW E.2.2 rt at0 80 ft np, rowW E.2.2 ri ai 20 fi ni, stOv A v, rw1 E.2.2 A v, rw2 E.2.2 A v, rw3 E.2.2 A v, rw4 E.2.2 A v, pastO hp ma cnt, arrM E.2.2 ma ad, momsW ad M] (some (.int (nI came))) [lanO h p ri A.1 hp pts 0 wts tps r1 (-1) B.1 ti, progO p rc rn rt, rowW E.2.2 rc ac 80 fc np, rowW E.2.2 rn an 80 fn np, rowW E.2.2 rt at0 80 ft1 np, rowW E.2.2 ri ai 20 fi ni, stOv A (v1), rw1 E.2.2 A (v1), rw2 E.2.2 A (v1), rw3 E.2.2 A (v1), rw4 E.2.2 A (v1), pastO hp ma n1, arrM E.2.2 ma ad, momsW ad M1] := by
  have e0 : came = (runR (fc, np) (fn, np) (fi, ni) (fun _ => false) k (ft, v, cnt, M)).1 := by rw [hx]
  have e1 : ft1 = (runR (fc, np) (fn, np) (fi, ni) (fun _ => false) k (ft, v, cnt, M)).2.1.1 := by rw [hx]
  have e2 : v1 = (runR (fc, np) (fn, np) (fi, ni) (fun _ => false) k (ft, v, cnt, M)).2.1.2.1 := by rw [hx]
  have e3 : n1 = (runR (fc, np) (fn, np) (fi, ni) (fun _ => false) k (ft, v, cnt, M)).2.1.2.2.1 := by rw [hx]
  have e4 : M1 = (runR (fc, np) (fn, np) (fi, ni) (fun _ => false) k (ft, v, cnt, M)).2.1.2.2.2 := by rw [hx]
  have e5 : r1 = (runR (fc, np) (fn, np) (fi, ni) (fun _ => false) k (ft, v, cnt, M)).2.2 := by rw [hx]
  subst e0
  subst e1
  subst e2
  subst e3
  subst e4
  subst e5
  exact c_run_0 hv hnp hni hl hk hcn
theorem c_run1X {E : Env3} {h p ri hp pts wts tps ti rc rn rt ac an at0 np ai ni ma cnt : Nat} {A : AV} {B : AV} {v : SV} {ad : Nat → Nat} {ap : Nat → Nat} {fc : Nat → Int32} {fn : Nat → Int32} {ft : Nat → Int32} {fi : Nat → Int32} {M : Nat → Nat → Int32} {reason : Int32} {cause : Int32} {ps : Int32} {stops : Int32} (hv : okS v) (hnp : np ≤ 80) (hni : ni ≤ 20) {k : Nat} (hl : isLenB (nI k) = true) (hk : k < 2 ^ 31) (hcn : cnt + k ≤ 200) {came : Nat} {ft1 : Nat → Int32} {v1 : SV} {n1 : Nat} {M1 : Nat → Nat → Int32} {r1 : Int32} (hx : runR (fc, np) (fn, np) (fi, ni) (hitV ps) k (ft, v, cnt, M) = (came, (ft1, v1, n1, M1), r1)) : Cd E none 6 yX8_run cX8_run 2 (some .int) [.ref h, .int (nI k)] [lanO h p ri A.1 hp pts 1 wts tps reason cause B.1 ti, progO p rc rn rt, rowW E.2.2 rc ac 80 fc np, rowW E.2.2 rn an 80 fn np, rowW E.2.2 rt at0 80 ft np, rowW E.2.2 ri ai 20 fi ni, stOv A v, rw1 E.2.2 A v, rw2 E.2.2 A v, rw3 E.2.2 A v, rw4 E.2.2 A v, pastO hp ma cnt, arrM E.2.2 ma ad, momsW ad M, ptsA E.2.2 pts ap, poO (ap 0) ps 0 true 0 0 0 stops] (some (.int (nI came))) [lanO h p ri A.1 hp pts 1 wts tps r1 (causeF r1) B.1 ti, progO p rc rn rt, rowW E.2.2 rc ac 80 fc np, rowW E.2.2 rn an 80 fn np, rowW E.2.2 rt at0 80 ft1 np, rowW E.2.2 ri ai 20 fi ni, stOv A (v1), rw1 E.2.2 A (v1), rw2 E.2.2 A (v1), rw3 E.2.2 A (v1), rw4 E.2.2 A (v1), pastO hp ma n1, arrM E.2.2 ma ad, momsW ad M1, ptsA E.2.2 pts ap, poO (ap 0) ps 0 true 0 0 0 (stF stops r1)] := by
  have e0 : came = (runR (fc, np) (fn, np) (fi, ni) (hitV ps) k (ft, v, cnt, M)).1 := by rw [hx]
  have e1 : ft1 = (runR (fc, np) (fn, np) (fi, ni) (hitV ps) k (ft, v, cnt, M)).2.1.1 := by rw [hx]
  have e2 : v1 = (runR (fc, np) (fn, np) (fi, ni) (hitV ps) k (ft, v, cnt, M)).2.1.2.1 := by rw [hx]
  have e3 : n1 = (runR (fc, np) (fn, np) (fi, ni) (hitV ps) k (ft, v, cnt, M)).2.1.2.2.1 := by rw [hx]
  have e4 : M1 = (runR (fc, np) (fn, np) (fi, ni) (hitV ps) k (ft, v, cnt, M)).2.1.2.2.2 := by rw [hx]
  have e5 : r1 = (runR (fc, np) (fn, np) (fi, ni) (hitV ps) k (ft, v, cnt, M)).2.2 := by rw [hx]
  subst e0
  subst e1
  subst e2
  subst e3
  subst e4
  subst e5
  exact c_run_1 hv hnp hni hl hk hcn
theorem c_replayX {E : Env3} {h p ri hp pts wts tps ti rc rn rt ac an at0 np ai ni ma cnt rs rj as ns aj nj : Nat} {A : AV} {B : AV} {v : SV} {ad : Nat → Nat} {tp : Nat → Nat} {fc : Nat → Int32} {fn : Nat → Int32} {ft : Nat → Int32} {fi : Nat → Int32} {fs : Nat → Int32} {fj : Nat → Int32} {M : Nat → Nat → Int32} {reason : Int32} {cause : Int32} {pc : Int32} (hv : okS v) (hnp : np ≤ 80) (hni : ni ≤ 20) (hns : ns ≤ 200) (hnj : nj ≤ 20) {came : Nat} {ft1 : Nat → Int32} {v1 : SV} {n1 : Nat} {M1 : Nat → Nat → Int32} (hx : playR (fc, np) (fn, np) (va_cpy fj fi 0 0 (min nj 20), min nj 20) ns (zeroTo ft np, clearF v, 0, M) = (came, (ft1, v1, n1, M1))) : Cd E none 5 yX8_replay cX8_replay 4 (some .int) [.ref h, .int 1] [lanO h p ri A.1 hp pts pc wts tps reason cause B.1 ti, progO p rc rn rt, rowW E.2.2 rc ac 80 fc np, rowW E.2.2 rn an 80 fn np, rowW E.2.2 rt at0 80 ft np, rowW E.2.2 ri ai 20 fi ni, stOv A v, rw1 E.2.2 A v, rw2 E.2.2 A v, rw3 E.2.2 A v, rw4 E.2.2 A v, pastO hp ma cnt, arrM E.2.2 ma ad, momsW ad M, tpsA E.2.2 tps tp, tapeO (tp 1) rs rj true, rowW E.2.2 rs as 200 fs ns, rowW E.2.2 rj aj 20 fj nj] (some (.int (nI came))) [lanO h p ri A.1 hp pts pc wts tps 8 (-1) B.1 ti, progO p rc rn rt, rowW E.2.2 rc ac 80 fc np, rowW E.2.2 rn an 80 fn np, rowW E.2.2 rt at0 80 ft1 np, rowW E.2.2 ri ai 20 (va_cpy fj fi 0 0 (min nj 20), min nj 20).1 (va_cpy fj fi 0 0 (min nj 20), min nj 20).2, stOv A (v1), rw1 E.2.2 A (v1), rw2 E.2.2 A (v1), rw3 E.2.2 A (v1), rw4 E.2.2 A (v1), pastO hp ma n1, arrM E.2.2 ma ad, momsW ad M1, tpsA E.2.2 tps tp, tapeO (tp 1) rs rj true, rowW E.2.2 rs as 200 fs ns, rowW E.2.2 rj aj 20 fj nj] := by
  have e0 : came = (playR (fc, np) (fn, np) (va_cpy fj fi 0 0 (min nj 20), min nj 20) ns (zeroTo ft np, clearF v, 0, M)).1 := by rw [hx]
  have e1 : ft1 = (playR (fc, np) (fn, np) (va_cpy fj fi 0 0 (min nj 20), min nj 20) ns (zeroTo ft np, clearF v, 0, M)).2.1 := by rw [hx]
  have e2 : v1 = (playR (fc, np) (fn, np) (va_cpy fj fi 0 0 (min nj 20), min nj 20) ns (zeroTo ft np, clearF v, 0, M)).2.2.1 := by rw [hx]
  have e3 : n1 = (playR (fc, np) (fn, np) (va_cpy fj fi 0 0 (min nj 20), min nj 20) ns (zeroTo ft np, clearF v, 0, M)).2.2.2.1 := by rw [hx]
  have e4 : M1 = (playR (fc, np) (fn, np) (va_cpy fj fi 0 0 (min nj 20), min nj 20) ns (zeroTo ft np, clearF v, 0, M)).2.2.2.2 := by rw [hx]
  subst e0
  subst e1
  subst e2
  subst e3
  subst e4
  exact c_replay hv hnp hni hns hnj
theorem c_endsX {E : Env3} {h p ri hp pts wts tps ti rc rn rt ac an np ai ni : Nat} {A : AV} {B : AV} {v : SV} {w : SV} {fc : Nat → Int32} {fn : Nat → Int32} {fi : Nat → Int32} {reason : Int32} {cause : Int32} {pc : Int32} (hv : okS v) (hw : okS w) (hnp : np ≤ 80) (hni : ni ≤ 20) {k : Nat} (hl : isLenB (nI k) = true) (hk : k < 2 ^ 31) {came : Nat} {v1 : SV} (ht : tryF (fc, np) (fn, np) (fi, ni) k v = (came, v1)) {w1 : SV} (hw1 : (tryF (fc, np) (fn, np) (fi, ni) k (copyF w v)).2 = w1)  : Cd E none 5 yX8_endsIn cX8_endsIn 3 (some .int) [.ref h, .int (nI k)] [lanO h p ri A.1 hp pts pc wts tps reason cause B.1 ti, progO p rc rn rt, rowW E.2.2 rc ac 80 fc np, rowW E.2.2 rn an 80 fn np, rowW E.2.2 ri ai 20 fi ni, stOv A v, rw1 E.2.2 A v, rw2 E.2.2 A v, rw3 E.2.2 A v, rw4 E.2.2 A v, stOv B w, rw1 E.2.2 B w, rw2 E.2.2 B w, rw3 E.2.2 B w, rw4 E.2.2 B w] (some (.int (endsV k (came, v1)))) [lanO h p ri A.1 hp pts pc wts tps reason cause B.1 ti, progO p rc rn rt, rowW E.2.2 rc ac 80 fc np, rowW E.2.2 rn an 80 fn np, rowW E.2.2 ri ai 20 fi ni, stOv A v, rw1 E.2.2 A v, rw2 E.2.2 A v, rw3 E.2.2 A v, rw4 E.2.2 A v, stOv B (w1), rw1 E.2.2 B (w1), rw2 E.2.2 B (w1), rw3 E.2.2 B (w1), rw4 E.2.2 B (w1)] := by
  subst hw1
  rw [← ht, ← endsV_copy (t := w) hv]
  exact c_endsIn_raw hv hw hnp hni hl hk
theorem c_cellX {E : Env3} {h p ri hp pts wts tps ti rc rn rt ac an np ai ni : Nat} {A : AV} {B : AV} {v : SV} {w : SV} {fc : Nat → Int32} {fn : Nat → Int32} {fi : Nat → Int32} {reason : Int32} {cause : Int32} {pc : Int32} (hv : okS v) (hw : okS w) (hnp : np ≤ 80) (hni : ni ≤ 20) {k : Nat} (hl : isLenB (nI k) = true) (hk : k < 2 ^ 31) {came : Nat} {v1 : SV} (ht : tryF (fc, np) (fn, np) (fi, ni) k v = (came, v1)) {w1 : SV} (hw1 : (tryF (fc, np) (fn, np) (fi, ni) k (copyF w v)).2 = w1) {c : Int32} (hcl : isCellB c = true)  : Cd E none 5 yX8_cellIn cX8_cellIn 3 (some .int) [.ref h, .int c, .int (nI k)] [lanO h p ri A.1 hp pts pc wts tps reason cause B.1 ti, progO p rc rn rt, rowW E.2.2 rc ac 80 fc np, rowW E.2.2 rn an 80 fn np, rowW E.2.2 ri ai 20 fi ni, stOv A v, rw1 E.2.2 A v, rw2 E.2.2 A v, rw3 E.2.2 A v, rw4 E.2.2 A v, stOv B w, rw1 E.2.2 B w, rw2 E.2.2 B w, rw3 E.2.2 B w, rw4 E.2.2 B w] (some (.int (getR v1.2.1 c))) [lanO h p ri A.1 hp pts pc wts tps reason cause B.1 ti, progO p rc rn rt, rowW E.2.2 rc ac 80 fc np, rowW E.2.2 rn an 80 fn np, rowW E.2.2 ri ai 20 fi ni, stOv A v, rw1 E.2.2 A v, rw2 E.2.2 A v, rw3 E.2.2 A v, rw4 E.2.2 A v, stOv B (w1), rw1 E.2.2 B (w1), rw2 E.2.2 B (w1), rw3 E.2.2 B (w1), rw4 E.2.2 B (w1)] := by
  subst hw1
  have e := cellV_copy (pc := (fc, np)) (pn := (fn, np)) (inp := (fi, ni)) (k := k) (t := w) (c := c) hv
  rw [ht] at e
  rw [show getR v1.2.1 c = getR (tryF (fc, np) (fn, np) (fi, ni) k (copyF w v)).2.2.1 c from e.symm]
  exact c_cellIn_raw hv hw hnp hni hl hk hcl
theorem c_digX {E : Env3} {h p ri hp pts wts tps ti rc rn rt ac an at0 np ai ni ma cnt : Nat} {A : AV} {B : AV} {v : SV} {w : SV} {ad : Nat → Nat} {fc : Nat → Int32} {fn : Nat → Int32} {ft : Nat → Int32} {fi : Nat → Int32} {M : Nat → Nat → Int32} {reason : Int32} {cause : Int32} (hv : okS v) (hw : okS w) (hnp : np ≤ 80) (hni : ni ≤ 20) (hc : cnt ≤ 200) {w1 : SV} (hw1 : (tryF (fc, np) (fn, np) (fi, ni) 50 (copyF w v)).2 = w1)  : Cd E none 6 yX8_digest cX8_digest 4 (some .long) [.ref h] [lanO h p ri A.1 hp pts 0 wts tps reason cause B.1 ti, progO p rc rn rt, rowW E.2.2 rc ac 80 fc np, rowW E.2.2 rn an 80 fn np, rowW E.2.2 rt at0 80 ft np, rowW E.2.2 ri ai 20 fi ni, stOv A v, rw1 E.2.2 A v, rw2 E.2.2 A v, rw3 E.2.2 A v, rw4 E.2.2 A v, pastO hp ma cnt, arrM E.2.2 ma ad, momsW ad M, stOv B w, rw1 E.2.2 B w, rw2 E.2.2 B w, rw3 E.2.2 B w, rw4 E.2.2 B w] (some (.long (digF reason cause cnt v M fc fn ft np (fi, ni)))) [lanO h p ri A.1 hp pts 0 wts tps reason cause B.1 ti, progO p rc rn rt, rowW E.2.2 rc ac 80 fc np, rowW E.2.2 rn an 80 fn np, rowW E.2.2 rt at0 80 ft np, rowW E.2.2 ri ai 20 fi ni, stOv A v, rw1 E.2.2 A v, rw2 E.2.2 A v, rw3 E.2.2 A v, rw4 E.2.2 A v, pastO hp ma cnt, arrM E.2.2 ma ad, momsW ad M, stOv B (w1), rw1 E.2.2 B (w1), rw2 E.2.2 B (w1), rw3 E.2.2 B (w1), rw4 E.2.2 B (w1)] := by
  subst hw1
  exact c_digest_0 hv hw hnp hni hc
theorem c_thenX {E : Env3} {h p ri hp pts wts tps ti ma cnt : Nat} {A : AV} {B : AV} {v : SV} {ad : Nat → Nat} {M : Nat → Nat → Int32} {reason : Int32} {cause : Int32} {pc : Int32} {j k : Nat} (hc : cnt ≤ 200) (hj : j ≤ cnt) (h1 : v.1.2 ≤ 24) (hk : k ≤ 3)  : Cd E none 3 yX8_then cX8_then 4 (some .int) [.ref h, .int (nI j), .int (nI k)] [lanO h p ri A.1 hp pts pc wts tps reason cause B.1 ti, stOv A v, rw1 E.2.2 A v, rw2 E.2.2 A v, rw3 E.2.2 A v, pastO hp ma cnt, arrM E.2.2 ma ad, momsW ad M] (some (.int (thenV v M cnt j k))) [lanO h p ri A.1 hp pts pc wts tps reason cause B.1 ti, stOv A v, rw1 E.2.2 A v, rw2 E.2.2 A v, rw3 E.2.2 A v, pastO hp ma cnt, arrM E.2.2 ma ad, momsW ad M] := by
  unfold thenV
  by_cases e : j = 0
  · subst e
    rw [if_pos rfl, nI_0]
    exact c_then_0 hc h1 hk
  · rw [if_neg e]
    exact c_then_m hc (by omega) hj hk
