/-! Moment, State: their pictures, and what each method does to them -/
abbrev RV : Type := (Nat → Int32) × Nat
abbrev SV : Type := RV × RV × RV × RV × Int32 × Int32 × Int32 × Int32
abbrev AV : Type := Nat × (Nat × Nat) × (Nat × Nat) × (Nat × Nat) × (Nat × Nat)
def stO (h r1 r2 r3 r4 : Nat) (at' status rd ck : Int32) : va_W := [(h, .inr (5, [.ref r1, .ref r2, .ref r3, .ref r4, .int at', .int status, .int rd, .int ck]))]
def stGs (cy : Nat → ClassId) (A : AV) (v : SV) : List va_W := [stO A.1 A.2.1.1 A.2.2.1.1 A.2.2.2.1.1 A.2.2.2.2.1 v.2.2.2.2.1 v.2.2.2.2.2.1 v.2.2.2.2.2.2.1 v.2.2.2.2.2.2.2, rowW cy A.2.1.1 A.2.1.2 24 v.1.1 v.1.2, rowW cy A.2.2.1.1 A.2.2.1.2 12 v.2.1.1 v.2.1.2, rowW cy A.2.2.2.1.1 A.2.2.2.1.2 8 v.2.2.1.1 v.2.2.1.2, rowW cy A.2.2.2.2.1 A.2.2.2.2.2 30 v.2.2.2.1.1 v.2.2.2.1.2]
def okS (v : SV) : Prop := v.1.2 ≤ 24 ∧ v.2.1.2 ≤ 12 ∧ v.2.2.1.2 ≤ 8 ∧ v.2.2.2.1.2 ≤ 30
def pushR (cap : Nat) (r : RV) (x : Int32) : RV := (if r.2 < cap then upd r.1 r.2 x else r.1, if r.2 < cap then r.2 + 1 else r.2)
def popR (r : RV) : RV := (r.1, r.2 - 1)
def popV (r : RV) : Int32 := if r.2 = 0 then 0 else r.1 (r.2 - 1)
def getR (r : RV) (i : Int32) : Int32 := rowGet r.1 r.2 i
def topR (r : RV) (i : Int32) : Int32 := rowGet r.1 r.2 (nI r.2 - 1 - i)
def putR (r : RV) (i x : Int32) : RV := (rowPut r.1 r.2 i x, r.2)
def putTopR (r : RV) (i x : Int32) : RV := (rowPut r.1 r.2 (nI r.2 - 1 - i) x, r.2)
def resR (cap : Nat) (r : RV) (k : Int32) : RV := (r.1, clampI k cap)
def cpyR (cap : Nat) (r r2 : RV) : RV := (va_cpy r2.1 r.1 0 0 (min r2.2 cap), min r2.2 cap)
def zeroR (cap : Nat) (r : RV) : RV := (zeroTo r.1 cap, cap)
def needI (c : Int32) : Int32 := if c = 0 ∨ c = 12 ∨ c = 16 ∨ c = 18 ∨ c = 19 ∨ c = 20 ∨ c = 22 then 0 else if c = 1 ∨ c = 2 ∨ c = 11 ∨ c = 13 ∨ c = 14 ∨ c = 17 ∨ c = 21 then 1 else 2
def fullB (c : Int32) (n1 n3 n4 : Nat) : Bool := if c = 0 ∨ c = 2 ∨ c = 4 ∨ c = 12 ∨ c = 20 then decide (24 ≤ n1) else if c = 18 then decide (8 ≤ n3) else if c = 21 then decide (30 ≤ n4) else false
def failF (pc : RV) (v : SV) : Int32 := if rowHas pc.2 v.2.2.2.2.1 = false then 6 else if nI v.1.2 < needI (getR pc v.2.2.2.2.1) ∨ getR pc v.2.2.2.2.1 = 19 ∧ nI v.2.2.1.2 = 0 then 2 else if getR pc v.2.2.2.2.1 = 8 ∧ topR v.1 0 = 0 then 4 else if (getR pc v.2.2.2.2.1 = 14 ∨ getR pc v.2.2.2.2.1 = 15) ∧ isCellB (topR v.1 0) = false then 5 else if fullB (getR pc v.2.2.2.2.1) v.1.2 v.2.2.1.2 v.2.2.2.1.2 = true then 3 else 0
def reckF (c a b : Int32) : Int32 := if c = 5 then a + b else if c = 6 then a - b else if c = 7 then a * b else if c = 8 then (if b = 0 then 0 else a / b) else if c = 9 then bI (decide (a < b)) else if c = 10 then bI (decide (a = b)) else 0
def withAt (v : SV) (s c f o : RV) (a rd : Int32) : SV := (s, c, f, o, a, v.2.2.2.2.2.1, rd, v.2.2.2.2.2.2.2 + 1)
def swapR (s : RV) : RV := pushR 24 (pushR 24 (popR (popR s)) (popV s)) (popV (popR s))
def perfF (c m : Int32) (inp : RV) (v : SV) : SV :=
  if c = 0 then withAt v (pushR 24 v.1 m) v.2.1 v.2.2.1 v.2.2.2.1 (v.2.2.2.2.1 + 1) v.2.2.2.2.2.2.1
  else if c = 1 then withAt v (popR v.1) v.2.1 v.2.2.1 v.2.2.2.1 (v.2.2.2.2.1 + 1) v.2.2.2.2.2.2.1
  else if c = 2 then withAt v (pushR 24 v.1 (topR v.1 0)) v.2.1 v.2.2.1 v.2.2.2.1 (v.2.2.2.2.1 + 1) v.2.2.2.2.2.2.1
  else if c = 3 then withAt v (swapR v.1) v.2.1 v.2.2.1 v.2.2.2.1 (v.2.2.2.2.1 + 1) v.2.2.2.2.2.2.1
  else if c = 4 then withAt v (pushR 24 v.1 (topR v.1 1)) v.2.1 v.2.2.1 v.2.2.2.1 (v.2.2.2.2.1 + 1) v.2.2.2.2.2.2.1
  else if c = 11 then withAt v (pushR 24 (popR v.1) (bI (decide (popV v.1 = 0)))) v.2.1 v.2.2.1 v.2.2.2.1 (v.2.2.2.2.1 + 1) v.2.2.2.2.2.2.1
  else if c = 12 then withAt v (pushR 24 v.1 (getR v.2.1 m)) v.2.1 v.2.2.1 v.2.2.2.1 (v.2.2.2.2.1 + 1) v.2.2.2.2.2.2.1
  else if c = 13 then withAt v (popR v.1) (putR v.2.1 m (popV v.1)) v.2.2.1 v.2.2.2.1 (v.2.2.2.2.1 + 1) v.2.2.2.2.2.2.1
  else if c = 14 then withAt v (pushR 24 (popR v.1) (getR v.2.1 (popV v.1))) v.2.1 v.2.2.1 v.2.2.2.1 (v.2.2.2.2.1 + 1) v.2.2.2.2.2.2.1
  else if c = 15 then withAt v (popR (popR v.1)) (putR v.2.1 (popV v.1) (popV (popR v.1))) v.2.2.1 v.2.2.2.1 (v.2.2.2.2.1 + 1) v.2.2.2.2.2.2.1
  else if c = 16 then withAt v v.1 v.2.1 v.2.2.1 v.2.2.2.1 m v.2.2.2.2.2.2.1
  else if c = 17 then withAt v (popR v.1) v.2.1 v.2.2.1 v.2.2.2.1 (if popV v.1 = 0 then m else v.2.2.2.2.1 + 1) v.2.2.2.2.2.2.1
  else if c = 18 then withAt v v.1 v.2.1 (pushR 8 v.2.2.1 (v.2.2.2.2.1 + 1)) v.2.2.2.1 m v.2.2.2.2.2.2.1
  else if c = 19 then withAt v v.1 v.2.1 (popR v.2.2.1) v.2.2.2.1 (popV v.2.2.1) v.2.2.2.2.2.2.1
  else if c = 20 then withAt v (pushR 24 v.1 (if rowHas inp.2 v.2.2.2.2.2.2.1 = false then 0 else getR inp (v.2.2.2.2.2.2.1 + 1 - 1))) v.2.1 v.2.2.1 v.2.2.2.1 (v.2.2.2.2.1 + 1) (if rowHas inp.2 v.2.2.2.2.2.2.1 = false then v.2.2.2.2.2.2.1 else v.2.2.2.2.2.2.1 + 1)
  else if c = 21 then withAt v (popR v.1) v.2.1 v.2.2.1 (pushR 30 v.2.2.2.1 (popV v.1)) (v.2.2.2.2.1 + 1) v.2.2.2.2.2.2.1
  else if c = 22 then (v.1, v.2.1, v.2.2.1, v.2.2.2.1, v.2.2.2.2.1, 1, v.2.2.2.2.2.2.1, v.2.2.2.2.2.2.2 + 1)
  else withAt v (pushR 24 (popR (popR v.1)) (reckF c (popV (popR v.1)) (popV v.1))) v.2.1 v.2.2.1 v.2.2.2.1 (v.2.2.2.2.1 + 1) v.2.2.2.2.2.2.1
def momO (q : Nat) (μ : Nat → Int32) : va_W := [(q, .inr (0, [.int (μ 0), .int (μ 1), .int (μ 2), .int (μ 3), .int (μ 4), .int (μ 5), .int (μ 6), .int (μ 7), .int (μ 8), .int (μ 9), .int (μ 10)]))]
def storeM (μ : Nat → Int32) (c b a : Int32) : Nat → Int32 := fun k => match k with | 8 => c | 9 => b | 10 => a | k => μ k
def baseM (μ : Nat → Int32) (v : SV) : Nat → Int32 := fun k => match k with | 0 => v.2.2.2.2.1 | 1 => nI v.1.2 | 2 => topR v.1 0 | 3 => topR v.1 1 | 4 => nI v.2.2.1.2 | 5 => topR v.2.2.1 0 | 6 => v.2.2.2.2.2.2.1 | 7 => nI v.2.2.2.1.2 | 8 => -1 | k => μ k
def descM (c m : Int32) (μ : Nat → Int32) (v : SV) : Nat → Int32 := if c = 13 then storeM (baseM μ v) m (getR v.2.1 m) (topR v.1 0) else if c = 15 then storeM (baseM μ v) (topR v.1 0) (getR v.2.1 (topR v.1 0)) (topR v.1 1) else baseM μ v
def backF (μ : Nat → Int32) (v : SV) : SV := (putTopR (putTopR (resR 24 v.1 (μ 1)) 0 (μ 2)) 1 (μ 3), putR v.2.1 (μ 8) (μ 9), putTopR (resR 8 v.2.2.1 (μ 4)) 0 (μ 5), resR 30 v.2.2.2.1 (μ 7), μ 0, 0, μ 6, v.2.2.2.2.2.2.2 - 1)
def clearF (v : SV) : SV := (resR 24 v.1 0, zeroR 12 v.2.1, resR 8 v.2.2.1 0, resR 30 v.2.2.2.1 0, 0, 0, 0, 0)
def copyF (t v : SV) : SV := (cpyR 24 t.1 v.1, cpyR 12 t.2.1 v.2.1, cpyR 8 t.2.2.1 v.2.2.1, cpyR 30 t.2.2.2.1 v.2.2.2.1, v.2.2.2.2.1, v.2.2.2.2.2.1, v.2.2.2.2.2.2.1, v.2.2.2.2.2.2.2)
def readyF (pc : RV) (v : SV) : SV := if v.2.2.2.2.2.1 = 0 then (v.1, v.2.1, v.2.2.1, v.2.2.2.1, v.2.2.2.2.1, failF pc v, v.2.2.2.2.2.2.1, v.2.2.2.2.2.2.2) else v
def mixSt (v : SV) (d : Int64) : Int64 := mixS v.2.2.2.1.1 v.2.2.2.1.2 (mixS (fun k => topR v.2.2.1 (nI k)) v.2.2.1.2 (mixS v.2.1.1 v.2.1.2 (mixS (fun k => topR v.1 (nI k)) v.1.2 d)))
set_option maxHeartbeats 4000000 in
set_option maxRecDepth 100000 in
theorem c_St_needOnStack {E : Env3} {c : Int32} : Cd E none 0 yX5_needOnStack cX5_needOnStack 1 (some .int) [.int c] [] (some (.int (needI c))) [] := by
  refine Ct.of [some (.int c)] (by decide +kernel) rfl (Nat.le_of_ble_eq_true rfl) (fun F hE hF hR hN => ?_)
  subst hE
  refine g_iload_n hF dX5_needOnStack_0 rfl ?_
  by_cases t1_0 : c = 0
  · refine g_tableIn (off := 107) (tgt := 108) hF dX5_needOnStack_1 (by rw [t1_0]; decide) (by rw [t1_0]; decide) (by rw [t1_0]; rfl) (by decide) ?_
    refine g_iconst (v := (0)) hF dX5_needOnStack_108 rfl ?_
    exact g_iret hF hR dX5_needOnStack_109 ⟨(by simp [needI, t1_0]), rfl⟩
  by_cases t1_1 : c = 1
  · refine g_tableIn (off := 109) (tgt := 110) hF dX5_needOnStack_1 (by rw [t1_1]; decide) (by rw [t1_1]; decide) (by rw [t1_1]; rfl) (by decide) ?_
    refine g_iconst (v := (1)) hF dX5_needOnStack_110 rfl ?_
    exact g_iret hF hR dX5_needOnStack_111 ⟨(by simp [needI, t1_0, t1_1]), rfl⟩
  by_cases t1_2 : c = 2
  · refine g_tableIn (off := 109) (tgt := 110) hF dX5_needOnStack_1 (by rw [t1_2]; decide) (by rw [t1_2]; decide) (by rw [t1_2]; rfl) (by decide) ?_
    refine g_iconst (v := (1)) hF dX5_needOnStack_110 rfl ?_
    exact g_iret hF hR dX5_needOnStack_111 ⟨(by simp [needI, t1_0, t1_1, t1_2]), rfl⟩
  by_cases t1_3 : c = 3
  · refine g_tableIn (off := 111) (tgt := 112) hF dX5_needOnStack_1 (by rw [t1_3]; decide) (by rw [t1_3]; decide) (by rw [t1_3]; rfl) (by decide) ?_
    refine g_iconst (v := (2)) hF dX5_needOnStack_112 rfl ?_
    exact g_iret hF hR dX5_needOnStack_113 ⟨(by simp [needI, t1_0, t1_1, t1_2, t1_3]), rfl⟩
  by_cases t1_4 : c = 4
  · refine g_tableIn (off := 111) (tgt := 112) hF dX5_needOnStack_1 (by rw [t1_4]; decide) (by rw [t1_4]; decide) (by rw [t1_4]; rfl) (by decide) ?_
    refine g_iconst (v := (2)) hF dX5_needOnStack_112 rfl ?_
    exact g_iret hF hR dX5_needOnStack_113 ⟨(by simp [needI, t1_0, t1_1, t1_2, t1_3, t1_4]), rfl⟩
  by_cases t1_5 : c = 5
  · refine g_tableIn (off := 111) (tgt := 112) hF dX5_needOnStack_1 (by rw [t1_5]; decide) (by rw [t1_5]; decide) (by rw [t1_5]; rfl) (by decide) ?_
    refine g_iconst (v := (2)) hF dX5_needOnStack_112 rfl ?_
    exact g_iret hF hR dX5_needOnStack_113 ⟨(by simp [needI, t1_0, t1_1, t1_2, t1_3, t1_4, t1_5]), rfl⟩
  by_cases t1_6 : c = 6
  · refine g_tableIn (off := 111) (tgt := 112) hF dX5_needOnStack_1 (by rw [t1_6]; decide) (by rw [t1_6]; decide) (by rw [t1_6]; rfl) (by decide) ?_
    refine g_iconst (v := (2)) hF dX5_needOnStack_112 rfl ?_
    exact g_iret hF hR dX5_needOnStack_113 ⟨(by simp [needI, t1_0, t1_1, t1_2, t1_3, t1_4, t1_5, t1_6]), rfl⟩
  by_cases t1_7 : c = 7
  · refine g_tableIn (off := 111) (tgt := 112) hF dX5_needOnStack_1 (by rw [t1_7]; decide) (by rw [t1_7]; decide) (by rw [t1_7]; rfl) (by decide) ?_
    refine g_iconst (v := (2)) hF dX5_needOnStack_112 rfl ?_
    exact g_iret hF hR dX5_needOnStack_113 ⟨(by simp [needI, t1_0, t1_1, t1_2, t1_3, t1_4, t1_5, t1_6, t1_7]), rfl⟩
  by_cases t1_8 : c = 8
  · refine g_tableIn (off := 111) (tgt := 112) hF dX5_needOnStack_1 (by rw [t1_8]; decide) (by rw [t1_8]; decide) (by rw [t1_8]; rfl) (by decide) ?_
    refine g_iconst (v := (2)) hF dX5_needOnStack_112 rfl ?_
    exact g_iret hF hR dX5_needOnStack_113 ⟨(by simp [needI, t1_0, t1_1, t1_2, t1_3, t1_4, t1_5, t1_6, t1_7, t1_8]), rfl⟩
  by_cases t1_9 : c = 9
  · refine g_tableIn (off := 111) (tgt := 112) hF dX5_needOnStack_1 (by rw [t1_9]; decide) (by rw [t1_9]; decide) (by rw [t1_9]; rfl) (by decide) ?_
    refine g_iconst (v := (2)) hF dX5_needOnStack_112 rfl ?_
    exact g_iret hF hR dX5_needOnStack_113 ⟨(by simp [needI, t1_0, t1_1, t1_2, t1_3, t1_4, t1_5, t1_6, t1_7, t1_8, t1_9]), rfl⟩
  by_cases t1_10 : c = 10
  · refine g_tableIn (off := 111) (tgt := 112) hF dX5_needOnStack_1 (by rw [t1_10]; decide) (by rw [t1_10]; decide) (by rw [t1_10]; rfl) (by decide) ?_
    refine g_iconst (v := (2)) hF dX5_needOnStack_112 rfl ?_
    exact g_iret hF hR dX5_needOnStack_113 ⟨(by simp [needI, t1_0, t1_1, t1_2, t1_3, t1_4, t1_5, t1_6, t1_7, t1_8, t1_9, t1_10]), rfl⟩
  by_cases t1_11 : c = 11
  · refine g_tableIn (off := 109) (tgt := 110) hF dX5_needOnStack_1 (by rw [t1_11]; decide) (by rw [t1_11]; decide) (by rw [t1_11]; rfl) (by decide) ?_
    refine g_iconst (v := (1)) hF dX5_needOnStack_110 rfl ?_
    exact g_iret hF hR dX5_needOnStack_111 ⟨(by simp [needI, t1_0, t1_1, t1_2, t1_3, t1_4, t1_5, t1_6, t1_7, t1_8, t1_9, t1_10, t1_11]), rfl⟩
  by_cases t1_12 : c = 12
  · refine g_tableIn (off := 107) (tgt := 108) hF dX5_needOnStack_1 (by rw [t1_12]; decide) (by rw [t1_12]; decide) (by rw [t1_12]; rfl) (by decide) ?_
    refine g_iconst (v := (0)) hF dX5_needOnStack_108 rfl ?_
    exact g_iret hF hR dX5_needOnStack_109 ⟨(by simp [needI, t1_0, t1_1, t1_2, t1_3, t1_4, t1_5, t1_6, t1_7, t1_8, t1_9, t1_10, t1_11, t1_12]), rfl⟩
  by_cases t1_13 : c = 13
  · refine g_tableIn (off := 109) (tgt := 110) hF dX5_needOnStack_1 (by rw [t1_13]; decide) (by rw [t1_13]; decide) (by rw [t1_13]; rfl) (by decide) ?_
    refine g_iconst (v := (1)) hF dX5_needOnStack_110 rfl ?_
    exact g_iret hF hR dX5_needOnStack_111 ⟨(by simp [needI, t1_0, t1_1, t1_2, t1_3, t1_4, t1_5, t1_6, t1_7, t1_8, t1_9, t1_10, t1_11, t1_12, t1_13]), rfl⟩
  by_cases t1_14 : c = 14
  · refine g_tableIn (off := 109) (tgt := 110) hF dX5_needOnStack_1 (by rw [t1_14]; decide) (by rw [t1_14]; decide) (by rw [t1_14]; rfl) (by decide) ?_
    refine g_iconst (v := (1)) hF dX5_needOnStack_110 rfl ?_
    exact g_iret hF hR dX5_needOnStack_111 ⟨(by simp [needI, t1_0, t1_1, t1_2, t1_3, t1_4, t1_5, t1_6, t1_7, t1_8, t1_9, t1_10, t1_11, t1_12, t1_13, t1_14]), rfl⟩
  by_cases t1_15 : c = 15
  · refine g_tableIn (off := 111) (tgt := 112) hF dX5_needOnStack_1 (by rw [t1_15]; decide) (by rw [t1_15]; decide) (by rw [t1_15]; rfl) (by decide) ?_
    refine g_iconst (v := (2)) hF dX5_needOnStack_112 rfl ?_
    exact g_iret hF hR dX5_needOnStack_113 ⟨(by simp [needI, t1_0, t1_1, t1_2, t1_3, t1_4, t1_5, t1_6, t1_7, t1_8, t1_9, t1_10, t1_11, t1_12, t1_13, t1_14, t1_15]), rfl⟩
  by_cases t1_16 : c = 16
  · refine g_tableIn (off := 107) (tgt := 108) hF dX5_needOnStack_1 (by rw [t1_16]; decide) (by rw [t1_16]; decide) (by rw [t1_16]; rfl) (by decide) ?_
    refine g_iconst (v := (0)) hF dX5_needOnStack_108 rfl ?_
    exact g_iret hF hR dX5_needOnStack_109 ⟨(by simp [needI, t1_0, t1_1, t1_2, t1_3, t1_4, t1_5, t1_6, t1_7, t1_8, t1_9, t1_10, t1_11, t1_12, t1_13, t1_14, t1_15, t1_16]), rfl⟩
  by_cases t1_17 : c = 17
  · refine g_tableIn (off := 109) (tgt := 110) hF dX5_needOnStack_1 (by rw [t1_17]; decide) (by rw [t1_17]; decide) (by rw [t1_17]; rfl) (by decide) ?_
    refine g_iconst (v := (1)) hF dX5_needOnStack_110 rfl ?_
    exact g_iret hF hR dX5_needOnStack_111 ⟨(by simp [needI, t1_0, t1_1, t1_2, t1_3, t1_4, t1_5, t1_6, t1_7, t1_8, t1_9, t1_10, t1_11, t1_12, t1_13, t1_14, t1_15, t1_16, t1_17]), rfl⟩
  by_cases t1_18 : c = 18
  · refine g_tableIn (off := 107) (tgt := 108) hF dX5_needOnStack_1 (by rw [t1_18]; decide) (by rw [t1_18]; decide) (by rw [t1_18]; rfl) (by decide) ?_
    refine g_iconst (v := (0)) hF dX5_needOnStack_108 rfl ?_
    exact g_iret hF hR dX5_needOnStack_109 ⟨(by simp [needI, t1_0, t1_1, t1_2, t1_3, t1_4, t1_5, t1_6, t1_7, t1_8, t1_9, t1_10, t1_11, t1_12, t1_13, t1_14, t1_15, t1_16, t1_17, t1_18]), rfl⟩
  by_cases t1_19 : c = 19
  · refine g_tableIn (off := 107) (tgt := 108) hF dX5_needOnStack_1 (by rw [t1_19]; decide) (by rw [t1_19]; decide) (by rw [t1_19]; rfl) (by decide) ?_
    refine g_iconst (v := (0)) hF dX5_needOnStack_108 rfl ?_
    exact g_iret hF hR dX5_needOnStack_109 ⟨(by simp [needI, t1_0, t1_1, t1_2, t1_3, t1_4, t1_5, t1_6, t1_7, t1_8, t1_9, t1_10, t1_11, t1_12, t1_13, t1_14, t1_15, t1_16, t1_17, t1_18, t1_19]), rfl⟩
  by_cases t1_20 : c = 20
  · refine g_tableIn (off := 107) (tgt := 108) hF dX5_needOnStack_1 (by rw [t1_20]; decide) (by rw [t1_20]; decide) (by rw [t1_20]; rfl) (by decide) ?_
    refine g_iconst (v := (0)) hF dX5_needOnStack_108 rfl ?_
    exact g_iret hF hR dX5_needOnStack_109 ⟨(by simp [needI, t1_0, t1_1, t1_2, t1_3, t1_4, t1_5, t1_6, t1_7, t1_8, t1_9, t1_10, t1_11, t1_12, t1_13, t1_14, t1_15, t1_16, t1_17, t1_18, t1_19, t1_20]), rfl⟩
  by_cases t1_21 : c = 21
  · refine g_tableIn (off := 109) (tgt := 110) hF dX5_needOnStack_1 (by rw [t1_21]; decide) (by rw [t1_21]; decide) (by rw [t1_21]; rfl) (by decide) ?_
    refine g_iconst (v := (1)) hF dX5_needOnStack_110 rfl ?_
    exact g_iret hF hR dX5_needOnStack_111 ⟨(by simp [needI, t1_0, t1_1, t1_2, t1_3, t1_4, t1_5, t1_6, t1_7, t1_8, t1_9, t1_10, t1_11, t1_12, t1_13, t1_14, t1_15, t1_16, t1_17, t1_18, t1_19, t1_20, t1_21]), rfl⟩
  by_cases t1_22 : c = 22
  · refine g_tableIn (off := 107) (tgt := 108) hF dX5_needOnStack_1 (by rw [t1_22]; decide) (by rw [t1_22]; decide) (by rw [t1_22]; rfl) (by decide) ?_
    refine g_iconst (v := (0)) hF dX5_needOnStack_108 rfl ?_
    exact g_iret hF hR dX5_needOnStack_109 ⟨(by simp [needI, t1_0, t1_1, t1_2, t1_3, t1_4, t1_5, t1_6, t1_7, t1_8, t1_9, t1_10, t1_11, t1_12, t1_13, t1_14, t1_15, t1_16, t1_17, t1_18, t1_19, t1_20, t1_21, t1_22]), rfl⟩
  refine g_tableOut (tgt := 112) hF dX5_needOnStack_1 (by have z0 := lv_neT t1_0 (a := 0) rfl; have z1 := lv_neT t1_1 (a := 1) rfl; have z2 := lv_neT t1_2 (a := 2) rfl; have z3 := lv_neT t1_3 (a := 3) rfl; have z4 := lv_neT t1_4 (a := 4) rfl; have z5 := lv_neT t1_5 (a := 5) rfl; have z6 := lv_neT t1_6 (a := 6) rfl; have z7 := lv_neT t1_7 (a := 7) rfl; have z8 := lv_neT t1_8 (a := 8) rfl; have z9 := lv_neT t1_9 (a := 9) rfl; have z10 := lv_neT t1_10 (a := 10) rfl; have z11 := lv_neT t1_11 (a := 11) rfl; have z12 := lv_neT t1_12 (a := 12) rfl; have z13 := lv_neT t1_13 (a := 13) rfl; have z14 := lv_neT t1_14 (a := 14) rfl; have z15 := lv_neT t1_15 (a := 15) rfl; have z16 := lv_neT t1_16 (a := 16) rfl; have z17 := lv_neT t1_17 (a := 17) rfl; have z18 := lv_neT t1_18 (a := 18) rfl; have z19 := lv_neT t1_19 (a := 19) rfl; have z20 := lv_neT t1_20 (a := 20) rfl; have z21 := lv_neT t1_21 (a := 21) rfl; have z22 := lv_neT t1_22 (a := 22) rfl; omega) (by decide) ?_
  refine g_iconst (v := (2)) hF dX5_needOnStack_112 rfl ?_
  exact g_iret hF hR dX5_needOnStack_113 ⟨(by simp [needI, t1_0, t1_1, t1_2, t1_3, t1_4, t1_5, t1_6, t1_7, t1_8, t1_9, t1_10, t1_11, t1_12, t1_13, t1_14, t1_15, t1_16, t1_17, t1_18, t1_19, t1_20, t1_21, t1_22]), rfl⟩
set_option maxHeartbeats 4000000 in
set_option maxRecDepth 100000 in
theorem c_St_reckoned {E : Env3} {c x y : Int32} : Cd E none 1 yX5_reckoned cX5_reckoned 3 (some .int) [.int c, .int x, .int y] [] (some (.int (reckF c x y))) [] := by
  refine Ct.of [some (.int c), some (.int x), some (.int y)] (by decide +kernel) rfl (Nat.le_of_ble_eq_true rfl) (fun F hE hF hR hN => ?_)
  subst hE
  refine g_iload_n hF dX5_reckoned_0 rfl ?_
  by_cases t1_5 : c = 5
  · refine g_tableIn (off := 39) (tgt := 40) hF dX5_reckoned_1 (by rw [t1_5]; decide) (by rw [t1_5]; decide) (by rw [t1_5]; rfl) (by decide) ?_
    refine g_iload_n hF dX5_reckoned_40 rfl ?_
    refine g_iload_n hF dX5_reckoned_41 rfl ?_
    refine g_iadd hF dX5_reckoned_42 ?_
    exact g_iret hF hR dX5_reckoned_43 ⟨(by simp [reckF, bI, t1_5]), rfl⟩
  by_cases t1_6 : c = 6
  · refine g_tableIn (off := 43) (tgt := 44) hF dX5_reckoned_1 (by rw [t1_6]; decide) (by rw [t1_6]; decide) (by rw [t1_6]; rfl) (by decide) ?_
    refine g_iload_n hF dX5_reckoned_44 rfl ?_
    refine g_iload_n hF dX5_reckoned_45 rfl ?_
    refine g_isub hF dX5_reckoned_46 ?_
    exact g_iret hF hR dX5_reckoned_47 ⟨(by simp [reckF, bI, t1_5, t1_6]), rfl⟩
  by_cases t1_7 : c = 7
  · refine g_tableIn (off := 47) (tgt := 48) hF dX5_reckoned_1 (by rw [t1_7]; decide) (by rw [t1_7]; decide) (by rw [t1_7]; rfl) (by decide) ?_
    refine g_iload_n hF dX5_reckoned_48 rfl ?_
    refine g_iload_n hF dX5_reckoned_49 rfl ?_
    refine g_imul hF dX5_reckoned_50 ?_
    exact g_iret hF hR dX5_reckoned_51 ⟨(by simp [reckF, bI, t1_5, t1_6, t1_7]), rfl⟩
  by_cases t1_8 : c = 8
  · refine g_tableIn (off := 51) (tgt := 52) hF dX5_reckoned_1 (by rw [t1_8]; decide) (by rw [t1_8]; decide) (by rw [t1_8]; rfl) (by decide) ?_
    refine g_iload_n hF dX5_reckoned_52 rfl ?_
    refine g_if_ne (tgt := 60) hF dX5_reckoned_53 (by decide) (fun c_53 => ?_) (fun c_53 => ?_)
    · refine g_iload_n hF dX5_reckoned_60 rfl ?_
      refine g_iload_n hF dX5_reckoned_61 rfl ?_
      refine g_idiv hF dX5_reckoned_62 c_53 ?_
      exact g_iret hF hR dX5_reckoned_63 ⟨(by simp [reckF, bI, t1_5, t1_6, t1_7, t1_8, c_53]), rfl⟩
    · refine g_iconst (v := (0)) hF dX5_reckoned_56 rfl ?_
      refine g_goto (tgt := 63) hF dX5_reckoned_57 (by decide) ?_
      exact g_iret hF hR dX5_reckoned_63 ⟨(by simp [reckF, bI, t1_5, t1_6, t1_7, t1_8, c_53]), rfl⟩
  by_cases t1_9 : c = 9
  · refine g_tableIn (off := 63) (tgt := 64) hF dX5_reckoned_1 (by rw [t1_9]; decide) (by rw [t1_9]; decide) (by rw [t1_9]; rfl) (by decide) ?_
    refine g_iload_n hF dX5_reckoned_64 rfl ?_
    refine g_iload_n hF dX5_reckoned_65 rfl ?_
    refine g_icmp_ge (tgt := 73) hF dX5_reckoned_66 (by decide) (fun c_66 => ?_) (fun c_66 => ?_)
    · refine g_iconst (v := (0)) hF dX5_reckoned_73 rfl ?_
      refine g_callSNq hF (c_truth (b := false)) cal_X8_truth rfl m_530 (by decide) (Or.inl rfl) (Nat.zero_le _) (Nat.zero_le _) [] rfl rfl rfl (Nat.le_of_ble_eq_true rfl) dX5_reckoned_74 ?_
      exact g_iret hF hR dX5_reckoned_77 ⟨(by simp [reckF, bI, t1_5, t1_6, t1_7, t1_8, t1_9, c_66]), rfl⟩
    · refine g_iconst (v := (1)) hF dX5_reckoned_69 rfl ?_
      refine g_goto (tgt := 74) hF dX5_reckoned_70 (by decide) ?_
      refine g_callSNq hF (c_truth (b := true)) cal_X8_truth rfl m_530 (by decide) (Or.inl rfl) (Nat.zero_le _) (Nat.zero_le _) [] rfl rfl rfl (Nat.le_of_ble_eq_true rfl) dX5_reckoned_74 ?_
      exact g_iret hF hR dX5_reckoned_77 ⟨(by simp [reckF, bI, t1_5, t1_6, t1_7, t1_8, t1_9, c_66]), rfl⟩
  by_cases t1_10 : c = 10
  · refine g_tableIn (off := 77) (tgt := 78) hF dX5_reckoned_1 (by rw [t1_10]; decide) (by rw [t1_10]; decide) (by rw [t1_10]; rfl) (by decide) ?_
    refine g_iload_n hF dX5_reckoned_78 rfl ?_
    refine g_iload_n hF dX5_reckoned_79 rfl ?_
    refine g_icmp_ne (tgt := 87) hF dX5_reckoned_80 (by decide) (fun c_80 => ?_) (fun c_80 => ?_)
    · refine g_iconst (v := (0)) hF dX5_reckoned_87 rfl ?_
      refine g_callSNq hF (c_truth (b := false)) cal_X8_truth rfl m_530 (by decide) (Or.inl rfl) (Nat.zero_le _) (Nat.zero_le _) [] rfl rfl rfl (Nat.le_of_ble_eq_true rfl) dX5_reckoned_88 ?_
      exact g_iret hF hR dX5_reckoned_91 ⟨(by simp [reckF, bI, t1_5, t1_6, t1_7, t1_8, t1_9, t1_10, c_80]), rfl⟩
    · refine g_iconst (v := (1)) hF dX5_reckoned_83 rfl ?_
      refine g_goto (tgt := 88) hF dX5_reckoned_84 (by decide) ?_
      refine g_callSNq hF (c_truth (b := true)) cal_X8_truth rfl m_530 (by decide) (Or.inl rfl) (Nat.zero_le _) (Nat.zero_le _) [] rfl rfl rfl (Nat.le_of_ble_eq_true rfl) dX5_reckoned_88 ?_
      exact g_iret hF hR dX5_reckoned_91 ⟨(by simp [reckF, bI, t1_5, t1_6, t1_7, t1_8, t1_9, t1_10, c_80]), rfl⟩
  refine g_tableOut (tgt := 92) hF dX5_reckoned_1 (by have z0 := lv_neT t1_5 (a := 5) rfl; have z1 := lv_neT t1_6 (a := 6) rfl; have z2 := lv_neT t1_7 (a := 7) rfl; have z3 := lv_neT t1_8 (a := 8) rfl; have z4 := lv_neT t1_9 (a := 9) rfl; have z5 := lv_neT t1_10 (a := 10) rfl; omega) (by decide) ?_
  refine g_iconst (v := (0)) hF dX5_reckoned_92 rfl ?_
  exact g_iret hF hR dX5_reckoned_93 ⟨(by simp [reckF, bI, t1_5, t1_6, t1_7, t1_8, t1_9, t1_10]), rfl⟩
set_option maxHeartbeats 4000000 in
set_option maxRecDepth 100000 in
theorem c_St_isTooFullFor {E : Env3} {h r1 r2 r3 r4 : Nat} {at' status rd ck : Int32} {a1 n1 : Nat} {f1 : Nat → Int32} {a3 n3 : Nat} {f3 : Nat → Int32} {a4 n4 : Nat} {f4 : Nat → Int32} {c : Int32} (h1 : n1 ≤ 24) (h3 : n3 ≤ 8) (h4 : n4 ≤ 30)  : Cd E none 1 yX5_isTooFullFor cX5_isTooFullFor 2 (some .boolean) [.ref h, .int c] [stO h r1 r2 r3 r4 at' status rd ck, rowW E.2.2 r1 a1 24 f1 n1, rowW E.2.2 r3 a3 8 f3 n3, rowW E.2.2 r4 a4 30 f4 n4] (some (.int (bI (fullB c n1 n3 n4)))) [stO h r1 r2 r3 r4 at' status rd ck, rowW E.2.2 r1 a1 24 f1 n1, rowW E.2.2 r3 a3 8 f3 n3, rowW E.2.2 r4 a4 30 f4 n4] := by
  refine Ct.of [some (.ref h), some (.int c)] (by decide +kernel) rfl (Nat.le_of_ble_eq_true rfl) (fun F hE hF hR hN => ?_)
  subst hE
  refine g_iload_n hF dX5_isTooFullFor_0 rfl ?_
  by_cases t1_0 : c = 0
  · refine g_tableIn (off := 103) (tgt := 104) hF dX5_isTooFullFor_1 (by rw [t1_0]; decide) (by rw [t1_0]; decide) (by rw [t1_0]; rfl) (by decide) ?_
    refine g_aload_n hF dX5_isTooFullFor_104 rfl ?_
    refine g_get (j := 0) hF 0 rfl rfl (by decide) rfl m_73 rfl dX5_isTooFullFor_105 ?_
    refine g_callVq hF (c_Row_isFull (by first | omega | exact clampI_le | (split <;> omega)) (by omega)) cal_X4_isFull rfl m_495 (by decide) (Or.inl rfl) (Nat.zero_le _) (Nat.zero_le _) 1 rfl rfl [1] rfl rfl rfl (Nat.le_of_ble_eq_true rfl) dX5_isTooFullFor_108 ?_
    exact g_zret hF hR dX5_isTooFullFor_111 (nar_bI _) ⟨(by simp [fullB, t1_0]), rfl⟩
  by_cases t1_1 : c = 1
  · refine g_tableIn (off := 127) (tgt := 128) hF dX5_isTooFullFor_1 (by rw [t1_1]; decide) (by rw [t1_1]; decide) (by rw [t1_1]; rfl) (by decide) ?_
    refine g_iconst (v := (0)) hF dX5_isTooFullFor_128 rfl ?_
    exact g_zret hF hR dX5_isTooFullFor_129 rfl ⟨(by simp [fullB, bI, t1_0, t1_1]), rfl⟩
  by_cases t1_2 : c = 2
  · refine g_tableIn (off := 103) (tgt := 104) hF dX5_isTooFullFor_1 (by rw [t1_2]; decide) (by rw [t1_2]; decide) (by rw [t1_2]; rfl) (by decide) ?_
    refine g_aload_n hF dX5_isTooFullFor_104 rfl ?_
    refine g_get (j := 0) hF 0 rfl rfl (by decide) rfl m_73 rfl dX5_isTooFullFor_105 ?_
    refine g_callVq hF (c_Row_isFull (by first | omega | exact clampI_le | (split <;> omega)) (by omega)) cal_X4_isFull rfl m_495 (by decide) (Or.inl rfl) (Nat.zero_le _) (Nat.zero_le _) 1 rfl rfl [1] rfl rfl rfl (Nat.le_of_ble_eq_true rfl) dX5_isTooFullFor_108 ?_
    exact g_zret hF hR dX5_isTooFullFor_111 (nar_bI _) ⟨(by simp [fullB, t1_0, t1_1, t1_2]), rfl⟩
  by_cases t1_3 : c = 3
  · refine g_tableIn (off := 127) (tgt := 128) hF dX5_isTooFullFor_1 (by rw [t1_3]; decide) (by rw [t1_3]; decide) (by rw [t1_3]; rfl) (by decide) ?_
    refine g_iconst (v := (0)) hF dX5_isTooFullFor_128 rfl ?_
    exact g_zret hF hR dX5_isTooFullFor_129 rfl ⟨(by simp [fullB, bI, t1_0, t1_1, t1_2, t1_3]), rfl⟩
  by_cases t1_4 : c = 4
  · refine g_tableIn (off := 103) (tgt := 104) hF dX5_isTooFullFor_1 (by rw [t1_4]; decide) (by rw [t1_4]; decide) (by rw [t1_4]; rfl) (by decide) ?_
    refine g_aload_n hF dX5_isTooFullFor_104 rfl ?_
    refine g_get (j := 0) hF 0 rfl rfl (by decide) rfl m_73 rfl dX5_isTooFullFor_105 ?_
    refine g_callVq hF (c_Row_isFull (by first | omega | exact clampI_le | (split <;> omega)) (by omega)) cal_X4_isFull rfl m_495 (by decide) (Or.inl rfl) (Nat.zero_le _) (Nat.zero_le _) 1 rfl rfl [1] rfl rfl rfl (Nat.le_of_ble_eq_true rfl) dX5_isTooFullFor_108 ?_
    exact g_zret hF hR dX5_isTooFullFor_111 (nar_bI _) ⟨(by simp [fullB, t1_0, t1_1, t1_2, t1_3, t1_4]), rfl⟩
  by_cases t1_5 : c = 5
  · refine g_tableIn (off := 127) (tgt := 128) hF dX5_isTooFullFor_1 (by rw [t1_5]; decide) (by rw [t1_5]; decide) (by rw [t1_5]; rfl) (by decide) ?_
    refine g_iconst (v := (0)) hF dX5_isTooFullFor_128 rfl ?_
    exact g_zret hF hR dX5_isTooFullFor_129 rfl ⟨(by simp [fullB, bI, t1_0, t1_1, t1_2, t1_3, t1_4, t1_5]), rfl⟩
  by_cases t1_6 : c = 6
  · refine g_tableIn (off := 127) (tgt := 128) hF dX5_isTooFullFor_1 (by rw [t1_6]; decide) (by rw [t1_6]; decide) (by rw [t1_6]; rfl) (by decide) ?_
    refine g_iconst (v := (0)) hF dX5_isTooFullFor_128 rfl ?_
    exact g_zret hF hR dX5_isTooFullFor_129 rfl ⟨(by simp [fullB, bI, t1_0, t1_1, t1_2, t1_3, t1_4, t1_5, t1_6]), rfl⟩
  by_cases t1_7 : c = 7
  · refine g_tableIn (off := 127) (tgt := 128) hF dX5_isTooFullFor_1 (by rw [t1_7]; decide) (by rw [t1_7]; decide) (by rw [t1_7]; rfl) (by decide) ?_
    refine g_iconst (v := (0)) hF dX5_isTooFullFor_128 rfl ?_
    exact g_zret hF hR dX5_isTooFullFor_129 rfl ⟨(by simp [fullB, bI, t1_0, t1_1, t1_2, t1_3, t1_4, t1_5, t1_6, t1_7]), rfl⟩
  by_cases t1_8 : c = 8
  · refine g_tableIn (off := 127) (tgt := 128) hF dX5_isTooFullFor_1 (by rw [t1_8]; decide) (by rw [t1_8]; decide) (by rw [t1_8]; rfl) (by decide) ?_
    refine g_iconst (v := (0)) hF dX5_isTooFullFor_128 rfl ?_
    exact g_zret hF hR dX5_isTooFullFor_129 rfl ⟨(by simp [fullB, bI, t1_0, t1_1, t1_2, t1_3, t1_4, t1_5, t1_6, t1_7, t1_8]), rfl⟩
  by_cases t1_9 : c = 9
  · refine g_tableIn (off := 127) (tgt := 128) hF dX5_isTooFullFor_1 (by rw [t1_9]; decide) (by rw [t1_9]; decide) (by rw [t1_9]; rfl) (by decide) ?_
    refine g_iconst (v := (0)) hF dX5_isTooFullFor_128 rfl ?_
    exact g_zret hF hR dX5_isTooFullFor_129 rfl ⟨(by simp [fullB, bI, t1_0, t1_1, t1_2, t1_3, t1_4, t1_5, t1_6, t1_7, t1_8, t1_9]), rfl⟩
  by_cases t1_10 : c = 10
  · refine g_tableIn (off := 127) (tgt := 128) hF dX5_isTooFullFor_1 (by rw [t1_10]; decide) (by rw [t1_10]; decide) (by rw [t1_10]; rfl) (by decide) ?_
    refine g_iconst (v := (0)) hF dX5_isTooFullFor_128 rfl ?_
    exact g_zret hF hR dX5_isTooFullFor_129 rfl ⟨(by simp [fullB, bI, t1_0, t1_1, t1_2, t1_3, t1_4, t1_5, t1_6, t1_7, t1_8, t1_9, t1_10]), rfl⟩
  by_cases t1_11 : c = 11
  · refine g_tableIn (off := 127) (tgt := 128) hF dX5_isTooFullFor_1 (by rw [t1_11]; decide) (by rw [t1_11]; decide) (by rw [t1_11]; rfl) (by decide) ?_
    refine g_iconst (v := (0)) hF dX5_isTooFullFor_128 rfl ?_
    exact g_zret hF hR dX5_isTooFullFor_129 rfl ⟨(by simp [fullB, bI, t1_0, t1_1, t1_2, t1_3, t1_4, t1_5, t1_6, t1_7, t1_8, t1_9, t1_10, t1_11]), rfl⟩
  by_cases t1_12 : c = 12
  · refine g_tableIn (off := 103) (tgt := 104) hF dX5_isTooFullFor_1 (by rw [t1_12]; decide) (by rw [t1_12]; decide) (by rw [t1_12]; rfl) (by decide) ?_
    refine g_aload_n hF dX5_isTooFullFor_104 rfl ?_
    refine g_get (j := 0) hF 0 rfl rfl (by decide) rfl m_73 rfl dX5_isTooFullFor_105 ?_
    refine g_callVq hF (c_Row_isFull (by first | omega | exact clampI_le | (split <;> omega)) (by omega)) cal_X4_isFull rfl m_495 (by decide) (Or.inl rfl) (Nat.zero_le _) (Nat.zero_le _) 1 rfl rfl [1] rfl rfl rfl (Nat.le_of_ble_eq_true rfl) dX5_isTooFullFor_108 ?_
    exact g_zret hF hR dX5_isTooFullFor_111 (nar_bI _) ⟨(by simp [fullB, t1_0, t1_1, t1_2, t1_3, t1_4, t1_5, t1_6, t1_7, t1_8, t1_9, t1_10, t1_11, t1_12]), rfl⟩
  by_cases t1_13 : c = 13
  · refine g_tableIn (off := 127) (tgt := 128) hF dX5_isTooFullFor_1 (by rw [t1_13]; decide) (by rw [t1_13]; decide) (by rw [t1_13]; rfl) (by decide) ?_
    refine g_iconst (v := (0)) hF dX5_isTooFullFor_128 rfl ?_
    exact g_zret hF hR dX5_isTooFullFor_129 rfl ⟨(by simp [fullB, bI, t1_0, t1_1, t1_2, t1_3, t1_4, t1_5, t1_6, t1_7, t1_8, t1_9, t1_10, t1_11, t1_12, t1_13]), rfl⟩
  by_cases t1_14 : c = 14
  · refine g_tableIn (off := 127) (tgt := 128) hF dX5_isTooFullFor_1 (by rw [t1_14]; decide) (by rw [t1_14]; decide) (by rw [t1_14]; rfl) (by decide) ?_
    refine g_iconst (v := (0)) hF dX5_isTooFullFor_128 rfl ?_
    exact g_zret hF hR dX5_isTooFullFor_129 rfl ⟨(by simp [fullB, bI, t1_0, t1_1, t1_2, t1_3, t1_4, t1_5, t1_6, t1_7, t1_8, t1_9, t1_10, t1_11, t1_12, t1_13, t1_14]), rfl⟩
  by_cases t1_15 : c = 15
  · refine g_tableIn (off := 127) (tgt := 128) hF dX5_isTooFullFor_1 (by rw [t1_15]; decide) (by rw [t1_15]; decide) (by rw [t1_15]; rfl) (by decide) ?_
    refine g_iconst (v := (0)) hF dX5_isTooFullFor_128 rfl ?_
    exact g_zret hF hR dX5_isTooFullFor_129 rfl ⟨(by simp [fullB, bI, t1_0, t1_1, t1_2, t1_3, t1_4, t1_5, t1_6, t1_7, t1_8, t1_9, t1_10, t1_11, t1_12, t1_13, t1_14, t1_15]), rfl⟩
  by_cases t1_16 : c = 16
  · refine g_tableIn (off := 127) (tgt := 128) hF dX5_isTooFullFor_1 (by rw [t1_16]; decide) (by rw [t1_16]; decide) (by rw [t1_16]; rfl) (by decide) ?_
    refine g_iconst (v := (0)) hF dX5_isTooFullFor_128 rfl ?_
    exact g_zret hF hR dX5_isTooFullFor_129 rfl ⟨(by simp [fullB, bI, t1_0, t1_1, t1_2, t1_3, t1_4, t1_5, t1_6, t1_7, t1_8, t1_9, t1_10, t1_11, t1_12, t1_13, t1_14, t1_15, t1_16]), rfl⟩
  by_cases t1_17 : c = 17
  · refine g_tableIn (off := 127) (tgt := 128) hF dX5_isTooFullFor_1 (by rw [t1_17]; decide) (by rw [t1_17]; decide) (by rw [t1_17]; rfl) (by decide) ?_
    refine g_iconst (v := (0)) hF dX5_isTooFullFor_128 rfl ?_
    exact g_zret hF hR dX5_isTooFullFor_129 rfl ⟨(by simp [fullB, bI, t1_0, t1_1, t1_2, t1_3, t1_4, t1_5, t1_6, t1_7, t1_8, t1_9, t1_10, t1_11, t1_12, t1_13, t1_14, t1_15, t1_16, t1_17]), rfl⟩
  by_cases t1_18 : c = 18
  · refine g_tableIn (off := 111) (tgt := 112) hF dX5_isTooFullFor_1 (by rw [t1_18]; decide) (by rw [t1_18]; decide) (by rw [t1_18]; rfl) (by decide) ?_
    refine g_aload_n hF dX5_isTooFullFor_112 rfl ?_
    refine g_get (j := 2) hF 0 rfl rfl (by decide) rfl m_78 rfl dX5_isTooFullFor_113 ?_
    refine g_callVq hF (c_Row_isFull (by first | omega | exact clampI_le | (split <;> omega)) (by omega)) cal_X4_isFull rfl m_495 (by decide) (Or.inl rfl) (Nat.zero_le _) (Nat.zero_le _) 2 rfl rfl [2] rfl rfl rfl (Nat.le_of_ble_eq_true rfl) dX5_isTooFullFor_116 ?_
    exact g_zret hF hR dX5_isTooFullFor_119 (nar_bI _) ⟨(by simp [fullB, t1_0, t1_1, t1_2, t1_3, t1_4, t1_5, t1_6, t1_7, t1_8, t1_9, t1_10, t1_11, t1_12, t1_13, t1_14, t1_15, t1_16, t1_17, t1_18]), rfl⟩
  by_cases t1_19 : c = 19
  · refine g_tableIn (off := 127) (tgt := 128) hF dX5_isTooFullFor_1 (by rw [t1_19]; decide) (by rw [t1_19]; decide) (by rw [t1_19]; rfl) (by decide) ?_
    refine g_iconst (v := (0)) hF dX5_isTooFullFor_128 rfl ?_
    exact g_zret hF hR dX5_isTooFullFor_129 rfl ⟨(by simp [fullB, bI, t1_0, t1_1, t1_2, t1_3, t1_4, t1_5, t1_6, t1_7, t1_8, t1_9, t1_10, t1_11, t1_12, t1_13, t1_14, t1_15, t1_16, t1_17, t1_18, t1_19]), rfl⟩
  by_cases t1_20 : c = 20
  · refine g_tableIn (off := 103) (tgt := 104) hF dX5_isTooFullFor_1 (by rw [t1_20]; decide) (by rw [t1_20]; decide) (by rw [t1_20]; rfl) (by decide) ?_
    refine g_aload_n hF dX5_isTooFullFor_104 rfl ?_
    refine g_get (j := 0) hF 0 rfl rfl (by decide) rfl m_73 rfl dX5_isTooFullFor_105 ?_
    refine g_callVq hF (c_Row_isFull (by first | omega | exact clampI_le | (split <;> omega)) (by omega)) cal_X4_isFull rfl m_495 (by decide) (Or.inl rfl) (Nat.zero_le _) (Nat.zero_le _) 1 rfl rfl [1] rfl rfl rfl (Nat.le_of_ble_eq_true rfl) dX5_isTooFullFor_108 ?_
    exact g_zret hF hR dX5_isTooFullFor_111 (nar_bI _) ⟨(by simp [fullB, t1_0, t1_1, t1_2, t1_3, t1_4, t1_5, t1_6, t1_7, t1_8, t1_9, t1_10, t1_11, t1_12, t1_13, t1_14, t1_15, t1_16, t1_17, t1_18, t1_19, t1_20]), rfl⟩
  by_cases t1_21 : c = 21
  · refine g_tableIn (off := 119) (tgt := 120) hF dX5_isTooFullFor_1 (by rw [t1_21]; decide) (by rw [t1_21]; decide) (by rw [t1_21]; rfl) (by decide) ?_
    refine g_aload_n hF dX5_isTooFullFor_120 rfl ?_
    refine g_get (j := 3) hF 0 rfl rfl (by decide) rfl m_80 rfl dX5_isTooFullFor_121 ?_
    refine g_callVq hF (c_Row_isFull (by first | omega | exact clampI_le | (split <;> omega)) (by omega)) cal_X4_isFull rfl m_495 (by decide) (Or.inl rfl) (Nat.zero_le _) (Nat.zero_le _) 3 rfl rfl [3] rfl rfl rfl (Nat.le_of_ble_eq_true rfl) dX5_isTooFullFor_124 ?_
    exact g_zret hF hR dX5_isTooFullFor_127 (nar_bI _) ⟨(by simp [fullB, t1_0, t1_1, t1_2, t1_3, t1_4, t1_5, t1_6, t1_7, t1_8, t1_9, t1_10, t1_11, t1_12, t1_13, t1_14, t1_15, t1_16, t1_17, t1_18, t1_19, t1_20, t1_21]), rfl⟩
  refine g_tableOut (tgt := 128) hF dX5_isTooFullFor_1 (by have z0 := lv_neT t1_0 (a := 0) rfl; have z1 := lv_neT t1_1 (a := 1) rfl; have z2 := lv_neT t1_2 (a := 2) rfl; have z3 := lv_neT t1_3 (a := 3) rfl; have z4 := lv_neT t1_4 (a := 4) rfl; have z5 := lv_neT t1_5 (a := 5) rfl; have z6 := lv_neT t1_6 (a := 6) rfl; have z7 := lv_neT t1_7 (a := 7) rfl; have z8 := lv_neT t1_8 (a := 8) rfl; have z9 := lv_neT t1_9 (a := 9) rfl; have z10 := lv_neT t1_10 (a := 10) rfl; have z11 := lv_neT t1_11 (a := 11) rfl; have z12 := lv_neT t1_12 (a := 12) rfl; have z13 := lv_neT t1_13 (a := 13) rfl; have z14 := lv_neT t1_14 (a := 14) rfl; have z15 := lv_neT t1_15 (a := 15) rfl; have z16 := lv_neT t1_16 (a := 16) rfl; have z17 := lv_neT t1_17 (a := 17) rfl; have z18 := lv_neT t1_18 (a := 18) rfl; have z19 := lv_neT t1_19 (a := 19) rfl; have z20 := lv_neT t1_20 (a := 20) rfl; have z21 := lv_neT t1_21 (a := 21) rfl; omega) (by decide) ?_
  refine g_iconst (v := (0)) hF dX5_isTooFullFor_128 rfl ?_
  exact g_zret hF hR dX5_isTooFullFor_129 rfl ⟨(by simp [fullB, bI, t1_0, t1_1, t1_2, t1_3, t1_4, t1_5, t1_6, t1_7, t1_8, t1_9, t1_10, t1_11, t1_12, t1_13, t1_14, t1_15, t1_16, t1_17, t1_18, t1_19, t1_20, t1_21]), rfl⟩
set_option maxHeartbeats 4000000 in
set_option maxRecDepth 100000 in
theorem c_St_swap {E : Env3} {h r1 r2 r3 r4 : Nat} {at' status rd ck : Int32} {a1 n1 : Nat} {f1 : Nat → Int32} (h1 : n1 ≤ 24)  : Cd E none 1 yX5_swap cX5_swap 3 none [.ref h] [stO h r1 r2 r3 r4 at' status rd ck, rowW E.2.2 r1 a1 24 f1 n1] none [stO h r1 r2 r3 r4 at' status rd ck, rowW E.2.2 r1 a1 24 (swapR (f1, n1)).1 (swapR (f1, n1)).2] := by
  refine Ct.of [some (.ref h), none, none] (by decide +kernel) rfl (Nat.le_of_ble_eq_true rfl) (fun F hE hF hR hN => ?_)
  subst hE
  refine g_aload_n hF dX5_swap_0 rfl ?_
  refine g_get (j := 0) hF 0 rfl rfl (by decide) rfl m_73 rfl dX5_swap_1 ?_
  refine g_callVd hF (c_Row_pop (by first | omega | exact clampI_le | (split <;> omega)) (by omega)) cal_X4_pop rfl m_522 (by decide) (Or.inl rfl) (Nat.zero_le _) (Nat.zero_le _) 1 rfl rfl [1] rfl rfl (Nat.le_of_ble_eq_true rfl) rfl (Nat.le_of_ble_eq_true rfl) dX5_swap_4 ?_
  try dsimp only [gput, gputA, List.set, stGs, List.cons_append, List.nil_append]
  refine g_istore_n hF dX5_swap_7 (Nat.le_of_ble_eq_true rfl) rfl ?_
  refine g_aload_n hF dX5_swap_8 rfl ?_
  refine g_get (j := 0) hF 0 rfl rfl (by decide) rfl m_73 rfl dX5_swap_9 ?_
  refine g_callVd hF (c_Row_pop (by first | omega | exact clampI_le | (split <;> omega)) (by omega)) cal_X4_pop rfl m_522 (by decide) (Or.inl rfl) (Nat.zero_le _) (Nat.zero_le _) 1 rfl rfl [1] rfl rfl (Nat.le_of_ble_eq_true rfl) rfl (Nat.le_of_ble_eq_true rfl) dX5_swap_12 ?_
  try dsimp only [gput, gputA, List.set, stGs, List.cons_append, List.nil_append]
  refine g_istore_n hF dX5_swap_15 (Nat.le_of_ble_eq_true rfl) rfl ?_
  refine g_aload_n hF dX5_swap_16 rfl ?_
  refine g_get (j := 0) hF 0 rfl rfl (by decide) rfl m_73 rfl dX5_swap_17 ?_
  refine g_iload_n hF dX5_swap_20 rfl ?_
  refine g_callVd hF (c_Row_push (by first | omega | exact clampI_le | (split <;> omega)) (by omega)) cal_X4_push rfl m_521 (by decide) (Or.inl rfl) (Nat.zero_le _) (Nat.zero_le _) 1 rfl rfl [1] rfl rfl (Nat.le_of_ble_eq_true rfl) rfl (Nat.le_of_ble_eq_true rfl) dX5_swap_21 ?_
  try dsimp only [gput, gputA, List.set, stGs, List.cons_append, List.nil_append]
  refine g_aload_n hF dX5_swap_24 rfl ?_
  refine g_get (j := 0) hF 0 rfl rfl (by decide) rfl m_73 rfl dX5_swap_25 ?_
  refine g_iload_n hF dX5_swap_28 rfl ?_
  refine g_callVd hF (c_Row_push (by first | omega | exact clampI_le | (split <;> omega)) (by omega)) cal_X4_push rfl m_521 (by decide) (Or.inl rfl) (Nat.zero_le _) (Nat.zero_le _) 1 rfl rfl [1] rfl rfl (Nat.le_of_ble_eq_true rfl) rfl (Nat.le_of_ble_eq_true rfl) dX5_swap_29 ?_
  try dsimp only [gput, gputA, List.set, stGs, List.cons_append, List.nil_append]
  exact g_vret hF hR dX5_swap_32 ⟨rfl, rfl⟩
set_option maxHeartbeats 4000000 in
set_option maxRecDepth 100000 in
theorem c_St_storeAt {E : Env3} {h r1 r2 r3 r4 : Nat} {at' status rd ck : Int32} {a1 n1 : Nat} {f1 : Nat → Int32} {a2 n2 : Nat} {f2 : Nat → Int32} (h1 : n1 ≤ 24) (h2 : n2 ≤ 12)  : Cd E none 1 yX5_storeAt cX5_storeAt 2 none [.ref h] [stO h r1 r2 r3 r4 at' status rd ck, rowW E.2.2 r1 a1 24 f1 n1, rowW E.2.2 r2 a2 12 f2 n2] none [stO h r1 r2 r3 r4 at' status rd ck, rowW E.2.2 r1 a1 24 (popR (popR (f1, n1))).1 (popR (popR (f1, n1))).2, rowW E.2.2 r2 a2 12 (putR (f2, n2) (popV (f1, n1)) (popV (popR (f1, n1)))).1 (putR (f2, n2) (popV (f1, n1)) (popV (popR (f1, n1)))).2] := by
  refine Ct.of [some (.ref h), none] (by decide +kernel) rfl (Nat.le_of_ble_eq_true rfl) (fun F hE hF hR hN => ?_)
  subst hE
  refine g_aload_n hF dX5_storeAt_0 rfl ?_
  refine g_get (j := 0) hF 0 rfl rfl (by decide) rfl m_73 rfl dX5_storeAt_1 ?_
  refine g_callVd hF (c_Row_pop (by first | omega | exact clampI_le | (split <;> omega)) (by omega)) cal_X4_pop rfl m_522 (by decide) (Or.inl rfl) (Nat.zero_le _) (Nat.zero_le _) 1 rfl rfl [1] rfl rfl (Nat.le_of_ble_eq_true rfl) rfl (Nat.le_of_ble_eq_true rfl) dX5_storeAt_4 ?_
  try dsimp only [gput, gputA, List.set, stGs, List.cons_append, List.nil_append]
  refine g_istore_n hF dX5_storeAt_7 (Nat.le_of_ble_eq_true rfl) rfl ?_
  refine g_aload_n hF dX5_storeAt_8 rfl ?_
  refine g_get (j := 1) hF 0 rfl rfl (by decide) rfl m_75 rfl dX5_storeAt_9 ?_
  refine g_iload_n hF dX5_storeAt_12 rfl ?_
  refine g_aload_n hF dX5_storeAt_13 rfl ?_
  refine g_get (j := 0) hF 0 rfl rfl (by decide) rfl m_73 rfl dX5_storeAt_14 ?_
  refine g_callVd hF (c_Row_pop (by first | omega | exact clampI_le | (split <;> omega)) (by omega)) cal_X4_pop rfl m_522 (by decide) (Or.inl rfl) (Nat.zero_le _) (Nat.zero_le _) 1 rfl rfl [1] rfl rfl (Nat.le_of_ble_eq_true rfl) rfl (Nat.le_of_ble_eq_true rfl) dX5_storeAt_17 ?_
  try dsimp only [gput, gputA, List.set, stGs, List.cons_append, List.nil_append]
  refine g_callVd hF (c_Row_put (by first | omega | exact clampI_le | (split <;> omega)) (by omega)) cal_X4_put rfl m_533 (by decide) (Or.inl rfl) (Nat.zero_le _) (Nat.zero_le _) 2 rfl rfl [2] rfl rfl (Nat.le_of_ble_eq_true rfl) rfl (Nat.le_of_ble_eq_true rfl) dX5_storeAt_20 ?_
  try dsimp only [gput, gputA, List.set, stGs, List.cons_append, List.nil_append]
  exact g_vret hF hR dX5_storeAt_23 ⟨rfl, rfl⟩
set_option maxHeartbeats 4000000 in
set_option maxRecDepth 100000 in
theorem c_St_readFrom {E : Env3} {h r1 r2 r3 r4 : Nat} {at' status rd ck : Int32} {ri ai ni : Nat} {fi : Nat → Int32} (hi : ni ≤ 20)  : Cd E none 1 yX5_readFrom cX5_readFrom 2 (some .int) [.ref h, .ref ri] [stO h r1 r2 r3 r4 at' status rd ck, rowW E.2.2 ri ai 20 fi ni] (some (.int (if rowHas ni rd = false then 0 else getR (fi, ni) (rd + 1 - 1)))) [stO h r1 r2 r3 r4 at' status (if rowHas ni rd = false then rd else rd + 1) ck, rowW E.2.2 ri ai 20 fi ni] := by
  refine Ct.of [some (.ref h), some (.ref ri)] (by decide +kernel) rfl (Nat.le_of_ble_eq_true rfl) (fun F hE hF hR hN => ?_)
  subst hE
  refine g_aload_n hF dX5_readFrom_0 rfl ?_
  refine g_aload_n hF dX5_readFrom_1 rfl ?_
  refine g_get (j := 6) hF 0 rfl rfl (by decide) rfl m_88 rfl dX5_readFrom_2 ?_
  refine g_callVq hF (c_Row_has) cal_X4_has rfl m_542 (by decide) (Or.inl rfl) (Nat.zero_le _) (Nat.zero_le _) 1 rfl rfl [1] rfl rfl rfl (Nat.le_of_ble_eq_true rfl) dX5_readFrom_5 ?_
  refine g_if_ne (tgt := 13) hF dX5_readFrom_8 (by decide) (fun c_8 => ?_) (fun c_8 => ?_)
  · refine g_aload_n hF dX5_readFrom_13 rfl ?_
    refine g_dup hF dX5_readFrom_14 rfl ?_
    refine g_get (j := 6) hF 0 rfl rfl (by decide) rfl m_88 rfl dX5_readFrom_15 ?_
    refine g_iconst (v := (1)) hF dX5_readFrom_18 rfl ?_
    refine g_iadd hF dX5_readFrom_19 ?_
    refine g_put (j := 6) hF 0 rfl rfl (by decide) rfl m_88 rfl (tyX5_ok 6 (by decide)) rfl rfl (Nat.le_of_ble_eq_true rfl) dX5_readFrom_20 ?_
    try dsimp only [gput, gputA, List.set, stGs, List.cons_append, List.nil_append]
    refine g_aload_n hF dX5_readFrom_23 rfl ?_
    refine g_aload_n hF dX5_readFrom_24 rfl ?_
    refine g_get (j := 6) hF 0 rfl rfl (by decide) rfl m_88 rfl dX5_readFrom_25 ?_
    refine g_iconst (v := (1)) hF dX5_readFrom_28 rfl ?_
    refine g_isub hF dX5_readFrom_29 ?_
    refine g_callVq hF (c_Row_get (by first | omega | exact clampI_le | (split <;> omega)) (by omega)) cal_X4_get rfl m_512 (by decide) (Or.inl rfl) (Nat.zero_le _) (Nat.zero_le _) 1 rfl rfl [1] rfl rfl rfl (Nat.le_of_ble_eq_true rfl) dX5_readFrom_30 ?_
    refine g_regroup (gs' := [stO h r1 r2 r3 r4 at' status (if rowHas ni rd = false then rd else rd + 1) ck, rowW F.1.2.2 ri ai 20 fi ni]) (by rw [if_neg (by rw [bI_n.mp c_8]; decide)] <;> rfl) ?_
    exact g_iret hF hR dX5_readFrom_33 ⟨(by simp [getR, bI_n.mp c_8]), rfl⟩
  · refine g_iconst (v := (0)) hF dX5_readFrom_11 rfl ?_
    refine g_regroup (gs' := [stO h r1 r2 r3 r4 at' status (if rowHas ni rd = false then rd else rd + 1) ck, rowW F.1.2.2 ri ai 20 fi ni]) (by rw [if_pos (bI_0.mp c_8)] <;> rfl) ?_
    exact g_iret hF hR dX5_readFrom_12 ⟨(by simp [getR, bI_0.mp c_8]), rfl⟩
set_option maxHeartbeats 4000000 in
set_option maxRecDepth 100000 in
theorem c_St_reckon {E : Env3} {h r1 r2 r3 r4 : Nat} {at' status rd ck : Int32} {a1 n1 : Nat} {f1 : Nat → Int32} {c : Int32} (h1 : n1 ≤ 24)  : Cd E none 2 yX5_reckon cX5_reckon 4 none [.ref h, .int c] [stO h r1 r2 r3 r4 at' status rd ck, rowW E.2.2 r1 a1 24 f1 n1] none [stO h r1 r2 r3 r4 at' status rd ck, rowW E.2.2 r1 a1 24 (pushR 24 (popR (popR (f1, n1))) (reckF c (popV (popR (f1, n1))) (popV (f1, n1)))).1 (pushR 24 (popR (popR (f1, n1))) (reckF c (popV (popR (f1, n1))) (popV (f1, n1)))).2] := by
  refine Ct.of [some (.ref h), some (.int c), none, none] (by decide +kernel) rfl (Nat.le_of_ble_eq_true rfl) (fun F hE hF hR hN => ?_)
  subst hE
  refine g_aload_n hF dX5_reckon_0 rfl ?_
  refine g_get (j := 0) hF 0 rfl rfl (by decide) rfl m_73 rfl dX5_reckon_1 ?_
  refine g_callVd hF (c_Row_pop (by first | omega | exact clampI_le | (split <;> omega)) (by omega)) cal_X4_pop rfl m_522 (by decide) (Or.inl rfl) (Nat.zero_le _) (Nat.zero_le _) 1 rfl rfl [1] rfl rfl (Nat.le_of_ble_eq_true rfl) rfl (Nat.le_of_ble_eq_true rfl) dX5_reckon_4 ?_
  try dsimp only [gput, gputA, List.set, stGs, List.cons_append, List.nil_append]
  refine g_istore_n hF dX5_reckon_7 (Nat.le_of_ble_eq_true rfl) rfl ?_
  refine g_aload_n hF dX5_reckon_8 rfl ?_
  refine g_get (j := 0) hF 0 rfl rfl (by decide) rfl m_73 rfl dX5_reckon_9 ?_
  refine g_callVd hF (c_Row_pop (by first | omega | exact clampI_le | (split <;> omega)) (by omega)) cal_X4_pop rfl m_522 (by decide) (Or.inl rfl) (Nat.zero_le _) (Nat.zero_le _) 1 rfl rfl [1] rfl rfl (Nat.le_of_ble_eq_true rfl) rfl (Nat.le_of_ble_eq_true rfl) dX5_reckon_12 ?_
  try dsimp only [gput, gputA, List.set, stGs, List.cons_append, List.nil_append]
  refine g_istore_n hF dX5_reckon_15 (Nat.le_of_ble_eq_true rfl) rfl ?_
  refine g_aload_n hF dX5_reckon_16 rfl ?_
  refine g_get (j := 0) hF 0 rfl rfl (by decide) rfl m_73 rfl dX5_reckon_17 ?_
  refine g_iload_n hF dX5_reckon_20 rfl ?_
  refine g_iload_n hF dX5_reckon_21 rfl ?_
  refine g_iload_n hF dX5_reckon_22 rfl ?_
  refine g_callSq hF (c_St_reckoned) cal_X5_reckoned rfl m_547 (by decide) (Or.inl rfl) (Nat.zero_le _) (Nat.zero_le _) [] rfl rfl rfl (Nat.le_of_ble_eq_true rfl) dX5_reckon_23 ?_
  refine g_callVd hF (c_Row_push (by first | omega | exact clampI_le | (split <;> omega)) (by omega)) cal_X4_push rfl m_521 (by decide) (Or.inl rfl) (Nat.zero_le _) (Nat.zero_le _) 1 rfl rfl [1] rfl rfl (Nat.le_of_ble_eq_true rfl) rfl (Nat.le_of_ble_eq_true rfl) dX5_reckon_26 ?_
  try dsimp only [gput, gputA, List.set, stGs, List.cons_append, List.nil_append]
  exact g_vret hF hR dX5_reckon_29 ⟨rfl, rfl⟩
