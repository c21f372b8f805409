/-! MY KIT, third: fields, arrays, making -/
section GK6
theorem cls_ok {ci : Nat} {C : String} {T : u_T} {N : Nat} (hc : vwCl[ci]? = some (C, T, N)) : (∀ w ∈ u_ws C T N, w ∈ bw) ∧ (∃ ty : Nat → FieldType, ∀ k, k < N → parseFieldDescriptor (T k).2.2.1 = some (ty k)) ∧ (∀ a, a < N → ∀ b, b < N → a ≠ b → (T a).2.1 ≠ (T b).2.1) := by
  match ci, hc with
  | 0, hc => cases hc; exact ⟨by decide +kernel, ⟨_, tyX0_ok⟩, nmX0⟩
  | 1, hc => cases hc; exact ⟨by decide +kernel, ⟨_, tyX1_ok⟩, nmX1⟩
  | 2, hc => cases hc; exact ⟨by decide +kernel, ⟨_, tyX2_ok⟩, nmX2⟩
  | 3, hc => cases hc; exact ⟨by decide +kernel, ⟨_, tyX3_ok⟩, nmX3⟩
  | 4, hc => cases hc; exact ⟨by decide +kernel, ⟨_, tyX4_ok⟩, nmX4⟩
  | 5, hc => cases hc; exact ⟨by decide +kernel, ⟨_, tyX5_ok⟩, nmX5⟩
  | 6, hc => cases hc; exact ⟨by decide +kernel, ⟨_, tyX6_ok⟩, nmX6⟩
  | 7, hc => cases hc; exact ⟨by decide +kernel, ⟨_, tyX7_ok⟩, nmX7⟩
  | 8, hc => cases hc; exact ⟨by decide +kernel, ⟨_, tyX8_ok⟩, nmX8⟩
  | _ + 9, hc => simp at hc
variable {F : Fix} {cc : ByteArray} {own : String} {dd kM nM k n pc : Nat} {gs : List va_W} {lv : List (Option Value)} {st : List Value}
theorem g_get (hF : Ok F cc own dd kM nM) (kg : Nat) {a ci N j idx : Nat} {C : String} {T : u_T} {fs : List Value} {t : va_W} {v : Value} (hg : gs[kg]? = some ((a, .inr (ci, fs)) :: t)) (hc : vwCl[ci]? = some (C, T, N)) (hj : j < N) (hdc : (T j).1 = C) (hm : Cond.fieldLink own idx C (T j).2.1 (T j).2.2.1 ∈ bw) (hv : fs[j]? = some v) (d : decode cc pc = .ok (.getfield idx, 3)) (kk : G F k n gs (pc + 3) lv (v :: st)) : G F k n gs pc lv (.ref a :: st) := by
  obtain ⟨⟨l, D, cy⟩, p, e, R, s, m, args, below, meth, c, A, nL, X, Q⟩ := F
  obtain ⟨hx, hb, hml, hown, hts, hK, hA, hd1, hd2, hk1, hk2, hX⟩ := hF
  intro H locs ls hP hD hS hl
  obtain ⟨q0, h1, -⟩ := head_at gs kg _ t hg
  exact va_get hx hb hts (cls_ok hc).1 hown hK hP q0 h1 hc j hj (hts _ hm) (fun x h => by rw [← hdc]; exact h) hv d (kk H locs ls hP hD hS hl)
theorem g_getN (hF : Ok F cc own dd kM nM) (kg : Nat) {a ci N j idx : Nat} {C host : String} {T : u_T} {fs : List Value} {t : va_W} {v : Value} (hg : gs[kg]? = some ((a, .inr (ci, fs)) :: t)) (hc : vwCl[ci]? = some (C, T, N)) (hj : j < N) (hdc : (T j).1 = C) (hm : Cond.fieldLinkNest own idx C (T j).2.1 (T j).2.2.1 host ∈ bw) (hv : fs[j]? = some v) (d : decode cc pc = .ok (.getfield idx, 3)) (kk : G F k n gs (pc + 3) lv (v :: st)) : G F k n gs pc lv (.ref a :: st) := by
  obtain ⟨⟨l, D, cy⟩, p, e, R, s, m, args, below, meth, c, A, nL, X, Q⟩ := F
  obtain ⟨hx, hb, hml, hown, hts, hK, hA, hd1, hd2, hk1, hk2, hX⟩ := hF
  intro H locs ls hP hD hS hl
  obtain ⟨q0, h1, -⟩ := head_at gs kg _ t hg
  exact va_getN hx hb hts (cls_ok hc).1 hown hK hP q0 h1 hc j hj (hts _ hm) (fun x h => by rw [← hdc]; exact h) hv d (kk H locs ls hP hD hS hl)
theorem g_put (hF : Ok F cc own dd kM nM) (kg : Nat) {a ci N j idx : Nat} {C : String} {T : u_T} {fs : List Value} {t : va_W} {v : Value} {ty : FieldType} (hg : gs[kg]? = some ((a, .inr (ci, fs)) :: t)) (hc : vwCl[ci]? = some (C, T, N)) (hj : j < N) (hdc : (T j).1 = C) (hm : Cond.fieldLink own idx C (T j).2.1 (T j).2.2.1 ∈ bw) (hfin : (T j).2.2.2 = false) (hty : parseFieldDescriptor (T j).2.2.1 = some ty) (hn : narrow ty v = v) (hfit : fits ty v = true) (hlen : j < fs.length) (d : decode cc pc = .ok (.putfield idx, 3)) (kk : G F k n (gs.set kg ((a, .inr (ci, fs.set j v)) :: t)) (pc + 3) lv st) : G F k n gs pc lv (v :: .ref a :: st) := by
  obtain ⟨⟨l, D, cy⟩, p, e, R, s, m, args, below, meth, c, A, nL, X, Q⟩ := F
  obtain ⟨hx, hb, hml, hown, hts, hK, hA, hd1, hd2, hk1, hk2, hX⟩ := hF
  intro H locs ls hP hD hS hl
  obtain ⟨q0, h1, h2⟩ := head_at gs kg _ t hg
  obtain ⟨hin, ⟨ty0, hty0⟩, hnm⟩ := cls_ok hc
  exact va_put hx hb hts hin ty0 hty0 hnm hown hK hP hD hS q0 h1 hc j hj (hts _ hm) (fun x h => by rw [← hdc]; exact h) hfin hty hn hfit hlen d (fun H1 locs1 hP1 hD1 hS1 => kk H1 locs1 ls (by rw [← h2]; exact hP1) (by rw [← h2]; exact hD1) hS1 hl)
theorem g_putN (hF : Ok F cc own dd kM nM) (kg : Nat) {a ci N j idx : Nat} {C host : String} {T : u_T} {fs : List Value} {t : va_W} {v : Value} {ty : FieldType} (hg : gs[kg]? = some ((a, .inr (ci, fs)) :: t)) (hc : vwCl[ci]? = some (C, T, N)) (hj : j < N) (hdc : (T j).1 = C) (hm : Cond.fieldLinkNest own idx C (T j).2.1 (T j).2.2.1 host ∈ bw) (hfin : (T j).2.2.2 = false) (hty : parseFieldDescriptor (T j).2.2.1 = some ty) (hn : narrow ty v = v) (hfit : fits ty v = true) (hlen : j < fs.length) (d : decode cc pc = .ok (.putfield idx, 3)) (kk : G F k n (gs.set kg ((a, .inr (ci, fs.set j v)) :: t)) (pc + 3) lv st) : G F k n gs pc lv (v :: .ref a :: st) := by
  obtain ⟨⟨l, D, cy⟩, p, e, R, s, m, args, below, meth, c, A, nL, X, Q⟩ := F
  obtain ⟨hx, hb, hml, hown, hts, hK, hA, hd1, hd2, hk1, hk2, hX⟩ := hF
  intro H locs ls hP hD hS hl
  obtain ⟨q0, h1, h2⟩ := head_at gs kg _ t hg
  obtain ⟨hin, ⟨ty0, hty0⟩, hnm⟩ := cls_ok hc
  exact va_putN hx hb hts hin ty0 hty0 hnm hown hK hP hD hS q0 h1 hc j hj (hts _ hm) (fun x h => by rw [← hdc]; exact h) hfin hty hn hfit hlen d (fun H1 locs1 hP1 hD1 hS1 => kk H1 locs1 ls (by rw [← h2]; exact hP1) (by rw [← h2]; exact hD1) hS1 hl)
/-- a final field, in a constructor -/
theorem g_putF (hF : Ok F cc own dd kM nM) (hN : OkN F "<init>") (kg : Nat) {a ci N j idx : Nat} {T : u_T} {fs : List Value} {t : va_W} {v : Value} {ty : FieldType} (hg : gs[kg]? = some ((a, .inr (ci, fs)) :: t)) (hc : vwCl[ci]? = some (own, T, N)) (hj : j < N) (hdc : (T j).1 = own) (hm : Cond.fieldLink own idx own (T j).2.1 (T j).2.2.1 ∈ bw) (hfin : (T j).2.2.2 = true) (hty : parseFieldDescriptor (T j).2.2.1 = some ty) (hn : narrow ty v = v) (hfit : fits ty v = true) (hlen : j < fs.length) (d : decode cc pc = .ok (.putfield idx, 3)) (kk : G F k n (gs.set kg ((a, .inr (ci, fs.set j v)) :: t)) (pc + 3) lv st) : G F k n gs pc lv (v :: .ref a :: st) := by
  obtain ⟨⟨l, D, cy⟩, p, e, R, s, m, args, below, meth, c, A, nL, X, Q⟩ := F
  obtain ⟨hx, hb, hml, hown, hts, hK, hA, hd1, hd2, hk1, hk2, hX⟩ := hF
  intro H locs ls hP hD hS hl
  obtain ⟨q0, h1, h2⟩ := head_at gs kg _ t hg
  obtain ⟨hin, ⟨ty0, hty0⟩, hnm⟩ := cls_ok hc
  exact va_putF hx hb hts hin ty0 hty0 hnm hown hK hP hD hS q0 h1 hc j hj (hts _ hm) (fun x h => by rw [← hdc]; exact h) hfin hN hdc hty hn hfit hlen d (fun H1 locs1 hP1 hD1 hS1 => kk H1 locs1 ls (by rw [← h2]; exact hP1) (by rw [← h2]; exact hD1) hS1 hl)
theorem g_iald {cy : Nat → ClassId} (hF : Ok F cc own dd kM nM) (hcy : F.1.2.2 = cy) (kg : Nat) {a N : Nat} {f : Nat → Int32} {t : va_W} {i v : Int32} (hg : gs[kg]? = some ((a, .inl (cy 0, N, .inl f)) :: t)) (hin : vp_in i N) (hv : f i.toNatClampNeg = v) (d : decode cc pc = .ok (.iaload, 1)) (kk : G F k n gs (pc + 1) lv (.int v :: st)) : G F k n gs pc lv (.int i :: .ref a :: st) := by
  obtain ⟨⟨l, D, cy'⟩, p, e, R, s, m, args, below, meth, c, A, nL, X, Q⟩ := F
  obtain ⟨hx, hb, hml, hown, hts, hK, hA, hd1, hd2, hk1, hk2, hX⟩ := hF
  subst hcy
  subst hv
  intro H locs ls hP hD hS hl
  obtain ⟨q0, h1, h2⟩ := head_at gs kg _ t hg
  exact va_iald hx hb hK hP q0 0 h1 rfl hin d (kk H locs ls hP hD hS hl)
theorem g_iast {cy : Nat → ClassId} (hF : Ok F cc own dd kM nM) (hcy : F.1.2.2 = cy) (kg : Nat) {a N : Nat} {f : Nat → Int32} {t : va_W} {i x : Int32} (j : Nat) (hg : gs[kg]? = some ((a, .inl (cy 0, N, .inl f)) :: t)) (hin : vp_in i N) (hj : i.toNatClampNeg = j) (d : decode cc pc = .ok (.iastore, 1)) (kk : G F k n (gs.set kg ((a, .inl (cy 0, N, .inl (upd f j x))) :: t)) (pc + 1) lv st) : G F k n gs pc lv (.int x :: .int i :: .ref a :: st) := by
  obtain ⟨⟨l, D, cy'⟩, p, e, R, s, m, args, below, meth, c, A, nL, X, Q⟩ := F
  obtain ⟨hx, hb, hml, hown, hts, hK, hA, hd1, hd2, hk1, hk2, hX⟩ := hF
  subst hcy
  subst hj
  intro H locs ls hP hD hS hl
  obtain ⟨q0, h1, h2⟩ := head_at gs kg _ t hg
  exact va_iast hx hb hK hP hD hS q0 0 h1 rfl hin d (fun H1 locs1 hP1 hD1 hS1 => kk H1 locs1 ls (by rw [← h2]; exact hP1) (by rw [← h2]; exact hD1) hS1 hl)
theorem g_alen {cy : Nat → ClassId} (hF : Ok F cc own dd kM nM) (hcy : F.1.2.2 = cy) (kg tk : Nat) {a : Nat} {x : vp_A} {t : va_W} {ty : FieldType} {v : Int32} (hg : gs[kg]? = some ((a, .inl (cy tk, x)) :: t)) (ht : (tyL cy)[tk]? = some (cy tk, ty)) (hv : Int32.ofNat x.1 = v) (d : decode cc pc = .ok (.arraylength, 1)) (kk : G F k n gs (pc + 1) lv (.int v :: st)) : G F k n gs pc lv (.ref a :: st) := by
  obtain ⟨⟨l, D, cy'⟩, p, e, R, s, m, args, below, meth, c, A, nL, X, Q⟩ := F
  obtain ⟨hx, hb, hml, hown, hts, hK, hA, hd1, hd2, hk1, hk2, hX⟩ := hF
  subst hcy
  intro H locs ls hP hD hS hl
  obtain ⟨q0, h1, h2⟩ := head_at gs kg _ t hg
  exact va_alen hx hb hK hP q0 tk h1 ht hv d (kk H locs ls hP hD hS hl)
theorem g_aald {cy : Nat → ClassId} (hF : Ok F cc own dd kM nM) (hcy : F.1.2.2 = cy) (kg tk : Nat) {a N : Nat} {C : String} {f : Nat → Option Nat} {t : va_W} {i : Int32} {v : Nat} (hg : gs[kg]? = some ((a, .inl (cy tk, N, .inr (.inr (.inr (.inr f))))) :: t)) (ht : (tyL cy)[tk]? = some (cy tk, .object C)) (hin : vp_in i N) (hv : f i.toNatClampNeg = some v) (d : decode cc pc = .ok (.aaload, 1)) (kk : G F k n gs (pc + 1) lv (.ref v :: st)) : G F k n gs pc lv (.int i :: .ref a :: st) := by
  obtain ⟨⟨l, D, cy'⟩, p, e, R, s, m, args, below, meth, c, A, nL, X, Q⟩ := F
  obtain ⟨hx, hb, hml, hown, hts, hK, hA, hd1, hd2, hk1, hk2, hX⟩ := hF
  subst hcy
  intro H locs ls hP hD hS hl
  obtain ⟨q0, h1, h2⟩ := head_at gs kg _ t hg
  exact va_aldq hx hb hK hP q0 tk h1 ht hin d (by rw [hv]; exact kk H locs ls hP hD hS hl)
theorem g_aast {cy : Nat → ClassId} (hF : Ok F cc own dd kM nM) (hcy : F.1.2.2 = cy) (kg tk kv : Nat) {a N v ci : Nat} {r : vw_C} {f : Nat → Option Nat} {t tv : va_W} {vs : List Value} {i : Int32} (j : Nat) (hg : gs[kg]? = some ((a, .inl (cy tk, N, .inr (.inr (.inr (.inr f))))) :: t)) (ht : (tyL cy)[tk]? = some (cy tk, .object r.1)) (hv : gs[kv]? = some ((v, .inr (ci, vs)) :: tv)) (hc : vwCl[ci]? = some r) (hin : vp_in i N) (hj : i.toNatClampNeg = j) (d : decode cc pc = .ok (.aastore, 1)) (kk : G F k n (gs.set kg ((a, .inl (cy tk, N, .inr (.inr (.inr (.inr (va_up f j (some v))))))) :: t)) (pc + 1) lv st) : G F k n gs pc lv (.ref v :: .int i :: .ref a :: st) := by
  obtain ⟨⟨l, D, cy'⟩, p, e, R, s, m, args, below, meth, c, A, nL, X, Q⟩ := F
  obtain ⟨hx, hb, hml, hown, hts, hK, hA, hd1, hd2, hk1, hk2, hX⟩ := hF
  subst hcy
  subst hj
  intro H locs ls hP hD hS hl
  obtain ⟨q0, h1, h2⟩ := head_at gs kg _ t hg
  obtain ⟨q1, h3, -⟩ := head_at gs kv _ tv hv
  exact va_astq hx hb hK hP hD hS q0 tk q1 ci h1 ht h3 hc hin d (fun H1 locs1 hP1 hD1 hS1 => kk H1 locs1 ls (by rw [← h2]; exact hP1) (by rw [← h2]; exact hD1) hS1 hl)
/-- the class of an array by its name is one -/
theorem K_uniq {D : va_G} {cl : List vw_C} {tys : List (ClassId × FieldType)} {s : State} {cA cB : ClassId} {ty : FieldType} (hK : va_K D cl (tys ++ [(cA, ty)]) s) (tk : Nat) (hB : tys[tk]? = some (cB, ty)) : cA = cB := by
  have h1 := (hK.2 tys.length (cA, ty) (by simp)).2
  have h2 := (hK.2 tk (cB, ty) (by rw [List.getElem?_append_left (List.getElem?_eq_some_iff.mp hB).1]; exact hB)).2
  cases ty with
  | object C =>
    obtain ⟨_, _, _, _, _, e1⟩ := h1
    obtain ⟨_, _, _, _, _, e2⟩ := h2
    exact Option.some.inj (e1.symm.trans e2)
  | _ => exact Option.some.inj (Eq.trans (Eq.symm h1) h2)
theorem g_newi {cy : Nat → ClassId} (hF : Ok F cc own dd kM nM) (hcy : F.1.2.2 = cy) {i : Int32} {N : Nat} (hm : Cond.arrayClass .int ∈ bw) (hn : ¬ i < 0) (hN : i.toNatClampNeg = N) (hbytes : N ≤ 134217728) (hk : k + 1 ≤ kM) (hn2 : n + N ≤ nM) (d : decode cc pc = .ok (.newarray .int, 2)) (kk : ∀ q : Nat, G F (k + 1) (n + N) (gs ++ [[(q, .inl (cy 0, N, .inl (fun _ => 0)))]]) (pc + 2) lv (.ref q :: st)) : G F k n gs pc lv (.int i :: st) := by
  obtain ⟨⟨l, D, cy'⟩, p, e, R, s, m, args, below, meth, c, A, nL, X, Q⟩ := F
  obtain ⟨hx, hb, hml, hown, hts, hK, hA, hd1, hd2, hk1, hk2, hX⟩ := hF
  subst hcy
  intro H locs ls hP hD hS hl
  refine va_newa (atype := .int) (ty := .int) (N' := N) (a0 := (N, .inl (fun _ => 0))) hx hb (hts _ hm) rfl hK hP hD hS hA (fun cA => rfl) hn hN ?_ (Nat.le_trans hk hk1) (Nat.le_trans hn2 hk2) d (fun q cA H1 hK1 hP1 hD1 hS1 => ?_)
  · show N * 4 ≤ _
    omega
  · have e := K_uniq hK1 0 rfl
    subst e
    exact kk q H1 locs ls (by rw [List.flatten_append]; simpa using hP1) (by rw [List.flatten_append]; simpa using hD1) hS1 hl
theorem g_newq {cy : Nat → ClassId} (hF : Ok F cc own dd kM nM) (hcy : F.1.2.2 = cy) (tk : Nat) {i : Int32} {N idx : Nat} {C : String} (ht : (tyL cy)[tk]? = some (cy tk, .object C)) (hm : Cond.classLink own idx C ∈ bw) (hm2 : Cond.arrayOver (.object C) ∈ bw) (hn : ¬ i < 0) (hN : i.toNatClampNeg = N) (hbytes : N ≤ 134217728) (hk : k + 1 ≤ kM) (hn2 : n + N ≤ nM) (d : decode cc pc = .ok (.anewarray idx, 3)) (kk : ∀ q : Nat, G F (k + 1) (n + N) (gs ++ [[(q, .inl (cy tk, N, .inr (.inr (.inr (.inr (fun _ => none))))))]]) (pc + 3) lv (.ref q :: st)) : G F k n gs pc lv (.int i :: st) := by
  obtain ⟨⟨l, D, cy'⟩, p, e, R, s, m, args, below, meth, c, A, nL, X, Q⟩ := F
  obtain ⟨hx, hb, hml, hown, hts, hK, hA, hd1, hd2, hk1, hk2, hX⟩ := hF
  subst hcy
  intro H locs ls hP hD hS hl
  refine va_newq (N' := N) hx hb hown (hts _ hm) (va_AO.of (hts _ hm2)) hK hP hD hS hA hn hN (by omega) (Nat.le_trans hk hk1) (Nat.le_trans hn2 hk2) d (fun q cA H1 hK1 hP1 hD1 hS1 => ?_)
  have e := K_uniq hK1 tk ht
  subst e
  exact kk q H1 locs ls (by rw [List.flatten_append]; simpa using hP1) (by rw [List.flatten_append]; simpa using hD1) hS1 hl
theorem g_new (hF : Ok F cc own dd kM nM) {ci N idx : Nat} {C : String} {T : u_T} {fs : List Value} (hc : vwCl[ci]? = some (C, T, N)) (ty : Nat → FieldType) (hty : ∀ k, k < N → parseFieldDescriptor (T k).2.2.1 = some (ty k)) (hm1 : Cond.classLink own idx C ∈ bw) (hm2 : Cond.instantiable C N ∈ bw) (hm3 : Cond.initialized C ∈ bw) (hfs : ∀ j, j < N → defaultValue (ty j) = vp_V fs j) (hk : k + 1 ≤ kM) (hn2 : n + N ≤ nM) (d : decode cc pc = .ok (.new idx, 3)) (kk : ∀ q : Nat, G F (k + 1) (n + N) (gs ++ [[(q, .inr (ci, fs))]]) (pc + 3) lv (.ref q :: st)) : G F k n gs pc lv st := by
  obtain ⟨⟨l, D, cy'⟩, p, e, R, s, m, args, below, meth, c, A, nL, X, Q⟩ := F
  obtain ⟨hx, hb, hml, hown, hts, hK, hA, hd1, hd2, hk1, hk2, hX⟩ := hF
  intro H locs ls hP hD hS hl
  refine va_new hx hb hts (cls_ok hc).1 ty hty hown (hts _ hm1) (hts _ hm2) (hts _ hm3) hK hP hD hS hA hc hfs (Nat.le_trans hk hk1) (Nat.le_trans hn2 hk2) d (fun q H1 hP1 hD1 hS1 => ?_)
  exact kk q H1 locs ls (by rw [List.flatten_append]; simpa using hP1) (by rw [List.flatten_append]; simpa using hD1) hS1 hl
theorem g_objInit (hF : Ok F cc own dd kM nM) {idx a : Nat} (hm1 : Cond.methodLink own idx objectInit ∈ bw) (hm2 : Cond.instanceMethod objectInit ∈ bw) (hm3 : Cond.code objectInit ⟨#[0xb1]⟩ 1 none ∈ bw) (hdd : 1 ≤ dd) (hst : (st.map fun v => v.category).sum ≤ 8) (d : decode cc pc = .ok (.invokespecial idx, 3)) (kk : G F k n gs (pc + 3) lv st) : G F k n gs pc lv (.ref a :: st) := by
  obtain ⟨⟨l, D, cy'⟩, p, e, R, s, m, args, below, meth, c, A, nL, X, Q⟩ := F
  obtain ⟨hx, hb, hml, hown, hts, hK, hA, hd1, hd2, hk1, hk2, hX⟩ := hF
  intro H locs ls hP hD hS hl
  exact W.objInit hx hb hown (hts _ hm1) (hts _ hm2) (hts _ hm3) (g := F0 m pc ls (.ref a :: st)) rfl (by rw [hml]; exact hl.1.1) rfl d (Nat.le_trans hdd hd1) (by show 2 * 0 + _ + 12 ≤ _; omega) (kk H locs ls hP hD hS hl)
/-- the script, read alone -/
theorem g_sld {b L : Nat} {xs : Nat → Int32} (hF : Ok F cc own dd kM nM) (hXF : F.2.2.2.2.2.2.2.2.2.2.2.2.1 = some (b, L, xs)) {i v : Int32} (hin : vp_in i L) (hv : xs i.toNatClampNeg = v) (d : decode cc pc = .ok (.iaload, 1)) (kk : G F k n gs (pc + 1) lv (.int v :: st)) : G F k n gs pc lv (.int i :: .ref b :: st) := by
  obtain ⟨⟨l, D, cy'⟩, p, e, R, s, m, args, below, meth, c, A, nL, X, Q⟩ := F
  obtain ⟨hx, hb, hml, hown, hts, hK, hA, hd1, hd2, hk1, hk2, hX⟩ := hF
  subst hXF
  subst hv
  obtain ⟨hX1, hX2, hX3⟩ := hX
  intro H locs ls hP hD hS hl
  exact va_sld hx hb hX1 hX2 hX3 hS hin d (kk H locs ls hP hD hS hl)
theorem g_slen {b L : Nat} {xs : Nat → Int32} (hF : Ok F cc own dd kM nM) (hXF : F.2.2.2.2.2.2.2.2.2.2.2.2.1 = some (b, L, xs)) (d : decode cc pc = .ok (.arraylength, 1)) (kk : G F k n gs (pc + 1) lv (.int (Int32.ofNat L) :: st)) : G F k n gs pc lv (.ref b :: st) := by
  obtain ⟨⟨l, D, cy'⟩, p, e, R, s, m, args, below, meth, c, A, nL, X, Q⟩ := F
  obtain ⟨hx, hb, hml, hown, hts, hK, hA, hd1, hd2, hk1, hk2, hX⟩ := hF
  subst hXF
  obtain ⟨hX1, hX2, hX3⟩ := hX
  intro H locs ls hP hD hS hl
  exact va_slen hx hb hX1 hX2 hX3 hS d (kk H locs ls hP hD hS hl)
end GK6
