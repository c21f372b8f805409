/-! MY KIT, fourth: calls -/
section GK7
/-- what the tables say of a callee: found by its receiver's class, its bytes, how many arguments -/
def CalV (y : MethodName) (bytes : ByteArray) (maxL : Nat) (ret : Option FieldType) (na : Nat) : Prop := Cond.instanceMethod y ∈ bw ∧ Cond.selects y.cls y y ∈ bw ∧ Cond.initialized y.cls ∈ bw ∧ Cond.code y bytes maxL ret ∈ bw ∧ (y.cls ≠ "java/lang/invoke/MethodHandle" ∧ y.cls ≠ "java/lang/invoke/VarHandle") ∧ (parseMethodDescriptor y.desc).map (fun d => d.parameters.length) = some na ∧ maxL ≤ 11
def CalS (y : MethodName) (bytes : ByteArray) (maxL : Nat) (ret : Option FieldType) (na : Nat) : Prop := Cond.static y ∈ bw ∧ Cond.initialized y.cls ∈ bw ∧ Cond.code y bytes maxL ret ∈ bw ∧ (y.cls ≠ "java/lang/invoke/MethodHandle" ∧ y.cls ≠ "java/lang/invoke/VarHandle") ∧ (parseMethodDescriptor y.desc).map (fun d => d.parameters.length) = some na ∧ maxL ≤ 11
def CalI (y : MethodName) (bytes : ByteArray) (maxL : Nat) (na : Nat) : Prop := Cond.instanceMethod y ∈ bw ∧ y.name = "<init>" ∧ Cond.initialized y.cls ∈ bw ∧ Cond.code y bytes maxL none ∈ bw ∧ (y.cls ≠ "java/lang/invoke/MethodHandle" ∧ y.cls ≠ "java/lang/invoke/VarHandle") ∧ (parseMethodDescriptor y.desc).map (fun d => d.parameters.length) = some na ∧ maxL ≤ 11
theorem cal_len {y : MethodName} {na : Nat} (h : (parseMethodDescriptor y.desc).map (fun d => d.parameters.length) = some na) : ∀ sig, parseMethodDescriptor y.desc = some sig → na = sig.parameters.length := by
  intro sig hs
  rw [hs] at h
  exact (Option.some.inj h).symm
theorem cal_ws {s : State} {args : Array Value} {y : MethodName} {bytes : ByteArray} {maxL : Nat} {ret : Option FieldType} (hts : ∀ w ∈ bw, w.before args s = true) (hc : Cond.code y bytes maxL ret ∈ bw) : ∀ w ∈ (Cond.code y bytes maxL ret :: bw), ∀ (a' : Array Value) (U : State), s.WarmedH U.vm → w.before a' U = true := by
  intro w hw a' U hW
  rcases List.mem_cons.mp hw with h | h
  · rw [h]; exact bw_warm hW hts _ hc a'
  · exact bw_warm hW hts _ h a'
theorem pc_blind {E : Env3} {X : Ro} {sz : Nat} {av : List Value} {gs : List va_W} : FrameBlind (va_Pc av (fun U => U.heap.size = sz ∧ va_P E.2.1 vwCl gs.flatten U.heap ∧ va_K E.2.1 vwCl (tyL E.2.2) U ∧ va_D (fun _ => True) gs.flatten ∧ roX X U U.heap (va_A gs.flatten sz))) := by
  intro a U g mk q
  obtain ⟨q0, q1, qP, qK, qD, qX⟩ := q
  exact ⟨q0, q1, qP, va_K.moved (u := U) (U := U.calling g mk a) (Vm.Alike.refl U.vm) qK, qD, qX.blind g mk a⟩
variable {F : Fix} {cc : ByteArray} {own : String} {dd kM nM k n pc : Nat} {gs : List va_W} {lv : List (Option Value)} {st : List Value}
/-- behind a call -/
theorem call_tail {p : Program} {l : Launch} {e : Env} {R : Room} {s : State} {m : MethodId} {args : Array Value} {below : List Frame} {meth : Method} {c : Code} {H : Heap} {locs : List Loc} {Q : State → Prop} {D : va_G} {A : Nat → Prop} {nL mc ms : Nat} {ls : Array Slot} {st0 rest : List Value} {gsC : List va_W} {Po : Option Value → List va_W → Prop} {ps : List Nat} {cy : Nat → ClassId} {X : Ro}
    (hr : va_Run p l e R s m args below meth c H locs k n mc ms (F0 m pc ls st0) rest (PostC D H.size gsC Po) (va_A gsC.flatten H.size))
    (hA : ∀ q : Nat, s.heap.size ≤ q → A q) (hP : va_P D vwCl gs.flatten H) (hD : va_D A gs.flatten) (hS : va_S A s.heap H locs) (hl : hasP ls nL lv) (hps : ps.map (fun i => gs[i]?) = gsC.map some) (hnd : va_nd ps = true)
    (kk : ∀ (r : Option Value) (gs' : List va_W), Po r gs' → gsC.length ≤ gs'.length ∧ G ((l, D, cy), p, e, R, s, m, args, below, meth, c, A, nL, X, Q) (k + mc) (n + ms) (gput gs ps gs') (pc + 3) lv (r.toList ++ rest)) : W p l e R s m args below meth c H locs k n Q (F0 m pc ls st0) := by
  have pm := gs_perm hps hnd
  have hP1 := wP_perm pm hP
  have hD1 := wD_perm pm hD
  have hDc := wD_left hD1
  have hFc : ∀ q, va_A gsC.flatten H.size q → A q := fun q h => (va_A_mem.mp h).elim (fun ⟨e, h⟩ => (wD_iff.mp hDc).2 (q, e) h) (fun h => hA q (Nat.le_trans hS.1 h))
  intro T hT X1
  obtain ⟨v, st₀, t, T', L, h0, X', hL, e1, e2, ⟨⟨r, gs', hv, hp, hPn, hDn⟩, hz, hkp⟩, hst⟩ := hr T hT X1
  cases hv
  rw [h0] at hz hkp
  have joined := w_join (H1 := t.heap) hP1 hD1 hkp hFc hPn hDn
  obtain ⟨hlen, hG⟩ := kk v gs' hp
  have pm2 := gput_perm ps gs gs' (by rw [ps_len hps]; exact hlen) hnd (ps_lt hps)
  obtain ⟨t2, a1, b1⟩ := hG T'.heap (locs ++ L) ls (by rw [e1]; exact wP_perm pm2.symm joined.1) (wD_perm pm2.symm joined.2)
    ⟨Nat.le_trans hS.1 (by rw [e1]; exact hz), fun q h1 h2 => by rw [e1, hkp q (Nat.lt_of_lt_of_le h1 hS.1) (fun z => h2 (hFc q z))]; exact hS.2.1 q h1 h2, fun q hq => by
      rcases List.mem_append.mp hq with h | h
      · exact hS.2.2 q h
      · exact hFc _ (hL q h)⟩ hl T' rfl X'
  exact ⟨t2, hst t2 a1, b1⟩
/-- what a callee owes is there -/
theorem call_pre {s : State} {H : Heap} {locs : List Loc} {D : va_G} {cy : Nat → ClassId} {l : Launch} {A : Nat → Prop} {X X' : Ro} {gsC : List va_W} {ps : List Nat} {av : List Value} (hX : roX X s s.heap A) (hXX : X' = none ∨ X' = X) (hK : va_K D vwCl (tyL cy) s) (hA : ∀ q : Nat, s.heap.size ≤ q → A q) (hP : va_P D vwCl gs.flatten H) (hD : va_D A gs.flatten) (hS : va_S A s.heap H locs) (hps : ps.map (fun i => gs[i]?) = gsC.map some) (hnd : va_nd ps = true) :
    ∀ U : State, U.heap = H → s.WarmedH U.vm → va_Pc av (fun U => U.heap.size = H.size ∧ va_P D vwCl gsC.flatten U.heap ∧ va_K D vwCl (tyL cy) U ∧ va_D (fun _ => True) gsC.flatten ∧ roX X' U U.heap (va_A gsC.flatten H.size)) av.toArray U := by
  intro U hU hW
  have pm := gs_perm hps hnd
  have hPc := wP_left (wP_perm pm hP)
  have hDc := wD_left (wD_perm pm hD)
  have hFc : ∀ q, va_A gsC.flatten H.size q → A q := fun q h => (va_A_mem.mp h).elim (fun ⟨e, h⟩ => (wD_iff.mp hDc).2 (q, e) h) (fun h => hA q (Nat.le_trans hS.1 h))
  refine ⟨rfl, by rw [hU], by rw [hU]; exact hPc, va_K.moved hW.alike hK, hDc.weaken (fun _ _ _ _ => trivial), ?_⟩
  rcases hXX with rfl | rfl
  · trivial
  · exact hX.kept hS hFc hU hW
theorem g_callV (hF : Ok F cc own dd kM nM) {X' : Ro} {d mc ms na : Nat} {y : MethodName} {bytes : ByteArray} {maxL : Nat} {ret : Option FieldType} {b : Nat} {As rest : List Value} {gsC : List va_W} {Po : Option Value → List va_W → Prop} (hC : Ct F.1 X' d mc ms y bytes maxL ret (.ref b :: As) gsC Po) (hcal : CalV y bytes maxL ret na) (hna : As.length = na) {idx : Nat} (hl0 : Cond.methodLink own idx y ∈ bw) (hdd : d < dd) (hXX : X' = none ∨ X' = F.2.2.2.2.2.2.2.2.2.2.2.2.1) (hk : k + mc ≤ kM) (hn : n + ms ≤ nM)
    (kg : Nat) {ci N : Nat} {T : u_T} {fs : List Value} {t : va_W} (hg : gs[kg]? = some ((b, .inr (ci, fs)) :: t)) (hc : vwCl[ci]? = some (y.cls, T, N)) (ps : List Nat) (hps : ps.map (fun i => gs[i]?) = gsC.map some) (hnd : va_nd ps = true) (hst : st = As.reverse ++ .ref b :: rest) (hr8 : (rest.map fun v => v.category).sum ≤ 8) (dg : decode cc pc = .ok (.invokevirtual idx, 3))
    (kk : ∀ (r : Option Value) (gs' : List va_W), Po r gs' → gsC.length ≤ gs'.length ∧ G F (k + mc) (n + ms) (gput gs ps gs') (pc + 3) lv (r.toList ++ rest)) : G F k n gs pc lv st := by
  obtain ⟨⟨l, D, cy⟩, p, e, R, s, m, args, below, meth, c, A, nL, X, Q⟩ := F
  obtain ⟨hx, hb, hml, hown, hts, hK, hA, hd1, hd2, hk1, hk2, hX⟩ := hF
  obtain ⟨c1, c2, c3, c4, c5, c6, c7⟩ := hcal
  intro H locs ls hP hD hS hl
  obtain ⟨q0, h1, -⟩ := head_at gs kg _ t hg
  refine call_tail (cy := cy) (X := X) (va_runV (As := As) (rest := rest) (n := na) (own := own) (C := y.cls) (index := idx) (b := b) (g := F0 m pc ls st) (Ts := bw) ⟨hx, hb, hml, hown, hts⟩ (hC H.size) ⟨⟨rfl, rfl, ?_, ?_, cal_ws hts c4, List.mem_cons_self, hts _ c4, hts _ c3, c5, cal_len c6, hts _ hl0⟩, hts _ c1, hts _ c2⟩ ⟨pc_blind, va_recv hK hP hc h1, call_pre (l := l) hX hXX hK hA hP hD hS hps hnd⟩ rfl hna hl.1.1 hst (lv_room hr8) dg ⟨Nat.le_trans hk hk1, Nat.le_trans hn hk2⟩) hA hP hD hS hl hps hnd kk
  · show d + 1 ≤ R.frames
    omega
  · show 8 + (maxL + 11) + 30 * d ≤ R.locals
    omega
theorem g_callS (hF : Ok F cc own dd kM nM) {X' : Ro} {d mc ms na : Nat} {y : MethodName} {bytes : ByteArray} {maxL : Nat} {ret : Option FieldType} {As rest : List Value} {gsC : List va_W} {Po : Option Value → List va_W → Prop} (hC : Ct F.1 X' d mc ms y bytes maxL ret As gsC Po) (hcal : CalS y bytes maxL ret na) (hna : As.length = na) {idx : Nat} (hl0 : Cond.methodLink own idx y ∈ bw) (hdd : d < dd) (hXX : X' = none ∨ X' = F.2.2.2.2.2.2.2.2.2.2.2.2.1) (hk : k + mc ≤ kM) (hn : n + ms ≤ nM)
    (ps : List Nat) (hps : ps.map (fun i => gs[i]?) = gsC.map some) (hnd : va_nd ps = true) (hst : st = As.reverse ++ rest) (hr8 : (rest.map fun v => v.category).sum ≤ 8) (dg : decode cc pc = .ok (.invokestatic idx, 3))
    (kk : ∀ (r : Option Value) (gs' : List va_W), Po r gs' → gsC.length ≤ gs'.length ∧ G F (k + mc) (n + ms) (gput gs ps gs') (pc + 3) lv (r.toList ++ rest)) : G F k n gs pc lv st := by
  obtain ⟨⟨l, D, cy⟩, p, e, R, s, m, args, below, meth, c, A, nL, X, Q⟩ := F
  obtain ⟨hx, hb, hml, hown, hts, hK, hA, hd1, hd2, hk1, hk2, hX⟩ := hF
  obtain ⟨c1, c3, c4, c5, c6, c7⟩ := hcal
  intro H locs ls hP hD hS hl
  refine call_tail (cy := cy) (X := X) (va_runS (As := As) (rest := rest) (n := na) (own := own) (index := idx) (g := F0 m pc ls st) (Ts := bw) ⟨hx, hb, hml, hown, hts⟩ (hC H.size) ⟨⟨rfl, rfl, ?_, ?_, cal_ws hts c4, List.mem_cons_self, hts _ c4, hts _ c3, c5, cal_len c6, hts _ hl0⟩, hts _ c1⟩ ⟨pc_blind, call_pre (l := l) hX hXX hK hA hP hD hS hps hnd⟩ rfl hna hl.1.1 hst (lv_room hr8) dg ⟨Nat.le_trans hk hk1, Nat.le_trans hn hk2⟩) hA hP hD hS hl hps hnd kk
  · show d + 1 ≤ R.frames
    omega
  · show 8 + (maxL + 11) + 30 * d ≤ R.locals
    omega
theorem g_callSN (hF : Ok F cc own dd kM nM) {X' : Ro} {d mc ms na : Nat} {y : MethodName} {bytes : ByteArray} {maxL : Nat} {ret : Option FieldType} {As rest : List Value} {gsC : List va_W} {Po : Option Value → List va_W → Prop} (hC : Ct F.1 X' d mc ms y bytes maxL ret As gsC Po) (hcal : CalS y bytes maxL ret na) (hna : As.length = na) {idx : Nat} {host : String} (hl0 : Cond.methodLinkNest own idx y host ∈ bw) (hdd : d < dd) (hXX : X' = none ∨ X' = F.2.2.2.2.2.2.2.2.2.2.2.2.1) (hk : k + mc ≤ kM) (hn : n + ms ≤ nM)
    (ps : List Nat) (hps : ps.map (fun i => gs[i]?) = gsC.map some) (hnd : va_nd ps = true) (hst : st = As.reverse ++ rest) (hr8 : (rest.map fun v => v.category).sum ≤ 8) (dg : decode cc pc = .ok (.invokestatic idx, 3))
    (kk : ∀ (r : Option Value) (gs' : List va_W), Po r gs' → gsC.length ≤ gs'.length ∧ G F (k + mc) (n + ms) (gput gs ps gs') (pc + 3) lv (r.toList ++ rest)) : G F k n gs pc lv st := by
  obtain ⟨⟨l, D, cy⟩, p, e, R, s, m, args, below, meth, c, A, nL, X, Q⟩ := F
  obtain ⟨hx, hb, hml, hown, hts, hK, hA, hd1, hd2, hk1, hk2, hX⟩ := hF
  obtain ⟨c1, c3, c4, c5, c6, c7⟩ := hcal
  intro H locs ls hP hD hS hl
  refine call_tail (cy := cy) (X := X) (va_runSN (As := As) (rest := rest) (n := na) (own := own) (index := idx) (host := host) (g := F0 m pc ls st) (Ts := bw) ⟨hx, hb, hml, hown, hts⟩ (hC H.size) ⟨⟨⟨rfl, rfl, ?_, ?_, cal_ws hts c4, List.mem_cons_self⟩, hts _ c4, hts _ c3, c5, cal_len c6, hts _ hl0⟩, hts _ c1, trivial⟩ ⟨pc_blind, call_pre (l := l) hX hXX hK hA hP hD hS hps hnd⟩ rfl hna hl.1.1 hst (lv_room hr8) dg ⟨Nat.le_trans hk hk1, Nat.le_trans hn hk2⟩) hA hP hD hS hl hps hnd kk
  · show d + 1 ≤ R.frames
    omega
  · show 8 + (maxL + 11) + 30 * d ≤ R.locals
    omega
theorem g_callI (hF : Ok F cc own dd kM nM) {X' : Ro} {d mc ms na : Nat} {y : MethodName} {bytes : ByteArray} {maxL : Nat} {b : Nat} {As rest : List Value} {gsC : List va_W} {Po : Option Value → List va_W → Prop} (hC : Ct F.1 X' d mc ms y bytes maxL none (.ref b :: As) gsC Po) (hcal : CalI y bytes maxL na) (hna : As.length = na) {idx : Nat} (hl0 : Cond.methodLink own idx y ∈ bw) (hdd : d < dd) (hXX : X' = none ∨ X' = F.2.2.2.2.2.2.2.2.2.2.2.2.1) (hk : k + mc ≤ kM) (hn : n + ms ≤ nM)
    (ps : List Nat) (hps : ps.map (fun i => gs[i]?) = gsC.map some) (hnd : va_nd ps = true) (hst : st = As.reverse ++ .ref b :: rest) (hr8 : (rest.map fun v => v.category).sum ≤ 8) (dg : decode cc pc = .ok (.invokespecial idx, 3))
    (kk : ∀ (r : Option Value) (gs' : List va_W), Po r gs' → gsC.length ≤ gs'.length ∧ G F (k + mc) (n + ms) (gput gs ps gs') (pc + 3) lv (r.toList ++ rest)) : G F k n gs pc lv st := by
  obtain ⟨⟨l, D, cy⟩, p, e, R, s, m, args, below, meth, c, A, nL, X, Q⟩ := F
  obtain ⟨hx, hb, hml, hown, hts, hK, hA, hd1, hd2, hk1, hk2, hX⟩ := hF
  obtain ⟨c1, c2, c3, c4, c5, c6, c7⟩ := hcal
  intro H locs ls hP hD hS hl
  refine call_tail (cy := cy) (X := X) (va_runI (As := As) (rest := rest) (n := na) (own := own) (index := idx) (b := b) (g := F0 m pc ls st) (Ts := bw) ⟨hx, hb, hml, hown, hts⟩ (hC H.size) ⟨⟨rfl, rfl, ?_, ?_, cal_ws hts c4, List.mem_cons_self, hts _ c4, hts _ c3, c5, cal_len c6, hts _ hl0⟩, c2, hts _ c1⟩ ⟨pc_blind, call_pre (l := l) hX hXX hK hA hP hD hS hps hnd⟩ rfl hna hl.1.1 hst (lv_room hr8) dg ⟨Nat.le_trans hk hk1, Nat.le_trans hn hk2⟩) hA hP hD hS hl hps hnd kk
  · show d + 1 ≤ R.frames
    omega
  · show 8 + (maxL + 11) + 30 * d ≤ R.locals
    omega
theorem g_callIN (hF : Ok F cc own dd kM nM) {X' : Ro} {d mc ms na : Nat} {y : MethodName} {bytes : ByteArray} {maxL : Nat} {b : Nat} {As rest : List Value} {gsC : List va_W} {Po : Option Value → List va_W → Prop} (hC : Ct F.1 X' d mc ms y bytes maxL none (.ref b :: As) gsC Po) (hcal : CalI y bytes maxL na) (hna : As.length = na) {idx : Nat} {host : String} (hl0 : Cond.methodLinkNest own idx y host ∈ bw) (hdd : d < dd) (hXX : X' = none ∨ X' = F.2.2.2.2.2.2.2.2.2.2.2.2.1) (hk : k + mc ≤ kM) (hn : n + ms ≤ nM)
    (ps : List Nat) (hps : ps.map (fun i => gs[i]?) = gsC.map some) (hnd : va_nd ps = true) (hst : st = As.reverse ++ .ref b :: rest) (hr8 : (rest.map fun v => v.category).sum ≤ 8) (dg : decode cc pc = .ok (.invokespecial idx, 3))
    (kk : ∀ (r : Option Value) (gs' : List va_W), Po r gs' → gsC.length ≤ gs'.length ∧ G F (k + mc) (n + ms) (gput gs ps gs') (pc + 3) lv (r.toList ++ rest)) : G F k n gs pc lv st := by
  obtain ⟨⟨l, D, cy⟩, p, e, R, s, m, args, below, meth, c, A, nL, X, Q⟩ := F
  obtain ⟨hx, hb, hml, hown, hts, hK, hA, hd1, hd2, hk1, hk2, hX⟩ := hF
  obtain ⟨c1, c2, c3, c4, c5, c6, c7⟩ := hcal
  intro H locs ls hP hD hS hl
  refine call_tail (cy := cy) (X := X) (va_runIN (As := As) (rest := rest) (n := na) (own := own) (index := idx) (host := host) (b := b) (g := F0 m pc ls st) (Ts := bw) ⟨hx, hb, hml, hown, hts⟩ (hC H.size) ⟨⟨⟨rfl, rfl, ?_, ?_, cal_ws hts c4, List.mem_cons_self⟩, hts _ c4, hts _ c3, c5, cal_len c6, hts _ hl0⟩, c2, hts _ c1⟩ ⟨pc_blind, call_pre (l := l) hX hXX hK hA hP hD hS hps hnd⟩ rfl hna hl.1.1 hst (lv_room hr8) dg ⟨Nat.le_trans hk hk1, Nat.le_trans hn hk2⟩) hA hP hD hS hl hps hnd kk
  · show d + 1 ≤ R.frames
    omega
  · show 8 + (maxL + 11) + 30 * d ≤ R.locals
    omega
/-! the same for callees that answer r0, leave g0, and make nothing -/
theorem g_callVd (hF : Ok F cc own dd kM nM) {X' : Ro} {d na : Nat} {y : MethodName} {bytes : ByteArray} {maxL : Nat} {ret : Option FieldType} {b : Nat} {As rest : List Value} {gsC g0 : List va_W} {r0 : Option Value} (hC : Cd F.1 X' d y bytes maxL ret (.ref b :: As) gsC r0 g0) (hcal : CalV y bytes maxL ret na) (hna : As.length = na) {idx : Nat} (hl0 : Cond.methodLink own idx y ∈ bw) (hdd : d < dd) (hXX : X' = none ∨ X' = F.2.2.2.2.2.2.2.2.2.2.2.2.1) (hk : k ≤ kM) (hn : n ≤ nM)
    (kg : Nat) {ci N : Nat} {T : u_T} {fs : List Value} {t : va_W} (hg : gs[kg]? = some ((b, .inr (ci, fs)) :: t)) (hc : vwCl[ci]? = some (y.cls, T, N)) (ps : List Nat) (hps : ps.map (fun i => gs[i]?) = gsC.map some) (hnd : va_nd ps = true) (hlen : gsC.length ≤ g0.length) (hst : st = As.reverse ++ .ref b :: rest) (hr8 : (rest.map fun v => v.category).sum ≤ 8) (dg : decode cc pc = .ok (.invokevirtual idx, 3))
    (kk : G F k n (gput gs ps g0) (pc + 3) lv (r0.toList ++ rest)) : G F k n gs pc lv st :=
  g_callV hF hC hcal hna hl0 hdd hXX hk hn kg hg hc ps hps hnd hst hr8 dg (fun r gs' h => by obtain ⟨rfl, rfl⟩ := h; exact ⟨hlen, kk⟩)
theorem g_callSd (hF : Ok F cc own dd kM nM) {X' : Ro} {d na : Nat} {y : MethodName} {bytes : ByteArray} {maxL : Nat} {ret : Option FieldType} {As rest : List Value} {gsC g0 : List va_W} {r0 : Option Value} (hC : Cd F.1 X' d y bytes maxL ret As gsC r0 g0) (hcal : CalS y bytes maxL ret na) (hna : As.length = na) {idx : Nat} (hl0 : Cond.methodLink own idx y ∈ bw) (hdd : d < dd) (hXX : X' = none ∨ X' = F.2.2.2.2.2.2.2.2.2.2.2.2.1) (hk : k ≤ kM) (hn : n ≤ nM)
    (ps : List Nat) (hps : ps.map (fun i => gs[i]?) = gsC.map some) (hnd : va_nd ps = true) (hlen : gsC.length ≤ g0.length) (hst : st = As.reverse ++ rest) (hr8 : (rest.map fun v => v.category).sum ≤ 8) (dg : decode cc pc = .ok (.invokestatic idx, 3))
    (kk : G F k n (gput gs ps g0) (pc + 3) lv (r0.toList ++ rest)) : G F k n gs pc lv st :=
  g_callS hF hC hcal hna hl0 hdd hXX hk hn ps hps hnd hst hr8 dg (fun r gs' h => by obtain ⟨rfl, rfl⟩ := h; exact ⟨hlen, kk⟩)
theorem g_callSNd (hF : Ok F cc own dd kM nM) {X' : Ro} {d na : Nat} {y : MethodName} {bytes : ByteArray} {maxL : Nat} {ret : Option FieldType} {As rest : List Value} {gsC g0 : List va_W} {r0 : Option Value} (hC : Cd F.1 X' d y bytes maxL ret As gsC r0 g0) (hcal : CalS y bytes maxL ret na) (hna : As.length = na) {idx : Nat} {host : String} (hl0 : Cond.methodLinkNest own idx y host ∈ bw) (hdd : d < dd) (hXX : X' = none ∨ X' = F.2.2.2.2.2.2.2.2.2.2.2.2.1) (hk : k ≤ kM) (hn : n ≤ nM)
    (ps : List Nat) (hps : ps.map (fun i => gs[i]?) = gsC.map some) (hnd : va_nd ps = true) (hlen : gsC.length ≤ g0.length) (hst : st = As.reverse ++ rest) (hr8 : (rest.map fun v => v.category).sum ≤ 8) (dg : decode cc pc = .ok (.invokestatic idx, 3))
    (kk : G F k n (gput gs ps g0) (pc + 3) lv (r0.toList ++ rest)) : G F k n gs pc lv st :=
  g_callSN hF hC hcal hna hl0 hdd hXX hk hn ps hps hnd hst hr8 dg (fun r gs' h => by obtain ⟨rfl, rfl⟩ := h; exact ⟨hlen, kk⟩)
theorem g_callVq (hF : Ok F cc own dd kM nM) {X' : Ro} {d na : Nat} {y : MethodName} {bytes : ByteArray} {maxL : Nat} {ret : Option FieldType} {b : Nat} {As rest : List Value} {gsC : List va_W} {r0 : Option Value} (hC : Cd F.1 X' d y bytes maxL ret (.ref b :: As) gsC r0 gsC) (hcal : CalV y bytes maxL ret na) (hna : As.length = na) {idx : Nat} (hl0 : Cond.methodLink own idx y ∈ bw) (hdd : d < dd) (hXX : X' = none ∨ X' = F.2.2.2.2.2.2.2.2.2.2.2.2.1) (hk : k ≤ kM) (hn : n ≤ nM)
    (kg : Nat) {ci N : Nat} {T : u_T} {fs : List Value} {t : va_W} (hg : gs[kg]? = some ((b, .inr (ci, fs)) :: t)) (hc : vwCl[ci]? = some (y.cls, T, N)) (ps : List Nat) (hps : ps.map (fun i => gs[i]?) = gsC.map some) (hnd : va_nd ps = true) (hst : st = As.reverse ++ .ref b :: rest) (hr8 : (rest.map fun v => v.category).sum ≤ 8) (dg : decode cc pc = .ok (.invokevirtual idx, 3))
    (kk : G F k n gs (pc + 3) lv (r0.toList ++ rest)) : G F k n gs pc lv st :=
  g_callVd hF hC hcal hna hl0 hdd hXX hk hn kg hg hc ps hps hnd (Nat.le_refl _) hst hr8 dg (by rw [gput_same ps gs gsC hps]; exact kk)
theorem g_callSq (hF : Ok F cc own dd kM nM) {X' : Ro} {d na : Nat} {y : MethodName} {bytes : ByteArray} {maxL : Nat} {ret : Option FieldType} {As rest : List Value} {gsC : List va_W} {r0 : Option Value} (hC : Cd F.1 X' d y bytes maxL ret As gsC r0 gsC) (hcal : CalS y bytes maxL ret na) (hna : As.length = na) {idx : Nat} (hl0 : Cond.methodLink own idx y ∈ bw) (hdd : d < dd) (hXX : X' = none ∨ X' = F.2.2.2.2.2.2.2.2.2.2.2.2.1) (hk : k ≤ kM) (hn : n ≤ nM)
    (ps : List Nat) (hps : ps.map (fun i => gs[i]?) = gsC.map some) (hnd : va_nd ps = true) (hst : st = As.reverse ++ rest) (hr8 : (rest.map fun v => v.category).sum ≤ 8) (dg : decode cc pc = .ok (.invokestatic idx, 3))
    (kk : G F k n gs (pc + 3) lv (r0.toList ++ rest)) : G F k n gs pc lv st :=
  g_callSd hF hC hcal hna hl0 hdd hXX hk hn ps hps hnd (Nat.le_refl _) hst hr8 dg (by rw [gput_same ps gs gsC hps]; exact kk)
theorem g_callSNq (hF : Ok F cc own dd kM nM) {X' : Ro} {d na : Nat} {y : MethodName} {bytes : ByteArray} {maxL : Nat} {ret : Option FieldType} {As rest : List Value} {gsC : List va_W} {r0 : Option Value} (hC : Cd F.1 X' d y bytes maxL ret As gsC r0 gsC) (hcal : CalS y bytes maxL ret na) (hna : As.length = na) {idx : Nat} {host : String} (hl0 : Cond.methodLinkNest own idx y host ∈ bw) (hdd : d < dd) (hXX : X' = none ∨ X' = F.2.2.2.2.2.2.2.2.2.2.2.2.1) (hk : k ≤ kM) (hn : n ≤ nM)
    (ps : List Nat) (hps : ps.map (fun i => gs[i]?) = gsC.map some) (hnd : va_nd ps = true) (hst : st = As.reverse ++ rest) (hr8 : (rest.map fun v => v.category).sum ≤ 8) (dg : decode cc pc = .ok (.invokestatic idx, 3))
    (kk : G F k n gs (pc + 3) lv (r0.toList ++ rest)) : G F k n gs pc lv st :=
  g_callSNd hF hC hcal hna hl0 hdd hXX hk hn ps hps hnd (Nat.le_refl _) hst hr8 dg (by rw [gput_same ps gs gsC hps]; exact kk)
theorem g_max (hF : Ok F cc own dd kM nM) {idx : Nat} {x y : Int32} (hm1 : Cond.methodLink own idx Lib.Math.max.name ∈ bw) (hm2 : Cond.static Lib.Math.max.name ∈ bw) (hm3 : Cond.initialized "java/lang/Math" ∈ bw) (hm4 : Cond.code Lib.Math.max.name Lib.Math.max.code 2 (some .int) ∈ bw) (hdd : 1 ≤ dd) (hk : k ≤ kM) (hn : n ≤ nM) (hr8 : (st.map fun v => v.category).sum ≤ 8) (d : decode cc pc = .ok (.invokestatic idx, 3)) (kk : G F k n gs (pc + 3) lv (.int (if x < y then y else x) :: st)) : G F k n gs pc lv (.int y :: .int x :: st) := by
  obtain ⟨⟨l, D, cy'⟩, p, e, R, s, m, args, below, meth, c, A, nL, X, Q⟩ := F
  obtain ⟨hx, hb, hml, hown, hts, hK, hA, hd1, hd2, hk1, hk2, hX⟩ := hF
  intro H locs ls hP hD hS hl
  exact va_mmax hx hb (by rw [hml]; exact hl.1.1.symm) hown (hts _ hm1) (hts _ hm2) (hts _ hm3) (hts _ hm4) (Nat.le_trans hdd hd1) (by omega) (Nat.le_trans hk hk1) (Nat.le_trans hn hk2) d (kk H locs ls hP hD hS hl)
theorem g_min (hF : Ok F cc own dd kM nM) {idx : Nat} {x y : Int32} (hm1 : Cond.methodLink own idx Lib.Math.min.name ∈ bw) (hm2 : Cond.static Lib.Math.min.name ∈ bw) (hm3 : Cond.initialized "java/lang/Math" ∈ bw) (hm4 : Cond.code Lib.Math.min.name Lib.Math.min.code 2 (some .int) ∈ bw) (hdd : 1 ≤ dd) (hk : k ≤ kM) (hn : n ≤ nM) (hr8 : (st.map fun v => v.category).sum ≤ 8) (d : decode cc pc = .ok (.invokestatic idx, 3)) (kk : G F k n gs (pc + 3) lv (.int (if y < x then y else x) :: st)) : G F k n gs pc lv (.int y :: .int x :: st) := by
  obtain ⟨⟨l, D, cy'⟩, p, e, R, s, m, args, below, meth, c, A, nL, X, Q⟩ := F
  obtain ⟨hx, hb, hml, hown, hts, hK, hA, hd1, hd2, hk1, hk2, hX⟩ := hF
  intro H locs ls hP hD hS hl
  exact va_mmin hx hb (by rw [hml]; exact hl.1.1.symm) hown (hts _ hm1) (hts _ hm2) (hts _ hm3) (hts _ hm4) (Nat.le_trans hdd hd1) (by omega) (Nat.le_trans hk hk1) (Nat.le_trans hn hk2) d (kk H locs ls hP hD hS hl)
theorem g_copy {cy : Nat → ClassId} (hF : Ok F cc own dd kM nM) (hcy : F.1.2.2 = cy) (kg0 kg1 : Nat) {idx a0 a1 N0 N1 : Nat} {f g : Nat → Int32} {t0 t1 : va_W} {sp dp z : Int32} (sn dn zn : Nat) (hm1 : Cond.methodLink own idx arraycopyName ∈ bw) (hm2 : Cond.native arraycopyName ∈ bw) (hm3 : Cond.static arraycopyName ∈ bw) (hm4 : Cond.initialized "java/lang/System" ∈ bw) (hdd : 1 ≤ dd) (hg0 : gs[kg0]? = some ((a0, .inl (cy 0, N0, .inl f)) :: t0)) (hg1 : gs[kg1]? = some ((a1, .inl (cy 0, N1, .inl g)) :: t1)) (h1 : ¬ sp < 0) (h2 : ¬ dp < 0) (h3 : ¬ z < 0) (e1 : sp.toNatClampNeg = sn) (e2 : dp.toNatClampNeg = dn) (e3 : z.toNatClampNeg = zn) (h4 : sn + zn ≤ N0) (h5 : dn + zn ≤ N1) (hr8 : (st.map fun v => v.category).sum ≤ 8) (d : decode cc pc = .ok (.invokestatic idx, 3)) (kk : G F k n (gs.set kg1 ((a1, .inl (cy 0, N1, .inl (va_cpy f g sn dn zn))) :: t1)) (pc + 3) lv st) : G F k n gs pc lv (.int z :: .int dp :: .ref a1 :: .int sp :: .ref a0 :: st) := by
  obtain ⟨⟨l, D, cy'⟩, p, e, R, s, m, args, below, meth, c, A, nL, X, Q⟩ := F
  obtain ⟨hx, hb, hml, hown, hts, hK, hA, hd1, hd2, hk1, hk2, hX⟩ := hF
  subst hcy
  subst e1
  subst e2
  subst e3
  intro H locs ls hP hD hS hl
  obtain ⟨q0, g1, -⟩ := head_at gs kg0 _ t0 hg0
  obtain ⟨q1, g2, g3⟩ := head_at gs kg1 _ t1 hg1
  exact va_copyi hx hb (by rw [hml]; exact hl.1.1.symm) hown (hts _ hm1) (hts _ hm2) (hts _ hm3) (hts _ hm4) hK hP hD hS q0 q1 0 0 g1 g2 rfl rfl rfl h1 h2 h3 h4 h5 (fun _ _ => rfl) (Nat.le_trans hdd hd1) (by rw [show nativeFrameWords "java/lang/System" "arraycopy" 5 = 7 by decide +kernel]; omega) d (fun H1 locs1 hP1 hD1 hS1 => kk H1 locs1 ls (by rw [← g3]; exact hP1) (by rw [← g3]; exact hD1) hS1 hl)
end GK7
