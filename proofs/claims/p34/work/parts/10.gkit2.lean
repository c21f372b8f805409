/-! MY KIT, second: the judgement and its rows -/
section GK3
abbrev Env3 : Type := Launch × va_G × (Nat → ClassId)
abbrev Ro : Type := Option (Nat × Nat × (Nat → Int32))
abbrev Fix : Type := Env3 × Program × Env × Room × State × MethodId × Array Value × List Frame × Method × Code × (Nat → Prop) × Nat × Ro × (State → Prop)
/-- the arrays' classes -/
def tyL (cy : Nat → ClassId) : List (ClassId × FieldType) := [(cy 0, .int), (cy 1, .object "Lantern$Moment"), (cy 2, .object "Lantern$Point"), (cy 3, .object "Lantern$Watch"), (cy 4, .object "Lantern$Tape"), (cy 5, .array .int)]
/-- the script, that is read alone -/
def roX (X : Ro) (U : State) (H : Heap) (A : Nat → Prop) : Prop := match X with
  | none => True
  | some (b, L, xs) => va_X b L xs U H ∧ b < H.size ∧ ¬ A b
def G (F : Fix) (k n : Nat) (gs : List va_W) (pc : Nat) (lv : List (Option Value)) (st : List Value) : Prop := match F with
  | ((l, D, _), p, e, R, s, m, args, below, meth, c, A, nL, _, Q) => ∀ (H : Heap) (locs : List Loc) (ls : Array Slot), va_P D vwCl gs.flatten H → va_D A gs.flatten → va_S A s.heap H locs → hasP ls nL lv → W p l e R s m args below meth c H locs k n Q (F0 m pc ls st)
def Ok (F : Fix) (cc : ByteArray) (own : String) (d kM nM : Nat) : Prop := match F with
  | ((_, D, cy), p, _, R, s, m, args, _, _, c, A, nL, X, _) => p.tables.exec = Jvm.exec ∧ c.code = cc ∧ c.maxLocals = nL ∧ s.vm.findClass own = some m.cls ∧ (∀ w ∈ bw, w.before args s = true) ∧ va_K D vwCl (tyL cy) s ∧ (∀ q : Nat, s.heap.size ≤ q → A q) ∧ d ≤ R.frames ∧ 30 * d ≤ R.locals ∧ kM ≤ R.cells ∧ nM ≤ R.slots ∧ roX X s s.heap A
def PostC (D : va_G) (sz : Nat) (gs : List va_W) (Po : Option Value → List va_W → Prop) : State → Outcome → State → Prop := fun st oc t => (∃ (r : Option Value) (gs' : List va_W), oc = .returned r ∧ Po r gs' ∧ va_P D vwCl gs'.flatten t.heap ∧ va_D (va_A gs.flatten sz) gs'.flatten) ∧ va_F (va_A gs.flatten sz) st t
def OkR (F : Fix) (gs : List va_W) (Po : Option Value → List va_W → Prop) (mc ms : Nat) (ret : Option FieldType) : Prop := match F with
  | ((_, D, _), _, _, _, s, _, args, below, meth, _, A, _, _, Q) => meth.sig.returnType = ret ∧ meth.locks = false ∧ A = va_A gs.flatten s.heap.size ∧ Q = MQ below (fun _ => PostC D s.heap.size gs Po) args s mc ms A
def OkN (F : Fix) (nm : String) : Prop := match F with
  | (_, _, _, _, _, _, _, _, meth, _, _, _, _, _) => meth.name = nm
/-- a contract: called with av in a world of the groups gs, it returns r and leaves gs' with Po r gs'; d: how deep its calls go; mc, ms: the cells and slots that it makes -/
def Ct (E : Env3) (X : Ro) (d mc ms : Nat) (y : MethodName) (bytes : ByteArray) (maxL : Nat) (ret : Option FieldType) (av : List Value) (gs : List va_W) (Po : Option Value → List va_W → Prop) : Prop :=
  ∀ sz : Nat, Met E.1 y (.code y bytes maxL ret :: bw) ({ frames := d, cells := mc, slots := ms, locals := 30 * d }) (va_Pc av (fun U => U.heap.size = sz ∧ va_P E.2.1 vwCl gs.flatten U.heap ∧ va_K E.2.1 vwCl (tyL E.2.2) U ∧ va_D (fun _ => True) gs.flatten ∧ roX X U U.heap (va_A gs.flatten sz))) (fun _ => PostC E.2.1 sz gs Po) mc ms (va_A gs.flatten sz)
/-- .. that answers r and leaves gs', and makes nothing -/
def Cd (E : Env3) (X : Ro) (d : Nat) (y : MethodName) (bytes : ByteArray) (maxL : Nat) (ret : Option FieldType) (av : List Value) (gs : List va_W) (r0 : Option Value) (g0 : List va_W) : Prop := Ct E X d 0 0 y bytes maxL ret av gs (fun r g => r = r0 ∧ g = g0)
theorem roX.kept {X : Ro} {s : State} {A : Nat → Prop} {H : Heap} {locs : List Loc} (h : roX X s s.heap A) (hS : va_S A s.heap H locs) {B : Nat → Prop} (hB : ∀ q, B q → A q) {U : State} (hU : U.heap = H) (hW : s.WarmedH U.vm) : roX X U U.heap B := by
  obtain _ | ⟨b, L, xs⟩ := X
  · trivial
  · obtain ⟨h1, h2, h3⟩ := h
    refine ⟨?_, ?_, fun z => h3 (hB b z)⟩
    · rw [hU]
      exact (h1.kept (hS.2.1 b h2 h3)).moved hW.alike
    · rw [hU]
      exact Nat.lt_of_lt_of_le h2 hS.1
theorem roX.blind {X : Ro} {U : State} {A : Nat → Prop} (g : JFrame) (mk : MethodId) (a : Array Value) (h : roX X U U.heap A) : roX X (U.calling g mk a) (U.calling g mk a).heap A := by
  obtain _ | ⟨b, L, xs⟩ := X
  · trivial
  · obtain ⟨h1, h2, h3⟩ := h
    exact ⟨h1.moved (U := U.calling g mk a) (Vm.Alike.refl U.vm), h2, h3⟩
theorem Ct.of {E : Env3} {X : Ro} {d mc ms : Nat} {y : MethodName} {bytes : ByteArray} {maxL : Nat} {ret : Option FieldType} {av : List Value} {gs : List va_W} {Po : Option Value → List va_W → Prop} (lv : List (Option Value)) (hy : plainName y.cls = true) (hlv : lv0 av ++ List.replicate (maxL - (lv0 av).length) none = lv) (hsl : (lv0 av).length ≤ maxL)
    (body : ∀ F : Fix, F.1 = E → Ok F bytes y.cls d mc ms → OkR F gs Po mc ms ret → OkN F y.name → G F 0 0 gs 0 lv []) : Ct E X d mc ms y bytes maxL ret av gs Po := by
  obtain ⟨l, D, cy⟩ := E
  intro sz
  refine Met.ofW (cc := bytes) (maxL := maxL) (ret := ret) hy rfl ?_
  intro p e s m args below meth c s₁ B hml hv
  obtain ⟨rfl, hsz, hP, hK, hD0, hX⟩ := hv
  subst hsz
  have hts := atoms_spec (ws := .code y bytes maxL ret :: bw) B.pre
  have hown : s.vm.findClass y.cls = some m.cls := findClass_of_methodNamed B.named
  have hD := hD0.self (sz := s.heap.size)
  have hl := lv_entry av (n := maxL) (by rw [lv0_len]; exact hsl)
  rw [lg_entry_eq]
  generalize hls : (lg_sl av ++ List.replicate (maxL - (lg_sl av).length) Slot.unset).toArray = ls at hl ⊢
  have hp : hasP ls maxL lv := by
    refine ⟨⟨hl.1, ?_⟩, hl.2.1, fun i v h => ?_⟩
    · rw [← hlv, List.length_append, List.length_replicate]; omega
    · rw [← hlv] at h
      exact hl.2.2 _ (lv0_pad h)
  exact body ((l, D, cy), p, e, (headSpec (.code y bytes maxL ret :: bw) { frames := d, cells := mc, slots := ms, locals := 30 * d }).room, s, m, av.toArray, below, meth, c, va_A gs.flatten s.heap.size, maxL, X, MQ below (fun _ => PostC D s.heap.size gs Po) av.toArray s mc ms (va_A gs.flatten s.heap.size)) rfl
    ⟨B.exec, B.bytes, hml, hown, fun w hw => hts w (List.mem_cons_of_mem _ hw), hK, fun q h => Or.inr h, Nat.le_refl _, Nat.le_refl _, Nat.le_refl _, Nat.le_refl _, hX⟩ ⟨B.returns, B.notSynchronized, rfl, rfl⟩ (name_of_methodNamed B.named B.method).1 s.heap [] ls hP hD va_S.rf hp
end GK3

section GK4
variable {F : Fix} {cc : ByteArray} {own : String} {dd kM nM k n pc : Nat} {gs : List va_W} {lv : List (Option Value)} {st : List Value}
theorem g_iconst {i : Int} {v : Int32} (hF : Ok F cc own dd kM nM) (d : decode cc pc = .ok (.iconst i, 1)) (hv : Int32.ofInt i = v) (kk : G F k n gs (pc + 1) lv (.int v :: st)) : G F k n gs pc lv st := by
  obtain ⟨⟨l, D, cy⟩, p, e, R, s, m, args, below, meth, c, A, nL, X, Q⟩ := F
  obtain ⟨hx, hb, hml, hown, hts, hK, hA, hd1, hd2, hk1, hk2, hX⟩ := hF
  intro H locs ls hP hD hS hl
  exact lv_iconst hx hb d hv (kk H locs ls hP hD hS hl)
theorem g_bipush {i : Int} {v : Int32} (hF : Ok F cc own dd kM nM) (d : decode cc pc = .ok (.bipush i, 2)) (hv : (Int8.ofInt i).toInt32 = v) (kk : G F k n gs (pc + 2) lv (.int v :: st)) : G F k n gs pc lv st := by
  obtain ⟨⟨l, D, cy⟩, p, e, R, s, m, args, below, meth, c, A, nL, X, Q⟩ := F
  obtain ⟨hx, hb, hml, hown, hts, hK, hA, hd1, hd2, hk1, hk2, hX⟩ := hF
  intro H locs ls hP hD hS hl
  exact lv_bipush hx hb d hv (kk H locs ls hP hD hS hl)
theorem g_sipush {i : Int} {v : Int32} (hF : Ok F cc own dd kM nM) (d : decode cc pc = .ok (.sipush i, 3)) (hv : (Int16.ofInt i).toInt32 = v) (kk : G F k n gs (pc + 3) lv (.int v :: st)) : G F k n gs pc lv st := by
  obtain ⟨⟨l, D, cy⟩, p, e, R, s, m, args, below, meth, c, A, nL, X, Q⟩ := F
  obtain ⟨hx, hb, hml, hown, hts, hK, hA, hd1, hd2, hk1, hk2, hX⟩ := hF
  intro H locs ls hP hD hS hl
  exact lv_sipush hx hb d hv (kk H locs ls hP hD hS hl)
theorem g_lconst {i : Fin 2} {v : Int64} (hF : Ok F cc own dd kM nM) (d : decode cc pc = .ok (.lconst i, 1)) (hv : Int64.ofNat (i : Nat) = v) (kk : G F k n gs (pc + 1) lv (.long v :: st)) : G F k n gs pc lv st := by
  obtain ⟨⟨l, D, cy⟩, p, e, R, s, m, args, below, meth, c, A, nL, X, Q⟩ := F
  obtain ⟨hx, hb, hml, hown, hts, hK, hA, hd1, hd2, hk1, hk2, hX⟩ := hF
  intro H locs ls hP hD hS hl
  exact lv_lconst hx hb d hv (kk H locs ls hP hD hS hl)
theorem g_ldc {i : Nat} {v : Int32} (hF : Ok F cc own dd kM nM) (hm : Cond.constant own i v ∈ bw) (d : decode cc pc = .ok (.ldc i, 2)) (kk : G F k n gs (pc + 2) lv (.int v :: st)) : G F k n gs pc lv st := by
  obtain ⟨⟨l, D, cy⟩, p, e, R, s, m, args, below, meth, c, A, nL, X, Q⟩ := F
  obtain ⟨hx, hb, hml, hown, hts, hK, hA, hd1, hd2, hk1, hk2, hX⟩ := hF
  intro H locs ls hP hD hS hl
  exact lv_ldc hx hb hown (hts _ hm) d (kk H locs ls hP hD hS hl)
theorem g_ldc2 {i : Nat} {v : Int64} (hF : Ok F cc own dd kM nM) (hm : Cond.constantLong own i v ∈ bw) (d : decode cc pc = .ok (.ldc2_w i, 3)) (kk : G F k n gs (pc + 3) lv (.long v :: st)) : G F k n gs pc lv st := by
  obtain ⟨⟨l, D, cy⟩, p, e, R, s, m, args, below, meth, c, A, nL, X, Q⟩ := F
  obtain ⟨hx, hb, hml, hown, hts, hK, hA, hd1, hd2, hk1, hk2, hX⟩ := hF
  intro H locs ls hP hD hS hl
  exact lv_ldc2 hx hb hown (hts _ hm) d (kk H locs ls hP hD hS hl)
theorem g_dconst0  (hF : Ok F cc own dd kM nM) (d : decode cc pc = .ok (.dconst 0, 1)) (kk : G F k n gs (pc + 1) lv (.double 0 :: st)) : G F k n gs pc lv st := by
  obtain ⟨⟨l, D, cy⟩, p, e, R, s, m, args, below, meth, c, A, nL, X, Q⟩ := F
  obtain ⟨hx, hb, hml, hown, hts, hK, hA, hd1, hd2, hk1, hk2, hX⟩ := hF
  intro H locs ls hP hD hS hl
  exact lv_dconst0 hx hb d (kk H locs ls hP hD hS hl)
theorem g_null  (hF : Ok F cc own dd kM nM) (d : decode cc pc = .ok (.aconst_null, 1)) (kk : G F k n gs (pc + 1) lv (.null :: st)) : G F k n gs pc lv st := by
  obtain ⟨⟨l, D, cy⟩, p, e, R, s, m, args, below, meth, c, A, nL, X, Q⟩ := F
  obtain ⟨hx, hb, hml, hown, hts, hK, hA, hd1, hd2, hk1, hk2, hX⟩ := hF
  intro H locs ls hP hD hS hl
  exact lv_null hx hb d (kk H locs ls hP hD hS hl)
theorem g_iload_n {j : Fin 4} {x : Int32} (hF : Ok F cc own dd kM nM) (d : decode cc pc = .ok (.iload_n j, 1)) (h : lv[(j : Nat)]? = some (some (.int x))) (kk : G F k n gs (pc + 1) lv (.int x :: st)) : G F k n gs pc lv st := by
  obtain ⟨⟨l, D, cy⟩, p, e, R, s, m, args, below, meth, c, A, nL, X, Q⟩ := F
  obtain ⟨hx, hb, hml, hown, hts, hK, hA, hd1, hd2, hk1, hk2, hX⟩ := hF
  intro H locs ls hP hD hS hl
  exact lv_iload_n hx hb d rfl (hl.2.2 _ _ h) (kk H locs ls hP hD hS hl)
theorem g_iload {i : Nat} {x : Int32} (hF : Ok F cc own dd kM nM) (d : decode cc pc = .ok (.iload i, 2)) (h : lv[i]? = some (some (.int x))) (kk : G F k n gs (pc + 2) lv (.int x :: st)) : G F k n gs pc lv st := by
  obtain ⟨⟨l, D, cy⟩, p, e, R, s, m, args, below, meth, c, A, nL, X, Q⟩ := F
  obtain ⟨hx, hb, hml, hown, hts, hK, hA, hd1, hd2, hk1, hk2, hX⟩ := hF
  intro H locs ls hP hD hS hl
  exact lv_iload hx hb d (hl.2.2 _ _ h) (kk H locs ls hP hD hS hl)
theorem g_lload_n {j : Fin 4} {x : Int64} (hF : Ok F cc own dd kM nM) (d : decode cc pc = .ok (.lload_n j, 1)) (h : lv[(j : Nat)]? = some (some (.long x))) (kk : G F k n gs (pc + 1) lv (.long x :: st)) : G F k n gs pc lv st := by
  obtain ⟨⟨l, D, cy⟩, p, e, R, s, m, args, below, meth, c, A, nL, X, Q⟩ := F
  obtain ⟨hx, hb, hml, hown, hts, hK, hA, hd1, hd2, hk1, hk2, hX⟩ := hF
  intro H locs ls hP hD hS hl
  exact lv_lload_n hx hb d rfl (hl.2.2 _ _ h) (kk H locs ls hP hD hS hl)
theorem g_lload {i : Nat} {x : Int64} (hF : Ok F cc own dd kM nM) (d : decode cc pc = .ok (.lload i, 2)) (h : lv[i]? = some (some (.long x))) (kk : G F k n gs (pc + 2) lv (.long x :: st)) : G F k n gs pc lv st := by
  obtain ⟨⟨l, D, cy⟩, p, e, R, s, m, args, below, meth, c, A, nL, X, Q⟩ := F
  obtain ⟨hx, hb, hml, hown, hts, hK, hA, hd1, hd2, hk1, hk2, hX⟩ := hF
  intro H locs ls hP hD hS hl
  exact lv_lload hx hb d (hl.2.2 _ _ h) (kk H locs ls hP hD hS hl)
theorem g_aload_n {j : Fin 4} {x : Nat} (hF : Ok F cc own dd kM nM) (d : decode cc pc = .ok (.aload_n j, 1)) (h : lv[(j : Nat)]? = some (some (.ref x))) (kk : G F k n gs (pc + 1) lv (.ref x :: st)) : G F k n gs pc lv st := by
  obtain ⟨⟨l, D, cy⟩, p, e, R, s, m, args, below, meth, c, A, nL, X, Q⟩ := F
  obtain ⟨hx, hb, hml, hown, hts, hK, hA, hd1, hd2, hk1, hk2, hX⟩ := hF
  intro H locs ls hP hD hS hl
  exact lv_aload_n hx hb d rfl (hl.2.2 _ _ h) (kk H locs ls hP hD hS hl)
theorem g_aload {i : Nat} {x : Nat} (hF : Ok F cc own dd kM nM) (d : decode cc pc = .ok (.aload i, 2)) (h : lv[i]? = some (some (.ref x))) (kk : G F k n gs (pc + 2) lv (.ref x :: st)) : G F k n gs pc lv st := by
  obtain ⟨⟨l, D, cy⟩, p, e, R, s, m, args, below, meth, c, A, nL, X, Q⟩ := F
  obtain ⟨hx, hb, hml, hown, hts, hK, hA, hd1, hd2, hk1, hk2, hX⟩ := hF
  intro H locs ls hP hD hS hl
  exact lv_aload hx hb d (hl.2.2 _ _ h) (kk H locs ls hP hD hS hl)
theorem g_aload_nN {j : Fin 4} (hF : Ok F cc own dd kM nM) (d : decode cc pc = .ok (.aload_n j, 1)) (h : lv[(j : Nat)]? = some (some .null)) (kk : G F k n gs (pc + 1) lv (.null :: st)) : G F k n gs pc lv st := by
  obtain ⟨⟨l, D, cy⟩, p, e, R, s, m, args, below, meth, c, A, nL, X, Q⟩ := F
  obtain ⟨hx, hb, hml, hown, hts, hK, hA, hd1, hd2, hk1, hk2, hX⟩ := hF
  intro H locs ls hP hD hS hl
  exact lv_aload_nN hx hb d rfl (hl.2.2 _ _ h) (kk H locs ls hP hD hS hl)
theorem g_aloadN {i : Nat} (hF : Ok F cc own dd kM nM) (d : decode cc pc = .ok (.aload i, 2)) (h : lv[i]? = some (some .null)) (kk : G F k n gs (pc + 2) lv (.null :: st)) : G F k n gs pc lv st := by
  obtain ⟨⟨l, D, cy⟩, p, e, R, s, m, args, below, meth, c, A, nL, X, Q⟩ := F
  obtain ⟨hx, hb, hml, hown, hts, hK, hA, hd1, hd2, hk1, hk2, hX⟩ := hF
  intro H locs ls hP hD hS hl
  exact lv_aloadN hx hb d (hl.2.2 _ _ h) (kk H locs ls hP hD hS hl)
theorem g_istore_n {j : Fin 4} {x : Int32} (hF : Ok F cc own dd kM nM) (d : decode cc pc = .ok (.istore_n j, 1)) (hi : (j : Nat) < lv.length) (ho : okst lv (j : Nat) = true) (kk : G F k n gs (pc + 1) (lv.set (j : Nat) (some (.int x))) st) : G F k n gs pc lv ((.int x) :: st) := by
  obtain ⟨⟨l, D, cy⟩, p, e, R, s, m, args, below, meth, c, A, nL, X, Q⟩ := F
  obtain ⟨hx, hb, hml, hown, hts, hK, hA, hd1, hd2, hk1, hk2, hX⟩ := hF
  intro H locs ls hP hD hS hl
  exact lv_istore_n hx hb d rfl (hasP_has hl) (by rw [← hl.1.2]; exact hi) rfl (fun ls1 hl1 => kk H locs ls1 hP hD hS (hasP_set hl.1.2 ho hl1))
theorem g_istore {i : Nat} {x : Int32} (hF : Ok F cc own dd kM nM) (d : decode cc pc = .ok (.istore i, 2)) (hi : i < lv.length) (ho : okst lv i = true) (kk : G F k n gs (pc + 2) (lv.set i (some (.int x))) st) : G F k n gs pc lv ((.int x) :: st) := by
  obtain ⟨⟨l, D, cy⟩, p, e, R, s, m, args, below, meth, c, A, nL, X, Q⟩ := F
  obtain ⟨hx, hb, hml, hown, hts, hK, hA, hd1, hd2, hk1, hk2, hX⟩ := hF
  intro H locs ls hP hD hS hl
  exact lv_istore hx hb d (hasP_has hl) (by rw [← hl.1.2]; exact hi) rfl (fun ls1 hl1 => kk H locs ls1 hP hD hS (hasP_set hl.1.2 ho hl1))
theorem g_astore_n {j : Fin 4} {x : Nat} (hF : Ok F cc own dd kM nM) (d : decode cc pc = .ok (.astore_n j, 1)) (hi : (j : Nat) < lv.length) (ho : okst lv (j : Nat) = true) (kk : G F k n gs (pc + 1) (lv.set (j : Nat) (some (.ref x))) st) : G F k n gs pc lv ((.ref x) :: st) := by
  obtain ⟨⟨l, D, cy⟩, p, e, R, s, m, args, below, meth, c, A, nL, X, Q⟩ := F
  obtain ⟨hx, hb, hml, hown, hts, hK, hA, hd1, hd2, hk1, hk2, hX⟩ := hF
  intro H locs ls hP hD hS hl
  exact lv_astore_n hx hb d rfl (hasP_has hl) (by rw [← hl.1.2]; exact hi) rfl (fun ls1 hl1 => kk H locs ls1 hP hD hS (hasP_set hl.1.2 ho hl1))
theorem g_astore {i : Nat} {x : Nat} (hF : Ok F cc own dd kM nM) (d : decode cc pc = .ok (.astore i, 2)) (hi : i < lv.length) (ho : okst lv i = true) (kk : G F k n gs (pc + 2) (lv.set i (some (.ref x))) st) : G F k n gs pc lv ((.ref x) :: st) := by
  obtain ⟨⟨l, D, cy⟩, p, e, R, s, m, args, below, meth, c, A, nL, X, Q⟩ := F
  obtain ⟨hx, hb, hml, hown, hts, hK, hA, hd1, hd2, hk1, hk2, hX⟩ := hF
  intro H locs ls hP hD hS hl
  exact lv_astore hx hb d (hasP_has hl) (by rw [← hl.1.2]; exact hi) rfl (fun ls1 hl1 => kk H locs ls1 hP hD hS (hasP_set hl.1.2 ho hl1))
theorem g_astore_nN {j : Fin 4}  (hF : Ok F cc own dd kM nM) (d : decode cc pc = .ok (.astore_n j, 1)) (hi : (j : Nat) < lv.length) (ho : okst lv (j : Nat) = true) (kk : G F k n gs (pc + 1) (lv.set (j : Nat) (some .null)) st) : G F k n gs pc lv (.null :: st) := by
  obtain ⟨⟨l, D, cy⟩, p, e, R, s, m, args, below, meth, c, A, nL, X, Q⟩ := F
  obtain ⟨hx, hb, hml, hown, hts, hK, hA, hd1, hd2, hk1, hk2, hX⟩ := hF
  intro H locs ls hP hD hS hl
  exact lv_astore_nN hx hb d rfl (hasP_has hl) (by rw [← hl.1.2]; exact hi) rfl (fun ls1 hl1 => kk H locs ls1 hP hD hS (hasP_set hl.1.2 ho hl1))
theorem g_astoreN {i : Nat}  (hF : Ok F cc own dd kM nM) (d : decode cc pc = .ok (.astore i, 2)) (hi : i < lv.length) (ho : okst lv i = true) (kk : G F k n gs (pc + 2) (lv.set i (some .null)) st) : G F k n gs pc lv (.null :: st) := by
  obtain ⟨⟨l, D, cy⟩, p, e, R, s, m, args, below, meth, c, A, nL, X, Q⟩ := F
  obtain ⟨hx, hb, hml, hown, hts, hK, hA, hd1, hd2, hk1, hk2, hX⟩ := hF
  intro H locs ls hP hD hS hl
  exact lv_astoreN hx hb d (hasP_has hl) (by rw [← hl.1.2]; exact hi) rfl (fun ls1 hl1 => kk H locs ls1 hP hD hS (hasP_set hl.1.2 ho hl1))
theorem g_lstore_n {j : Fin 4} {x : Int64} (hF : Ok F cc own dd kM nM) (d : decode cc pc = .ok (.lstore_n j, 1)) (hi : (j : Nat) + 1 < lv.length) (ho : okst lv (j : Nat) = true) (kk : G F k n gs (pc + 1) ((lv.set (j : Nat) (some (.long x))).set ((j : Nat) + 1) none) st) : G F k n gs pc lv (.long x :: st) := by
  obtain ⟨⟨l, D, cy⟩, p, e, R, s, m, args, below, meth, c, A, nL, X, Q⟩ := F
  obtain ⟨hx, hb, hml, hown, hts, hK, hA, hd1, hd2, hk1, hk2, hX⟩ := hF
  intro H locs ls hP hD hS hl
  exact lv_lstore_n hx hb d rfl (hasP_has hl) (by rw [← hl.1.2]; exact hi) rfl (fun ls1 hl1 => kk H locs ls1 hP hD hS (hasP_set2 hl.1.2 ho hl1))
theorem g_lstore {i : Nat} {x : Int64} (hF : Ok F cc own dd kM nM) (d : decode cc pc = .ok (.lstore i, 2)) (hi : i + 1 < lv.length) (ho : okst lv i = true) (kk : G F k n gs (pc + 2) ((lv.set i (some (.long x))).set (i + 1) none) st) : G F k n gs pc lv (.long x :: st) := by
  obtain ⟨⟨l, D, cy⟩, p, e, R, s, m, args, below, meth, c, A, nL, X, Q⟩ := F
  obtain ⟨hx, hb, hml, hown, hts, hK, hA, hd1, hd2, hk1, hk2, hX⟩ := hF
  intro H locs ls hP hD hS hl
  exact lv_lstore hx hb d (hasP_has hl) (by rw [← hl.1.2]; exact hi) rfl (fun ls1 hl1 => kk H locs ls1 hP hD hS (hasP_set2 hl.1.2 ho hl1))
theorem g_iinc {i : Nat} {z : Int} {x v : Int32} (hF : Ok F cc own dd kM nM) (d : decode cc pc = .ok (.iinc i z, 3)) (h : lv[i]? = some (some (.int x))) (hv : x + Int32.ofInt z = v) (ho : okst lv i = true) (kk : G F k n gs (pc + 3) (lv.set i (some (.int v))) st) : G F k n gs pc lv st := by
  obtain ⟨⟨l, D, cy⟩, p, e, R, s, m, args, below, meth, c, A, nL, X, Q⟩ := F
  obtain ⟨hx, hb, hml, hown, hts, hK, hA, hd1, hd2, hk1, hk2, hX⟩ := hF
  intro H locs ls hP hD hS hl
  obtain ⟨j, hj⟩ := List.getElem?_of_mem (mem_prs.mpr h)
  exact lv_iinc hx hb d (hasP_has hl) hj hv (by rw [← hl.1.2]; exact (List.getElem?_eq_some_iff.mp h).1) rfl (fun ls1 hl1 => kk H locs ls1 hP hD hS (hasP_set hl.1.2 ho hl1))
theorem g_iadd {x y : Int32} (hF : Ok F cc own dd kM nM) (d : decode cc pc = .ok (.iadd, 1)) (kk : G F k n gs (pc + 1) lv (.int (x + y) :: st)) : G F k n gs pc lv (.int y :: .int x :: st) := by
  obtain ⟨⟨l, D, cy⟩, p, e, R, s, m, args, below, meth, c, A, nL, X, Q⟩ := F
  obtain ⟨hx, hb, hml, hown, hts, hK, hA, hd1, hd2, hk1, hk2, hX⟩ := hF
  intro H locs ls hP hD hS hl
  exact lv_iadd hx hb d (kk H locs ls hP hD hS hl)
theorem g_isub {x y : Int32} (hF : Ok F cc own dd kM nM) (d : decode cc pc = .ok (.isub, 1)) (kk : G F k n gs (pc + 1) lv (.int (x - y) :: st)) : G F k n gs pc lv (.int y :: .int x :: st) := by
  obtain ⟨⟨l, D, cy⟩, p, e, R, s, m, args, below, meth, c, A, nL, X, Q⟩ := F
  obtain ⟨hx, hb, hml, hown, hts, hK, hA, hd1, hd2, hk1, hk2, hX⟩ := hF
  intro H locs ls hP hD hS hl
  exact lv_isub hx hb d (kk H locs ls hP hD hS hl)
theorem g_imul {x y : Int32} (hF : Ok F cc own dd kM nM) (d : decode cc pc = .ok (.imul, 1)) (kk : G F k n gs (pc + 1) lv (.int (x * y) :: st)) : G F k n gs pc lv (.int y :: .int x :: st) := by
  obtain ⟨⟨l, D, cy⟩, p, e, R, s, m, args, below, meth, c, A, nL, X, Q⟩ := F
  obtain ⟨hx, hb, hml, hown, hts, hK, hA, hd1, hd2, hk1, hk2, hX⟩ := hF
  intro H locs ls hP hD hS hl
  exact lv_imul hx hb d (kk H locs ls hP hD hS hl)
theorem g_iand {x y : Int32} (hF : Ok F cc own dd kM nM) (d : decode cc pc = .ok (.iand, 1)) (kk : G F k n gs (pc + 1) lv (.int (x &&& y) :: st)) : G F k n gs pc lv (.int y :: .int x :: st) := by
  obtain ⟨⟨l, D, cy⟩, p, e, R, s, m, args, below, meth, c, A, nL, X, Q⟩ := F
  obtain ⟨hx, hb, hml, hown, hts, hK, hA, hd1, hd2, hk1, hk2, hX⟩ := hF
  intro H locs ls hP hD hS hl
  exact lv_iand hx hb d (kk H locs ls hP hD hS hl)
theorem g_ishr {x y : Int32} (hF : Ok F cc own dd kM nM) (d : decode cc pc = .ok (.ishr, 1)) (kk : G F k n gs (pc + 1) lv (.int (x >>> (y &&& 31)) :: st)) : G F k n gs pc lv (.int y :: .int x :: st) := by
  obtain ⟨⟨l, D, cy⟩, p, e, R, s, m, args, below, meth, c, A, nL, X, Q⟩ := F
  obtain ⟨hx, hb, hml, hown, hts, hK, hA, hd1, hd2, hk1, hk2, hX⟩ := hF
  intro H locs ls hP hD hS hl
  exact lv_ishr hx hb d (kk H locs ls hP hD hS hl)
theorem g_idiv {x y : Int32} (hF : Ok F cc own dd kM nM) (d : decode cc pc = .ok (.idiv, 1)) (hne : ¬ y = 0) (kk : G F k n gs (pc + 1) lv (.int (x / y) :: st)) : G F k n gs pc lv (.int y :: .int x :: st) := by
  obtain ⟨⟨l, D, cy⟩, p, e, R, s, m, args, below, meth, c, A, nL, X, Q⟩ := F
  obtain ⟨hx, hb, hml, hown, hts, hK, hA, hd1, hd2, hk1, hk2, hX⟩ := hF
  intro H locs ls hP hD hS hl
  exact lv_idiv hx hb d hne (kk H locs ls hP hD hS hl)
theorem g_irem {x y : Int32} (hF : Ok F cc own dd kM nM) (d : decode cc pc = .ok (.irem, 1)) (hne : ¬ y = 0) (kk : G F k n gs (pc + 1) lv (.int (x - x / y * y) :: st)) : G F k n gs pc lv (.int y :: .int x :: st) := by
  obtain ⟨⟨l, D, cy⟩, p, e, R, s, m, args, below, meth, c, A, nL, X, Q⟩ := F
  obtain ⟨hx, hb, hml, hown, hts, hK, hA, hd1, hd2, hk1, hk2, hX⟩ := hF
  intro H locs ls hP hD hS hl
  exact lv_irem hx hb d hne (kk H locs ls hP hD hS hl)
theorem g_ladd {x y : Int64} (hF : Ok F cc own dd kM nM) (d : decode cc pc = .ok (.ladd, 1)) (kk : G F k n gs (pc + 1) lv (.long (x + y) :: st)) : G F k n gs pc lv (.long y :: .long x :: st) := by
  obtain ⟨⟨l, D, cy⟩, p, e, R, s, m, args, below, meth, c, A, nL, X, Q⟩ := F
  obtain ⟨hx, hb, hml, hown, hts, hK, hA, hd1, hd2, hk1, hk2, hX⟩ := hF
  intro H locs ls hP hD hS hl
  exact lv_ladd hx hb d (kk H locs ls hP hD hS hl)
theorem g_lmul {x y : Int64} (hF : Ok F cc own dd kM nM) (d : decode cc pc = .ok (.lmul, 1)) (kk : G F k n gs (pc + 1) lv (.long (x * y) :: st)) : G F k n gs pc lv (.long y :: .long x :: st) := by
  obtain ⟨⟨l, D, cy⟩, p, e, R, s, m, args, below, meth, c, A, nL, X, Q⟩ := F
  obtain ⟨hx, hb, hml, hown, hts, hK, hA, hd1, hd2, hk1, hk2, hX⟩ := hF
  intro H locs ls hP hD hS hl
  exact lv_lmul hx hb d (kk H locs ls hP hD hS hl)
theorem g_i2l {x : Int32} (hF : Ok F cc own dd kM nM) (d : decode cc pc = .ok (.i2l, 1)) (kk : G F k n gs (pc + 1) lv (.long x.toInt64 :: st)) : G F k n gs pc lv (.int x :: st) := by
  obtain ⟨⟨l, D, cy⟩, p, e, R, s, m, args, below, meth, c, A, nL, X, Q⟩ := F
  obtain ⟨hx, hb, hml, hown, hts, hK, hA, hd1, hd2, hk1, hk2, hX⟩ := hF
  intro H locs ls hP hD hS hl
  exact lv_i2l hx hb d rfl (kk H locs ls hP hD hS hl)
theorem g_i2d {x : Int32} (hF : Ok F cc own dd kM nM) (d : decode cc pc = .ok (.i2d, 1)) (kk : G F k n gs (pc + 1) lv (.double (FP.i2d x) :: st)) : G F k n gs pc lv (.int x :: st) := by
  obtain ⟨⟨l, D, cy⟩, p, e, R, s, m, args, below, meth, c, A, nL, X, Q⟩ := F
  obtain ⟨hx, hb, hml, hown, hts, hK, hA, hd1, hd2, hk1, hk2, hX⟩ := hF
  intro H locs ls hP hD hS hl
  exact lv_i2d hx hb d (kk H locs ls hP hD hS hl)
theorem g_ddiv {x y : UInt64} (hF : Ok F cc own dd kM nM) (d : decode cc pc = .ok (.ddiv, 1)) (hne : vf_n64 (FP.ddiv x y)) (kk : G F k n gs (pc + 1) lv (.double (FP.ddiv x y) :: st)) : G F k n gs pc lv (.double y :: .double x :: st) := by
  obtain ⟨⟨l, D, cy⟩, p, e, R, s, m, args, below, meth, c, A, nL, X, Q⟩ := F
  obtain ⟨hx, hb, hml, hown, hts, hK, hA, hd1, hd2, hk1, hk2, hX⟩ := hF
  intro H locs ls hP hD hS hl
  exact lv_ddiv hx hb d hne (kk H locs ls hP hD hS hl)
theorem g_dcmp {x y : UInt64} {op : CmpOp} (hF : Ok F cc own dd kM nM) (d : decode cc pc = .ok (.dcmp op, 1)) (kk : G F k n gs (pc + 1) lv (.int (Op.cmpValue (FP.dcmp x y) op) :: st)) : G F k n gs pc lv (.double y :: .double x :: st) := by
  obtain ⟨⟨l, D, cy⟩, p, e, R, s, m, args, below, meth, c, A, nL, X, Q⟩ := F
  obtain ⟨hx, hb, hml, hown, hts, hK, hA, hd1, hd2, hk1, hk2, hX⟩ := hF
  intro H locs ls hP hD hS hl
  exact lv_dcmp hx hb d (kk H locs ls hP hD hS hl)
theorem g_lcmp {x y : Int64} (hF : Ok F cc own dd kM nM) (d : decode cc pc = .ok (.lcmp, 1)) (kk : G F k n gs (pc + 1) lv (.int (lg_cmp x y) :: st)) : G F k n gs pc lv (.long y :: .long x :: st) := by
  obtain ⟨⟨l, D, cy⟩, p, e, R, s, m, args, below, meth, c, A, nL, X, Q⟩ := F
  obtain ⟨hx, hb, hml, hown, hts, hK, hA, hd1, hd2, hk1, hk2, hX⟩ := hF
  intro H locs ls hP hD hS hl
  exact W.lcmp hx hb d (kk H locs ls hP hD hS hl)
theorem g_dup {v : Value} (hF : Ok F cc own dd kM nM) (d : decode cc pc = .ok (.dup, 1)) (hv : v.category = 1) (kk : G F k n gs (pc + 1) lv (v :: v :: st)) : G F k n gs pc lv (v :: st) := by
  obtain ⟨⟨l, D, cy⟩, p, e, R, s, m, args, below, meth, c, A, nL, X, Q⟩ := F
  obtain ⟨hx, hb, hml, hown, hts, hK, hA, hd1, hd2, hk1, hk2, hX⟩ := hF
  intro H locs ls hP hD hS hl
  exact lv_dup hx hb d hv (kk H locs ls hP hD hS hl)
theorem g_dup_x1 {v w : Value} (hF : Ok F cc own dd kM nM) (d : decode cc pc = .ok (.dup_x1, 1)) (hv : v.category = 1) (hw : w.category = 1) (kk : G F k n gs (pc + 1) lv (v :: w :: v :: st)) : G F k n gs pc lv (v :: w :: st) := by
  obtain ⟨⟨l, D, cy⟩, p, e, R, s, m, args, below, meth, c, A, nL, X, Q⟩ := F
  obtain ⟨hx, hb, hml, hown, hts, hK, hA, hd1, hd2, hk1, hk2, hX⟩ := hF
  intro H locs ls hP hD hS hl
  exact lv_dup_x1 hx hb d hv hw (kk H locs ls hP hD hS hl)
theorem g_pop {v : Value} (hF : Ok F cc own dd kM nM) (d : decode cc pc = .ok (.pop, 1)) (hv : v.category = 1) (kk : G F k n gs (pc + 1) lv st) : G F k n gs pc lv (v :: st) := by
  obtain ⟨⟨l, D, cy⟩, p, e, R, s, m, args, below, meth, c, A, nL, X, Q⟩ := F
  obtain ⟨hx, hb, hml, hown, hts, hK, hA, hd1, hd2, hk1, hk2, hX⟩ := hF
  intro H locs ls hP hD hS hl
  exact lv_pop hx hb d hv (kk H locs ls hP hD hS hl)
theorem g_if_eq {x : Int32} (hF : Ok F cc own dd kM nM) {off : Int} {tgt : Nat} (d : decode cc pc = .ok (.ifCond .eq off, 3)) (ht : (pc : Int) + off = (tgt : Int)) (kt : x = 0 → G F k n gs tgt lv st) (kf : ¬ x = 0 → G F k n gs (pc + 3) lv st) : G F k n gs pc lv (.int x :: st) := by
  obtain ⟨⟨l, D, cy⟩, p, e, R, s, m, args, below, meth, c, A, nL, X, Q⟩ := F
  obtain ⟨hx, hb, hml, hown, hts, hK, hA, hd1, hd2, hk1, hk2, hX⟩ := hF
  intro H locs ls hP hD hS hl
  exact lv_if_eq hx hb d ht (fun q => kt q H locs ls hP hD hS hl) (fun q => kf q H locs ls hP hD hS hl)
theorem g_if_ne {x : Int32} (hF : Ok F cc own dd kM nM) {off : Int} {tgt : Nat} (d : decode cc pc = .ok (.ifCond .ne off, 3)) (ht : (pc : Int) + off = (tgt : Int)) (kt : ¬ x = 0 → G F k n gs tgt lv st) (kf : x = 0 → G F k n gs (pc + 3) lv st) : G F k n gs pc lv (.int x :: st) := by
  obtain ⟨⟨l, D, cy⟩, p, e, R, s, m, args, below, meth, c, A, nL, X, Q⟩ := F
  obtain ⟨hx, hb, hml, hown, hts, hK, hA, hd1, hd2, hk1, hk2, hX⟩ := hF
  intro H locs ls hP hD hS hl
  exact lv_if_ne hx hb d ht (fun q => kt q H locs ls hP hD hS hl) (fun q => kf q H locs ls hP hD hS hl)
theorem g_if_lt {x : Int32} (hF : Ok F cc own dd kM nM) {off : Int} {tgt : Nat} (d : decode cc pc = .ok (.ifCond .lt off, 3)) (ht : (pc : Int) + off = (tgt : Int)) (kt : x < 0 → G F k n gs tgt lv st) (kf : ¬ x < 0 → G F k n gs (pc + 3) lv st) : G F k n gs pc lv (.int x :: st) := by
  obtain ⟨⟨l, D, cy⟩, p, e, R, s, m, args, below, meth, c, A, nL, X, Q⟩ := F
  obtain ⟨hx, hb, hml, hown, hts, hK, hA, hd1, hd2, hk1, hk2, hX⟩ := hF
  intro H locs ls hP hD hS hl
  exact lv_if_lt hx hb d ht (fun q => kt q H locs ls hP hD hS hl) (fun q => kf q H locs ls hP hD hS hl)
theorem g_if_ge {x : Int32} (hF : Ok F cc own dd kM nM) {off : Int} {tgt : Nat} (d : decode cc pc = .ok (.ifCond .ge off, 3)) (ht : (pc : Int) + off = (tgt : Int)) (kt : 0 ≤ x → G F k n gs tgt lv st) (kf : ¬ 0 ≤ x → G F k n gs (pc + 3) lv st) : G F k n gs pc lv (.int x :: st) := by
  obtain ⟨⟨l, D, cy⟩, p, e, R, s, m, args, below, meth, c, A, nL, X, Q⟩ := F
  obtain ⟨hx, hb, hml, hown, hts, hK, hA, hd1, hd2, hk1, hk2, hX⟩ := hF
  intro H locs ls hP hD hS hl
  exact lv_if_ge hx hb d ht (fun q => kt q H locs ls hP hD hS hl) (fun q => kf q H locs ls hP hD hS hl)
theorem g_if_gt {x : Int32} (hF : Ok F cc own dd kM nM) {off : Int} {tgt : Nat} (d : decode cc pc = .ok (.ifCond .gt off, 3)) (ht : (pc : Int) + off = (tgt : Int)) (kt : 0 < x → G F k n gs tgt lv st) (kf : ¬ 0 < x → G F k n gs (pc + 3) lv st) : G F k n gs pc lv (.int x :: st) := by
  obtain ⟨⟨l, D, cy⟩, p, e, R, s, m, args, below, meth, c, A, nL, X, Q⟩ := F
  obtain ⟨hx, hb, hml, hown, hts, hK, hA, hd1, hd2, hk1, hk2, hX⟩ := hF
  intro H locs ls hP hD hS hl
  exact lv_if_gt hx hb d ht (fun q => kt q H locs ls hP hD hS hl) (fun q => kf q H locs ls hP hD hS hl)
theorem g_if_le {x : Int32} (hF : Ok F cc own dd kM nM) {off : Int} {tgt : Nat} (d : decode cc pc = .ok (.ifCond .le off, 3)) (ht : (pc : Int) + off = (tgt : Int)) (kt : x ≤ 0 → G F k n gs tgt lv st) (kf : ¬ x ≤ 0 → G F k n gs (pc + 3) lv st) : G F k n gs pc lv (.int x :: st) := by
  obtain ⟨⟨l, D, cy⟩, p, e, R, s, m, args, below, meth, c, A, nL, X, Q⟩ := F
  obtain ⟨hx, hb, hml, hown, hts, hK, hA, hd1, hd2, hk1, hk2, hX⟩ := hF
  intro H locs ls hP hD hS hl
  exact lv_if_le hx hb d ht (fun q => kt q H locs ls hP hD hS hl) (fun q => kf q H locs ls hP hD hS hl)
theorem g_icmp_eq {x y : Int32} (hF : Ok F cc own dd kM nM) {off : Int} {tgt : Nat} (d : decode cc pc = .ok (.if_icmp .eq off, 3)) (ht : (pc : Int) + off = (tgt : Int)) (kt : x = y → G F k n gs tgt lv st) (kf : ¬ x = y → G F k n gs (pc + 3) lv st) : G F k n gs pc lv (.int y :: .int x :: st) := by
  obtain ⟨⟨l, D, cy⟩, p, e, R, s, m, args, below, meth, c, A, nL, X, Q⟩ := F
  obtain ⟨hx, hb, hml, hown, hts, hK, hA, hd1, hd2, hk1, hk2, hX⟩ := hF
  intro H locs ls hP hD hS hl
  exact lv_icmp_eq hx hb d ht (fun q => kt q H locs ls hP hD hS hl) (fun q => kf q H locs ls hP hD hS hl)
theorem g_icmp_ne {x y : Int32} (hF : Ok F cc own dd kM nM) {off : Int} {tgt : Nat} (d : decode cc pc = .ok (.if_icmp .ne off, 3)) (ht : (pc : Int) + off = (tgt : Int)) (kt : ¬ x = y → G F k n gs tgt lv st) (kf : x = y → G F k n gs (pc + 3) lv st) : G F k n gs pc lv (.int y :: .int x :: st) := by
  obtain ⟨⟨l, D, cy⟩, p, e, R, s, m, args, below, meth, c, A, nL, X, Q⟩ := F
  obtain ⟨hx, hb, hml, hown, hts, hK, hA, hd1, hd2, hk1, hk2, hX⟩ := hF
  intro H locs ls hP hD hS hl
  exact lv_icmp_ne hx hb d ht (fun q => kt q H locs ls hP hD hS hl) (fun q => kf q H locs ls hP hD hS hl)
theorem g_icmp_lt {x y : Int32} (hF : Ok F cc own dd kM nM) {off : Int} {tgt : Nat} (d : decode cc pc = .ok (.if_icmp .lt off, 3)) (ht : (pc : Int) + off = (tgt : Int)) (kt : x < y → G F k n gs tgt lv st) (kf : ¬ x < y → G F k n gs (pc + 3) lv st) : G F k n gs pc lv (.int y :: .int x :: st) := by
  obtain ⟨⟨l, D, cy⟩, p, e, R, s, m, args, below, meth, c, A, nL, X, Q⟩ := F
  obtain ⟨hx, hb, hml, hown, hts, hK, hA, hd1, hd2, hk1, hk2, hX⟩ := hF
  intro H locs ls hP hD hS hl
  exact lv_icmp_lt hx hb d ht (fun q => kt q H locs ls hP hD hS hl) (fun q => kf q H locs ls hP hD hS hl)
theorem g_icmp_ge {x y : Int32} (hF : Ok F cc own dd kM nM) {off : Int} {tgt : Nat} (d : decode cc pc = .ok (.if_icmp .ge off, 3)) (ht : (pc : Int) + off = (tgt : Int)) (kt : y ≤ x → G F k n gs tgt lv st) (kf : ¬ y ≤ x → G F k n gs (pc + 3) lv st) : G F k n gs pc lv (.int y :: .int x :: st) := by
  obtain ⟨⟨l, D, cy⟩, p, e, R, s, m, args, below, meth, c, A, nL, X, Q⟩ := F
  obtain ⟨hx, hb, hml, hown, hts, hK, hA, hd1, hd2, hk1, hk2, hX⟩ := hF
  intro H locs ls hP hD hS hl
  exact lv_icmp_ge hx hb d ht (fun q => kt q H locs ls hP hD hS hl) (fun q => kf q H locs ls hP hD hS hl)
theorem g_icmp_gt {x y : Int32} (hF : Ok F cc own dd kM nM) {off : Int} {tgt : Nat} (d : decode cc pc = .ok (.if_icmp .gt off, 3)) (ht : (pc : Int) + off = (tgt : Int)) (kt : y < x → G F k n gs tgt lv st) (kf : ¬ y < x → G F k n gs (pc + 3) lv st) : G F k n gs pc lv (.int y :: .int x :: st) := by
  obtain ⟨⟨l, D, cy⟩, p, e, R, s, m, args, below, meth, c, A, nL, X, Q⟩ := F
  obtain ⟨hx, hb, hml, hown, hts, hK, hA, hd1, hd2, hk1, hk2, hX⟩ := hF
  intro H locs ls hP hD hS hl
  exact lv_icmp_gt hx hb d ht (fun q => kt q H locs ls hP hD hS hl) (fun q => kf q H locs ls hP hD hS hl)
theorem g_icmp_le {x y : Int32} (hF : Ok F cc own dd kM nM) {off : Int} {tgt : Nat} (d : decode cc pc = .ok (.if_icmp .le off, 3)) (ht : (pc : Int) + off = (tgt : Int)) (kt : x ≤ y → G F k n gs tgt lv st) (kf : ¬ x ≤ y → G F k n gs (pc + 3) lv st) : G F k n gs pc lv (.int y :: .int x :: st) := by
  obtain ⟨⟨l, D, cy⟩, p, e, R, s, m, args, below, meth, c, A, nL, X, Q⟩ := F
  obtain ⟨hx, hb, hml, hown, hts, hK, hA, hd1, hd2, hk1, hk2, hX⟩ := hF
  intro H locs ls hP hD hS hl
  exact lv_icmp_le hx hb d ht (fun q => kt q H locs ls hP hD hS hl) (fun q => kf q H locs ls hP hD hS hl)
theorem g_goto (hF : Ok F cc own dd kM nM) {off : Int} {tgt : Nat} (d : decode cc pc = .ok (.goto off, 3)) (ht : (pc : Int) + off = (tgt : Int)) (kk : G F k n gs tgt lv st) : G F k n gs pc lv st := by
  obtain ⟨⟨l, D, cy⟩, p, e, R, s, m, args, below, meth, c, A, nL, X, Q⟩ := F
  obtain ⟨hx, hb, hml, hown, hts, hK, hA, hd1, hd2, hk1, hk2, hX⟩ := hF
  intro H locs ls hP hD hS hl
  exact lv_goto hx hb d ht (kk H locs ls hP hD hS hl)
theorem g_ifnonnull {x : Nat} (hF : Ok F cc own dd kM nM) {off : Int} {tgt : Nat} (d : decode cc pc = .ok (.ifnonnull off, 3)) (ht : (pc : Int) + off = (tgt : Int)) (kk : G F k n gs tgt lv st) : G F k n gs pc lv (.ref x :: st) := by
  obtain ⟨⟨l, D, cy⟩, p, e, R, s, m, args, below, meth, c, A, nL, X, Q⟩ := F
  obtain ⟨hx, hb, hml, hown, hts, hK, hA, hd1, hd2, hk1, hk2, hX⟩ := hF
  intro H locs ls hP hD hS hl
  exact lv_ifnonnull hx hb d ht (kk H locs ls hP hD hS hl)
theorem g_ifnull {x : Nat} (hF : Ok F cc own dd kM nM) {off : Int} (d : decode cc pc = .ok (.ifnull off, 3)) (kk : G F k n gs (pc + 3) lv st) : G F k n gs pc lv (.ref x :: st) := by
  obtain ⟨⟨l, D, cy⟩, p, e, R, s, m, args, below, meth, c, A, nL, X, Q⟩ := F
  obtain ⟨hx, hb, hml, hown, hts, hK, hA, hd1, hd2, hk1, hk2, hX⟩ := hF
  intro H locs ls hP hD hS hl
  exact lv_ifnull hx hb d (kk H locs ls hP hD hS hl)
theorem g_ifnullN  (hF : Ok F cc own dd kM nM) {off : Int} {tgt : Nat} (d : decode cc pc = .ok (.ifnull off, 3)) (ht : (pc : Int) + off = (tgt : Int)) (kk : G F k n gs tgt lv st) : G F k n gs pc lv (.null :: st) := by
  obtain ⟨⟨l, D, cy⟩, p, e, R, s, m, args, below, meth, c, A, nL, X, Q⟩ := F
  obtain ⟨hx, hb, hml, hown, hts, hK, hA, hd1, hd2, hk1, hk2, hX⟩ := hF
  intro H locs ls hP hD hS hl
  exact lv_ifnullN hx hb d ht (kk H locs ls hP hD hS hl)
theorem g_ifnonnullN  (hF : Ok F cc own dd kM nM) {off : Int} (d : decode cc pc = .ok (.ifnonnull off, 3)) (kk : G F k n gs (pc + 3) lv st) : G F k n gs pc lv (.null :: st) := by
  obtain ⟨⟨l, D, cy⟩, p, e, R, s, m, args, below, meth, c, A, nL, X, Q⟩ := F
  obtain ⟨hx, hb, hml, hown, hts, hK, hA, hd1, hd2, hk1, hk2, hX⟩ := hF
  intro H locs ls hP hD hS hl
  exact lv_ifnonnullN hx hb d (kk H locs ls hP hD hS hl)
theorem g_tableOut (hF : Ok F cc own dd kM nM) {x : Int32} {dflt lo hi : Int} {offs : Array Int} {len tgt : Nat} (d : decode cc pc = .ok (.tableswitch dflt lo hi offs, len)) (h : x.toInt < lo ∨ hi < x.toInt) (ht : (pc : Int) + dflt = (tgt : Int)) (kk : G F k n gs tgt lv st) : G F k n gs pc lv (.int x :: st) := by
  obtain ⟨⟨l, D, cy⟩, p, e, R, s, m, args, below, meth, c, A, nL, X, Q⟩ := F
  obtain ⟨hx, hb, hml, hown, hts, hK, hA, hd1, hd2, hk1, hk2, hX⟩ := hF
  intro H locs ls hP hD hS hl
  exact lv_tableOut hx hb d h ht (kk H locs ls hP hD hS hl)
theorem g_tableIn (hF : Ok F cc own dd kM nM) {x : Int32} {dflt lo hi : Int} {offs : Array Int} {len tgt : Nat} {off : Int} (d : decode cc pc = .ok (.tableswitch dflt lo hi offs, len)) (h1 : ¬ x.toInt < lo) (h2 : ¬ hi < x.toInt) (ho : offs[(x.toInt - lo).toNat]? = some off) (ht : (pc : Int) + off = (tgt : Int)) (kk : G F k n gs tgt lv st) : G F k n gs pc lv (.int x :: st) := by
  obtain ⟨⟨l, D, cy⟩, p, e, R, s, m, args, below, meth, c, A, nL, X, Q⟩ := F
  obtain ⟨hx, hb, hml, hown, hts, hK, hA, hd1, hd2, hk1, hk2, hX⟩ := hF
  intro H locs ls hP hD hS hl
  exact lv_tableIn hx hb d h1 h2 ho ht (kk H locs ls hP hD hS hl)
theorem g_lookup (hF : Ok F cc own dd kM nM) {x : Int32} {dflt : Int} {ps : Array (Int × Int)} {len tgt : Nat} {off : Int} (d : decode cc pc = .ok (.lookupswitch dflt ps, len)) (hp : (ps.toList.zip (ps.toList.drop 1)).all (fun (a, next) => a.1 < next.1) = true) (ho : Op.lookupswitch.offset ps.toList dflt x.toInt = off) (ht : (pc : Int) + off = (tgt : Int)) (kk : G F k n gs tgt lv st) : G F k n gs pc lv (.int x :: st) := by
  obtain ⟨⟨l, D, cy⟩, p, e, R, s, m, args, below, meth, c, A, nL, X, Q⟩ := F
  obtain ⟨hx, hb, hml, hown, hts, hK, hA, hd1, hd2, hk1, hk2, hX⟩ := hF
  intro H locs ls hP hD hS hl
  exact lv_lookup hx hb d hp ho ht (kk H locs ls hP hD hS hl)
theorem g_regroup {gs' : List va_W} (h : gs.flatten = gs'.flatten) (kk : G F k n gs' pc lv st) : G F k n gs pc lv st := by
  obtain ⟨⟨l, D, cy⟩, p, e, R, s, m, args, below, meth, c, A, nL, X, Q⟩ := F
  intro H locs ls hP hD hS hl
  exact kk H locs ls (by rw [← h]; exact hP) (by rw [← h]; exact hD) hS hl
theorem g_widen {k' n' : Nat} (hk : k ≤ k') (hn : n ≤ n') (kk : G F k' n' gs pc lv st) : G F k n gs pc lv st := by
  obtain ⟨⟨l, D, cy⟩, p, e, R, s, m, args, below, meth, c, A, nL, X, Q⟩ := F
  intro H locs ls hP hD hS hl
  exact W.widen hk hn (kk H locs ls hP hD hS hl)
/-- locals forgotten -/
theorem g_forget {lv' : List (Option Value)} (hlen : lv'.length = lv.length) (h : ∀ (i : Nat) (v : Value), lv'[i]? = some (some v) → lv[i]? = some (some v)) (kk : G F k n gs pc lv' st) : G F k n gs pc lv st := by
  obtain ⟨⟨l, D, cy⟩, p, e, R, s, m, args, below, meth, c, A, nL, X, Q⟩ := F
  intro H locs ls hP hD hS hl
  exact kk H locs ls hP hD hS ⟨⟨hl.1.1, hlen.trans hl.1.2⟩, hl.2.1, fun i v q => hl.2.2 i v (h i v q)⟩
/-- groups forgotten -/
theorem g_drop {gs' : List va_W} (x : va_W) (h : gs.flatten.Perm (gs'.flatten ++ x)) (kk : G F k n gs' pc lv st) : G F k n gs pc lv st := by
  obtain ⟨⟨l, D, cy⟩, p, e, R, s, m, args, below, meth, c, A, nL, X, Q⟩ := F
  intro H locs ls hP hD hS hl
  exact kk H locs ls (wP_left (wP_perm h hP)) (wD_left (wD_perm h hD)) hS hl
end GK4
section GK5
variable {F : Fix} {cc : ByteArray} {own : String} {dd kM nM k n pc : Nat} {gs : List va_W} {lv : List (Option Value)} {st : List Value}
variable {gs0 : List va_W} {Po : Option Value → List va_W → Prop} {mc ms : Nat}
theorem g_vret (hF : Ok F cc own dd kM nM) (hR : OkR F gs0 Po mc ms none) (d : decode cc pc = .ok (.return_, 1)) (hp : Po none gs) : G F mc ms gs pc lv [] := by
  obtain ⟨⟨l, D, cy⟩, p, e, R, s, m, args, below, meth, c, A, nL, X, Q⟩ := F
  obtain ⟨hx, hb, hml, hown, hts, hK, hA, hd1, hd2, hk1, hk2, hX⟩ := hF
  obtain ⟨hr, hlocks, rfl, rfl⟩ := hR
  intro H locs ls hP hD hS hl
  exact W.vret hx hb hr (fun t ht hW => ⟨⟨_, gs, rfl, hp, by rw [ht]; exact hP, hD⟩, hS.F ht⟩) hS.2.2 d hlocks
theorem g_iret (hF : Ok F cc own dd kM nM) (hR : OkR F gs0 Po mc ms (some .int)) {v : Int32} (d : decode cc pc = .ok (.ireturn, 1)) (hp : Po (some (.int v)) gs) : G F mc ms gs pc lv [.int v] := by
  obtain ⟨⟨l, D, cy⟩, p, e, R, s, m, args, below, meth, c, A, nL, X, Q⟩ := F
  obtain ⟨hx, hb, hml, hown, hts, hK, hA, hd1, hd2, hk1, hk2, hX⟩ := hF
  obtain ⟨hr, hlocks, rfl, rfl⟩ := hR
  intro H locs ls hP hD hS hl
  exact W.iret hx hb hr (fun t ht hW => ⟨⟨_, gs, rfl, hp, by rw [ht]; exact hP, hD⟩, hS.F ht⟩) hS.2.2 d hlocks
theorem g_zret {v : Int32} (hF : Ok F cc own dd kM nM) (hR : OkR F gs0 Po mc ms (some .boolean)) (d : decode cc pc = .ok (.ireturn, 1)) (hn : narrow .boolean (.int v) = .int v) (hp : Po (some (.int v)) gs) : G F mc ms gs pc lv [.int v] := by
  obtain ⟨⟨l, D, cy⟩, p, e, R, s, m, args, below, meth, c, A, nL, X, Q⟩ := F
  obtain ⟨hx, hb, hml, hown, hts, hK, hA, hd1, hd2, hk1, hk2, hX⟩ := hF
  obtain ⟨hr, hlocks, rfl, rfl⟩ := hR
  intro H locs ls hP hD hS hl
  exact W.zret hx hb hr hn (fun t ht hW => ⟨⟨_, gs, rfl, hp, by rw [ht]; exact hP, hD⟩, hS.F ht⟩) hS.2.2 d hlocks
theorem g_lret {v : Int64} (hF : Ok F cc own dd kM nM) (hR : OkR F gs0 Po mc ms (some .long)) (d : decode cc pc = .ok (.lreturn, 1)) (hp : Po (some (.long v)) gs) : G F mc ms gs pc lv [.long v] := by
  obtain ⟨⟨l, D, cy⟩, p, e, R, s, m, args, below, meth, c, A, nL, X, Q⟩ := F
  obtain ⟨hx, hb, hml, hown, hts, hK, hA, hd1, hd2, hk1, hk2, hX⟩ := hF
  obtain ⟨hr, hlocks, rfl, rfl⟩ := hR
  intro H locs ls hP hD hS hl
  exact W.lret hx hb hr (fun t ht hW => ⟨⟨_, gs, rfl, hp, by rw [ht]; exact hP, hD⟩, hS.F ht⟩) hS.2.2 d hlocks
theorem g_dret {v : UInt64} (hF : Ok F cc own dd kM nM) (hR : OkR F gs0 Po mc ms (some .double)) (d : decode cc pc = .ok (.dreturn, 1)) (hp : Po (some (.double v)) gs) : G F mc ms gs pc lv [.double v] := by
  obtain ⟨⟨l, D, cy⟩, p, e, R, s, m, args, below, meth, c, A, nL, X, Q⟩ := F
  obtain ⟨hx, hb, hml, hown, hts, hK, hA, hd1, hd2, hk1, hk2, hX⟩ := hF
  obtain ⟨hr, hlocks, rfl, rfl⟩ := hR
  intro H locs ls hP hD hS hl
  exact W.dret hx hb hr (fun t ht hW => ⟨⟨_, gs, rfl, hp, by rw [ht]; exact hP, hD⟩, hS.F ht⟩) hS.2.2 d hlocks
theorem g_aret {v : Value} {rt : FieldType} (hF : Ok F cc own dd kM nM) (hR : OkR F gs0 Po mc ms (some rt)) (hrt : (∃ n, rt = .object n) ∨ ∃ t, rt = .array t) (hv : v = .null ∨ ∃ a, v = .ref a) (d : decode cc pc = .ok (.areturn, 1)) (hp : Po (some v) gs) : G F mc ms gs pc lv [v] := by
  obtain ⟨⟨l, D, cy⟩, p, e, R, s, m, args, below, meth, c, A, nL, X, Q⟩ := F
  obtain ⟨hx, hb, hml, hown, hts, hK, hA, hd1, hd2, hk1, hk2, hX⟩ := hF
  obtain ⟨hr, hlocks, rfl, rfl⟩ := hR
  intro H locs ls hP hD hS hl
  exact W.aret hx hb hr hrt hv (fun t ht hW => ⟨⟨_, gs, rfl, hp, by rw [ht]; exact hP, hD⟩, hS.F ht⟩) hS.2.2 d hlocks
end GK5
