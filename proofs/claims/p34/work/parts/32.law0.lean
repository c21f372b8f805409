/-! arrays of int arrays; contracts over the script; the law's helpers -/
section LW1
variable {F : Fix} {cc : ByteArray} {own : String} {dd kM nM k n pc : Nat} {gs : List va_W} {lv : List (Option Value)} {st : List Value}
theorem tsI : (FieldType.array .int).toString = "[I" := by decide +kernel
theorem g_newA {cy : Nat → ClassId} (hF : Ok F cc own dd kM nM) (hcy : F.1.2.2 = cy) {i : Int32} {N idx : Nat} (hm : Cond.classLink own idx "[I" ∈ bw) (hm2 : Cond.arrayOver (.array .int) ∈ bw) (hn : ¬ i < 0) (hN : i.toNatClampNeg = N) (hbytes : N ≤ 134217728) (hk : k + 1 ≤ kM) (hn2 : n + N ≤ nM) (d : decode cc pc = .ok (.anewarray idx, 3)) (kk : ∀ q : Nat, G F (k + 1) (n + N) (gs ++ [[(q, .inl (cy 5, N, .inr (.inr (.inr (.inr (fun _ => none))))))]]) (pc + 3) lv (.ref q :: st)) : G F k n gs pc lv (.int i :: st) := by
  obtain ⟨⟨l, D, cy'⟩, p, e, R, s, m, args, below, meth, c, A, nL, X, Q⟩ := F
  obtain ⟨hx, hb, hml, hown, hts, hK, hA, hd1, hd2, hk1, hk2, hX⟩ := hF
  subst hcy
  subst hN
  intro H locs ls hP hD hS hl
  refine W.anewA (t := .int) hx hb hown (by rw [tsI]; exact hts _ hm) (hts _ hm2) rfl d rfl hn (by omega) (Nat.le_trans hk hk1) (Nat.le_trans hn2 hk2) (fun cA kA comp f1 f2 f3 f4 => ?_)
  have ec : cA = cy' 5 := Option.some.inj (f1.symm.trans (hK.2 5 (cy' 5, .array .int) rfl).2)
  subst ec
  generalize hH1 : H.push ({ cls := cy' 5, slots := Array.replicate i.toNatClampNeg .null, vm := .none } : Cell) = H1
  have z1 : H1.size = H.size + 1 := by rw [← hH1, Array.size_push]
  have e1 : H1[H.size]? = some (arrV (cy' 5) i.toNatClampNeg (fun _ => .null)) := by rw [← hH1, Array.getElem?_push_size, ← arrV_new]
  have o1 : ∀ q : Nat, q < H.size → H1[q]? = H[q]? := fun q hq => by rw [← hH1, Array.getElem?_push, if_neg (Nat.ne_of_lt hq)]
  have hk0 : ∀ (k : Nat) (x : Nat × va_E), gs.flatten[k]? = some x → H1[x.1]? = H[x.1]? := fun k x hx => o1 x.1 ((hP k x hx).lt)
  have hP1 : va_P D vwCl (gs.flatten ++ [(H.size, .inl (cy' 5, i.toNatClampNeg, .inr (.inr (.inr (.inr (fun _ => none))))))]) H1 := (hP.kept hk0).app (fun k x hx => by
    have hz : k < 1 := (List.getElem?_eq_some_iff.mp hx).1
    rw [show k = 0 by omega] at hx
    cases hx
    show H1[H.size]? = some (vp_cell _ _)
    rw [vp_cell_q]
    exact e1)
  have hD1 : va_D A (gs.flatten ++ [(H.size, .inl (cy' 5, i.toNatClampNeg, .inr (.inr (.inr (.inr (fun _ => none))))))]) := hD.push hP rfl (hA _ hS.1)
  have hS1 : va_S A s.heap H1 locs := ⟨Nat.le_trans hS.1 (by omega), fun x h1 h2 => (o1 x (Nat.lt_of_lt_of_le h1 hS.1)).trans (hS.2.1 x h1 h2), hS.2.2⟩
  exact kk H.size H1 locs ls (by rw [List.flatten_append]; simpa using hP1) (by rw [List.flatten_append]; simpa using hD1) hS1 hl
theorem g_aastI {cy : Nat → ClassId} (hF : Ok F cc own dd kM nM) (hcy : F.1.2.2 = cy) (hm2 : Cond.arrayOver (.array .int) ∈ bw) (kg kv : Nat) {a N v M : Nat} {f : Nat → Option Nat} {g : Nat → Int32} {t tv : va_W} {i : Int32} (j : Nat) (hg : gs[kg]? = some ((a, .inl (cy 5, N, .inr (.inr (.inr (.inr f))))) :: t)) (hv : gs[kv]? = some ((v, .inl (cy 0, M, .inl g)) :: tv)) (hin : vp_in i N) (hj : i.toNatClampNeg = j) (d : decode cc pc = .ok (.aastore, 1)) (kk : G F k n (gs.set kg ((a, .inl (cy 5, N, .inr (.inr (.inr (.inr (va_up f j (some v))))))) :: t)) (pc + 1) lv st) : G F k n gs pc lv (.ref v :: .int i :: .ref a :: st) := by
  obtain ⟨⟨l, D, cy'⟩, p, e, R, s, m, args, below, meth, c, A, nL, X, Q⟩ := F
  obtain ⟨hx, hb, hml, hown, hts, hK, hA, hd1, hd2, hk1, hk2, hX⟩ := hF
  subst hcy
  subst hj
  intro H locs ls hP hD hS hl
  obtain ⟨q0, h1, h2⟩ := head_at gs kg _ t hg
  obtain ⟨q1, h3, -⟩ := head_at gs kv _ tv hv
  have hlt : i.toNatClampNeg < N := Nat.not_le.mp fun q => hin (Or.inr q)
  have h0 : ¬ i < 0 := fun q => hin (Or.inl q)
  obtain ⟨comp, c1, k1, e1, e2, e3, e4, e5⟩ := arrayOverA_spec (hts _ hm2)
  have ec : c1 = cy' 5 := Option.some.inj (e5.symm.trans (hK.2 5 (cy' 5, .array .int) rfl).2)
  have ec0 : comp = cy' 0 := Option.some.inj (e1.symm.trans (hK.2 0 (cy' 0, .int) rfl).2)
  subst ec
  subst ec0
  obtain ⟨kC, hkC, -⟩ := Vm.findClass_spec e1
  refine W.aast hx hb (hP q0 _ h1) (fun q h => by cases h) (fun h => by cases h) e3 e4 rfl hkC ⟨h0, by show _ < (arrV _ _ _).slots.size; rw [arrV_size]; exact hlt⟩ (hP q1 _ h3) (fun q h => by cases h) hkC (by show Vm.assignableAux _ (255 + 1) (cy' 0) (cy' 0) = true; rw [Vm.assignableAux, beq_self_eq_true, Bool.true_or]) rfl rfl d fun H1 e z oq => ?_
  have hat : va_at D vwCl (a, .inl (cy' 5, N, .inr (.inr (.inr (.inr (va_up f i.toNatClampNeg (some v))))))) H1 := by
    show H1[a]? = some (vp_cell _ _)
    rw [e]
    rw [vp_cell_q, vp_cell_q, arrV_store]
    congr 2
    funext q
    by_cases hq : q = i.toNatClampNeg
    · subst hq
      simp [updV, va_up, va_rf]
    · simp [updV, va_up, hq]
  exact kk H1 _ ls (by rw [← h2]; exact hP.set hD h1 hat oq) (by rw [← h2]; exact hD.set h1) (hS.put z oq (hD.2 q0 _ h1)) hl
theorem g_aaldI {cy : Nat → ClassId} (hF : Ok F cc own dd kM nM) (hcy : F.1.2.2 = cy) (kg : Nat) {a N : Nat} {f : Nat → Option Nat} {t : va_W} {i : Int32} {v : Nat} (hg : gs[kg]? = some ((a, .inl (cy 5, N, .inr (.inr (.inr (.inr f))))) :: t)) (hin : vp_in i N) (hv : f i.toNatClampNeg = some v) (d : decode cc pc = .ok (.aaload, 1)) (kk : G F k n gs (pc + 1) lv (.ref v :: st)) : G F k n gs pc lv (.int i :: .ref a :: st) := by
  obtain ⟨⟨l, D, cy'⟩, p, e, R, s, m, args, below, meth, c, A, nL, X, Q⟩ := F
  obtain ⟨hx, hb, hml, hown, hts, hK, hA, hd1, hd2, hk1, hk2, hX⟩ := hF
  subst hcy
  intro H locs ls hP hD hS hl
  obtain ⟨q0, h1, h2⟩ := head_at gs kg _ t hg
  have hlt : i.toNatClampNeg < N := Nat.not_le.mp fun q => hin (Or.inr q)
  have kk' := kk H locs ls hP hD hS hl
  rw [show Value.ref v = va_rf (f i.toNatClampNeg) by rw [hv]; rfl] at kk'
  exact W.aald (v := va_rf (f i.toNatClampNeg)) (ty := .array .int) hx hb (hP q0 _ h1) ((hK.2 5 _ rfl).1 N (fun j => va_rf (f j))) rfl (fun q => by cases q) (by show ¬ (i < 0 ∨ (arrV _ _ _).slots.size ≤ _); rw [arrV_size]; exact hin) (by show (arrV _ _ _).slots[_]? = _; rw [arrV_read _ _ hlt]) rfl rfl d kk'
end LW1
theorem Ct.ofX {E : Env3} {X : Ro} {d mc ms : Nat} {y : MethodName} {bytes : ByteArray} {maxL : Nat} {ret : Option FieldType} {av : List Value} {gs : List va_W} {Po : Option Value → List va_W → Prop} (lv : List (Option Value)) (hy : plainName y.cls = true) (hlv : lv0 av ++ List.replicate (maxL - (lv0 av).length) none = lv) (hsl : (lv0 av).length ≤ maxL)
    (body : ∀ F : Fix, F.1 = E → F.2.2.2.2.2.2.2.2.2.2.2.2.1 = X → Ok F bytes y.cls d mc ms → OkR F gs Po mc ms ret → OkN F y.name → G F 0 0 gs 0 lv []) : Ct E X d mc ms y bytes maxL ret av gs Po := by
  obtain ⟨l, D, cy⟩ := E
  intro sz
  refine Met.ofW (cc := bytes) (maxL := maxL) (ret := ret) hy rfl ?_
  intro p e s m args below meth c s₁ B hml hv
  obtain ⟨rfl, hsz, hP, hK, hD0, hX⟩ := hv
  subst hsz
  have hts := atoms_spec (ws := .code y bytes maxL ret :: bw) B.pre
  have hown : s.vm.findClass y.cls = some m.cls := findClass_of_methodNamed B.named
  have hD := hD0.self (sz := s.heap.size)
  have hl := lv_entry av (n := maxL) (by rw [lv0_len]; exact hsl)
  rw [lg_entry_eq]
  generalize hls : (lg_sl av ++ List.replicate (maxL - (lg_sl av).length) Slot.unset).toArray = ls at hl ⊢
  have hp : hasP ls maxL lv := by
    refine ⟨⟨hl.1, ?_⟩, hl.2.1, fun i v h => ?_⟩
    · rw [← hlv, List.length_append, List.length_replicate]; omega
    · rw [← hlv] at h
      exact hl.2.2 _ (lv0_pad h)
  exact body ((l, D, cy), p, e, (headSpec (.code y bytes maxL ret :: bw) { frames := d, cells := mc, slots := ms, locals := 30 * d }).room, s, m, av.toArray, below, meth, c, va_A gs.flatten s.heap.size, maxL, X, MQ below (fun _ => PostC D s.heap.size gs Po) av.toArray s mc ms (va_A gs.flatten s.heap.size)) rfl rfl
    ⟨B.exec, B.bytes, hml, hown, fun w hw => hts w (List.mem_cons_of_mem _ hw), hK, fun q h => Or.inr h, Nat.le_refl _, Nat.le_refl _, Nat.le_refl _, Nat.le_refl _, hX⟩ ⟨B.returns, B.notSynchronized, rfl, rfl⟩ (name_of_methodNamed B.named B.method).1 s.heap [] ls hP hD va_S.rf hp
def belI (v n : Int32) : Int32 := (v &&& 2147483647) - (v &&& 2147483647) / n * n
def celN (L : Nat) (xs : Nat → Int32) (j : Nat) : Int32 := if j < L then xs j else 790386105 * (nI j + 3)
theorem and_nn (v : Int32) : ¬ (v &&& 2147483647) < 0 := by
  intro h
  have h1 : (v &&& 2147483647).toBitVec.toInt < 0 := Int32.lt_iff_toInt_lt.mp h
  have h2 := BitVec.msb_eq_toInt (x := (v &&& 2147483647).toBitVec)
  rw [decide_eq_true h1, Int32.toBitVec_and, BitVec.msb_and, show (2147483647 : Int32).toBitVec.msb = false from by decide, Bool.and_false] at h2
  cases h2
theorem bel_ex (v : Int32) {n : Nat} (h0 : 0 < n) (hn : n < 2 ^ 31) : ∃ j, j < n ∧ belI v (nI n) = nI j := by
  obtain ⟨a, ha, e⟩ := nI_of (and_nn v)
  refine ⟨a % n, Nat.mod_lt _ h0, ?_⟩
  unfold belI
  rw [e]
  exact pk_rem ha h0 hn
set_option maxHeartbeats 4000000 in
set_option maxRecDepth 100000 in
theorem c_L_below {E : Env3} {v n : Int32} (hne : ¬ n = 0)  : Cd E none 0 yL_below cL_below 2 (some .int) [.int v, .int n] [] (some (.int (belI v n))) [] := by
  refine Ct.of [some (.int v), some (.int n)] (by decide +kernel) rfl (Nat.le_of_ble_eq_true rfl) (fun F hE hF hR hN => ?_)
  subst hE
  refine g_iload_n hF dL_below_0 rfl ?_
  refine g_ldc hF m_813 dL_below_1 ?_
  refine g_iand hF dL_below_3 ?_
  refine g_iload_n hF dL_below_4 rfl ?_
  refine g_irem hF dL_below_5 hne ?_
  exact g_iret hF hR dL_below_6 ⟨rfl, rfl⟩
set_option maxHeartbeats 4000000 in
set_option maxRecDepth 100000 in
theorem c_L_cell {E : Env3} {b L : Nat} {xs : Nat → Int32} {j : Nat} (hL : L < 2 ^ 31) (hj : j < 2 ^ 31)  : Cd E (some (b, L, xs)) 0 yL_cell cL_cell 2 (some .int) [.ref b, .int (nI j)] [] (some (.int (celN L xs j))) [] := by
  refine Ct.ofX [some (.ref b), some (.int (nI j))] (by decide +kernel) rfl (Nat.le_of_ble_eq_true rfl) (fun F hE hXF hF hR hN => ?_)
  subst hE
  refine g_iload_n hF dL_cell_0 rfl ?_
  refine g_aload_n hF dL_cell_1 rfl ?_
  refine g_slen hF hXF dL_cell_2 ?_
  refine g_icmp_ge (tgt := 12) hF dL_cell_3 (by decide) (fun c_3 => ?_) (fun c_3 => ?_)
  · have hge : L ≤ j := (nI_leI (by omega) (by omega)).mp c_3
    refine g_ldc hF m_817 dL_cell_12 ?_
    refine g_iload_n hF dL_cell_14 rfl ?_
    refine g_iconst (v := (3)) hF dL_cell_15 rfl ?_
    refine g_iadd hF dL_cell_16 ?_
    refine g_imul hF dL_cell_17 ?_
    exact g_iret hF hR dL_cell_18 ⟨(by unfold celN; rw [if_neg (by omega)]), rfl⟩
  · have hlt : j < L := Nat.not_le.mp (fun y => c_3 (nI_le y (by omega)))
    refine g_aload_n hF dL_cell_6 rfl ?_
    refine g_iload_n hF dL_cell_7 rfl ?_
    refine g_sld hF hXF (vp_in_nI hlt (by omega)) rfl dL_cell_8 ?_
    refine g_goto (tgt := 18) hF dL_cell_9 (by decide) ?_
    exact g_iret hF hR dL_cell_18 ⟨(by unfold celN; rw [if_pos hlt, nI_clamp (by omega)]), rfl⟩
