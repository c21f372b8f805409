/-! pure: pictures that are alike where they count -/
theorem rowGet_eq {f f' : Nat → Int32} {n : Nat} (h : ∀ i, i < n → f i = f' i) (i : Int32) : rowGet f n i = rowGet f' n i := by
  unfold rowGet
  by_cases h0 : i < 0
  · rw [if_pos h0, if_pos h0]
  · rw [if_neg h0, if_neg h0]
    by_cases h1 : nI n ≤ i
    · rw [if_pos h1, if_pos h1]
    · rw [if_neg h1, if_neg h1]
      obtain ⟨j, hj, rfl⟩ := nI_of h0
      rw [nI_clamp hj]
      exact h j (Nat.lt_of_not_le (fun y => h1 (nI_le y hj)))
def REq (r r' : RV) : Prop := r.2 = r'.2 ∧ ∀ i, i < r.2 → r.1 i = r'.1 i
theorem REq.rf (r : RV) : REq r r := ⟨rfl, fun _ _ => rfl⟩
theorem REq.sy {r r' : RV} (h : REq r r') : REq r' r := ⟨h.1.symm, fun i hi => (h.2 i (by rw [h.1]; exact hi)).symm⟩
theorem REq.tr {a b c : RV} (h : REq a b) (g : REq b c) : REq a c := ⟨h.1.trans g.1, fun i hi => (h.2 i hi).trans (g.2 i (by rw [← h.1]; exact hi))⟩
theorem getR_eq {r r' : RV} (h : REq r r') (i : Int32) : getR r i = getR r' i := by
  unfold getR
  rw [rowGet_eq h.2, h.1]
theorem topR_eq {r r' : RV} (h : REq r r') (i : Int32) : topR r i = topR r' i := by
  unfold topR
  rw [rowGet_eq h.2, h.1]
theorem popV_eq {r r' : RV} (h : REq r r') : popV r = popV r' := by
  unfold popV
  rw [← h.1]
  by_cases e : r.2 = 0
  · rw [if_pos e, if_pos e]
  · rw [if_neg e, if_neg e]; exact h.2 _ (by omega)
theorem popR_eq {r r' : RV} (h : REq r r') : REq (popR r) (popR r') := ⟨congrArg (fun x => x - 1) h.1, fun i hi => h.2 i (by have : i < r.2 - 1 := hi; omega)⟩
theorem pushR_eq {cap : Nat} {r r' : RV} {x x' : Int32} (h : REq r r') (hx : x = x') : REq (pushR cap r x) (pushR cap r' x') := by
  subst hx
  have hn := h.1
  by_cases e : r.2 < cap
  · have e' : r'.2 < cap := by rw [← hn]; exact e
    refine ⟨?_, fun i hi => ?_⟩
    · show (if r.2 < cap then r.2 + 1 else r.2) = (if r'.2 < cap then r'.2 + 1 else r'.2)
      rw [if_pos e, if_pos e', hn]
    · have hi2 : i < (if r.2 < cap then r.2 + 1 else r.2) := hi
      rw [if_pos e] at hi2
      show (if r.2 < cap then upd r.1 r.2 x else r.1) i = (if r'.2 < cap then upd r'.1 r'.2 x else r'.1) i
      rw [if_pos e, if_pos e', ← hn]
      unfold upd
      by_cases q : i = r.2
      · simp [q]
      · simp only [q, if_false]; exact h.2 i (by omega)
  · have e' : ¬ r'.2 < cap := by rw [← hn]; exact e
    refine ⟨?_, fun i hi => ?_⟩
    · show (if r.2 < cap then r.2 + 1 else r.2) = (if r'.2 < cap then r'.2 + 1 else r'.2)
      rw [if_neg e, if_neg e', hn]
    · have hi2 : i < (if r.2 < cap then r.2 + 1 else r.2) := hi
      rw [if_neg e] at hi2
      show (if r.2 < cap then upd r.1 r.2 x else r.1) i = (if r'.2 < cap then upd r'.1 r'.2 x else r'.1) i
      rw [if_neg e, if_neg e']; exact h.2 i hi2
theorem putR_eq {r r' : RV} {i i' x x' : Int32} (h : REq r r') (hi : i = i') (hx : x = x') : REq (putR r i x) (putR r' i' x') := by
  subst hi; subst hx
  refine ⟨h.1, fun j hj => ?_⟩
  have hj2 : j < r.2 := hj
  show rowPut r.1 r.2 i x j = rowPut r'.1 r'.2 i x j
  rw [← h.1]
  unfold rowPut
  by_cases h0 : i < 0
  · rw [if_pos h0, if_pos h0]; exact h.2 j hj2
  · rw [if_neg h0, if_neg h0]
    by_cases h1 : nI r.2 ≤ i
    · rw [if_pos h1, if_pos h1]; exact h.2 j hj2
    · rw [if_neg h1, if_neg h1]
      unfold upd
      by_cases e : j = i.toNatClampNeg
      · simp [e]
      · simp only [e, if_false]; exact h.2 j hj2
theorem cpyR_eq {cap : Nat} {r r2 : RV} (h : r2.2 ≤ cap) : REq (cpyR cap r r2) r2 := by
  refine ⟨Nat.min_eq_left h, fun i hi => ?_⟩
  have hi2 : i < min r2.2 cap := hi
  show va_cpy r2.1 r.1 0 0 (min r2.2 cap) i = r2.1 i
  rw [pk_cpy_in (Nat.zero_le i) (by rw [Nat.zero_add]; exact hi2), Nat.zero_add, Nat.sub_zero]
def SEq (v v' : SV) : Prop := REq v.1 v'.1 ∧ REq v.2.1 v'.2.1 ∧ REq v.2.2.1 v'.2.2.1 ∧ REq v.2.2.2.1 v'.2.2.2.1 ∧ v.2.2.2.2 = v'.2.2.2.2
theorem SEq.rf (v : SV) : SEq v v := ⟨REq.rf _, REq.rf _, REq.rf _, REq.rf _, rfl⟩
theorem SEq.sy {v v' : SV} (h : SEq v v') : SEq v' v := ⟨h.1.sy, h.2.1.sy, h.2.2.1.sy, h.2.2.2.1.sy, h.2.2.2.2.symm⟩
theorem SEq.tr {a b c : SV} (h : SEq a b) (g : SEq b c) : SEq a c := ⟨h.1.tr g.1, h.2.1.tr g.2.1, h.2.2.1.tr g.2.2.1, h.2.2.2.1.tr g.2.2.2.1, h.2.2.2.2.trans g.2.2.2.2⟩
theorem SEq.at' {v v' : SV} (h : SEq v v') : v.2.2.2.2.1 = v'.2.2.2.2.1 := congrArg (fun z => z.1) h.2.2.2.2
theorem SEq.status {v v' : SV} (h : SEq v v') : v.2.2.2.2.2.1 = v'.2.2.2.2.2.1 := congrArg (fun z => z.2.1) h.2.2.2.2
theorem SEq.rd {v v' : SV} (h : SEq v v') : v.2.2.2.2.2.2.1 = v'.2.2.2.2.2.2.1 := congrArg (fun z => z.2.2.1) h.2.2.2.2
theorem SEq.ck {v v' : SV} (h : SEq v v') : v.2.2.2.2.2.2.2 = v'.2.2.2.2.2.2.2 := congrArg (fun z => z.2.2.2) h.2.2.2.2
theorem SEq_ite {p : Prop} [Decidable p] {a b a' b' : SV} (ha : SEq a a') (hb : SEq b b') : SEq (if p then a else b) (if p then a' else b') := by
  by_cases h : p
  · rw [if_pos h, if_pos h]; exact ha
  · rw [if_neg h, if_neg h]; exact hb
theorem SEq_mk {s c f u s' c' f' u' : RV} {a b r k a' b' r' k' : Int32} (h1 : REq s s') (h2 : REq c c') (h3 : REq f f') (h4 : REq u u') (h5 : a = a') (h6 : b = b') (h7 : r = r') (h8 : k = k') : SEq (s, c, f, u, a, b, r, k) (s', c', f', u', a', b', r', k') := by
  subst h5; subst h6; subst h7; subst h8
  exact ⟨h1, h2, h3, h4, rfl⟩
theorem SEq_at {v v' : SV} {s c f u s' c' f' u' : RV} {a r a' r' : Int32} (h : SEq v v') (h1 : REq s s') (h2 : REq c c') (h3 : REq f f') (h4 : REq u u') (h5 : a = a') (h7 : r = r') : SEq (withAt v s c f u a r) (withAt v' s' c' f' u' a' r') :=
  SEq_mk h1 h2 h3 h4 h5 h.status h7 (by rw [h.ck])
theorem failF_eq {pc : RV} {v v' : SV} (h : SEq v v') : failF pc v = failF pc v' := by
  unfold failF
  rw [h.at', h.1.1, h.2.2.1.1, h.2.2.2.1.1, topR_eq h.1]
theorem readyF_eq {pc : RV} {v v' : SV} (h : SEq v v') : SEq (readyF pc v) (readyF pc v') := by
  unfold readyF
  rw [h.status]
  exact SEq_ite (SEq_mk h.1 h.2.1 h.2.2.1 h.2.2.2.1 h.at' (failF_eq h) h.rd h.ck) h
theorem perfF_eq {c m c' m' : Int32} {inp : RV} {v v' : SV} (hc : c = c') (hm : m = m') (h : SEq v v') : SEq (perfF c m inp v) (perfF c' m' inp v') := by
  subst hc; subst hm
  obtain ⟨h1, h2, h3, h4, h5⟩ := id h
  have ha : v.2.2.2.2.1 + 1 = v'.2.2.2.2.1 + 1 := by rw [h.at']
  unfold perfF
  refine SEq_ite (SEq_at h (pushR_eq h1 rfl) (h2) (h3) (h4) (ha) (h.rd)) ?_
  refine SEq_ite (SEq_at h (popR_eq h1) (h2) (h3) (h4) (ha) (h.rd)) ?_
  refine SEq_ite (SEq_at h (pushR_eq h1 (topR_eq h1 0)) (h2) (h3) (h4) (ha) (h.rd)) ?_
  refine SEq_ite (SEq_at h (pushR_eq (pushR_eq (popR_eq (popR_eq h1)) (popV_eq h1)) (popV_eq (popR_eq h1))) (h2) (h3) (h4) (ha) (h.rd)) ?_
  refine SEq_ite (SEq_at h (pushR_eq h1 (topR_eq h1 1)) (h2) (h3) (h4) (ha) (h.rd)) ?_
  refine SEq_ite (SEq_at h (pushR_eq (popR_eq h1) (by rw [popV_eq h1])) (h2) (h3) (h4) (ha) (h.rd)) ?_
  refine SEq_ite (SEq_at h (pushR_eq h1 (getR_eq h2 m)) (h2) (h3) (h4) (ha) (h.rd)) ?_
  refine SEq_ite (SEq_at h (popR_eq h1) (putR_eq h2 rfl (popV_eq h1)) (h3) (h4) (ha) (h.rd)) ?_
  refine SEq_ite (SEq_at h (pushR_eq (popR_eq h1) (by rw [popV_eq h1, getR_eq h2])) (h2) (h3) (h4) (ha) (h.rd)) ?_
  refine SEq_ite (SEq_at h (popR_eq (popR_eq h1)) (putR_eq h2 (popV_eq h1) (popV_eq (popR_eq h1))) (h3) (h4) (ha) (h.rd)) ?_
  refine SEq_ite (SEq_at h (h1) (h2) (h3) (h4) (rfl) (h.rd)) ?_
  refine SEq_ite (SEq_at h (popR_eq h1) (h2) (h3) (h4) (by rw [popV_eq h1, h.at']) (h.rd)) ?_
  refine SEq_ite (SEq_at h (h1) (h2) (pushR_eq h3 ha) (h4) (rfl) (h.rd)) ?_
  refine SEq_ite (SEq_at h (h1) (h2) (popR_eq h3) (h4) (popV_eq h3) (h.rd)) ?_
  refine SEq_ite (SEq_at h (pushR_eq h1 (by rw [h.rd])) (h2) (h3) (h4) (ha) (by rw [h.rd])) ?_
  refine SEq_ite (SEq_at h (popR_eq h1) (h2) (h3) (pushR_eq h4 (popV_eq h1)) (ha) (h.rd)) ?_
  refine SEq_ite (SEq_mk h1 h2 h3 h4 h.at' rfl h.rd (by rw [h.ck])) ?_
  exact SEq_at h (pushR_eq (popR_eq (popR_eq h1)) (by rw [popV_eq h1, popV_eq (popR_eq h1)])) (h2) (h3) (h4) (ha) (h.rd)
theorem tryF_eq {pc pn inp : RV} : ∀ (k : Nat) {v v' : SV}, SEq v v' → (tryF pc pn inp k v).1 = (tryF pc pn inp k v').1 ∧ SEq (tryF pc pn inp k v).2 (tryF pc pn inp k v').2
  | 0, _, _, h => ⟨rfl, h⟩
  | k + 1, v, v', h => by
    have hr := readyF_eq (pc := pc) h
    by_cases e : (readyF pc v).2.2.2.2.2.1 = 0
    · have e' : (readyF pc v').2.2.2.2.2.1 = 0 := by rw [← hr.status]; exact e
      rw [tryF_go e, tryF_go e']
      have ih := tryF_eq (pc := pc) (pn := pn) (inp := inp) k (perfF_eq (inp := inp) (show rowGet pc.1 pc.2 (readyF pc v).2.2.2.2.1 = rowGet pc.1 pc.2 (readyF pc v').2.2.2.2.1 by rw [hr.at']) (show rowGet pn.1 pn.2 (readyF pc v).2.2.2.2.1 = rowGet pn.1 pn.2 (readyF pc v').2.2.2.2.1 by rw [hr.at']) hr)
      exact ⟨congrArg (fun x => x + 1) ih.1, ih.2⟩
    · have e' : ¬ (readyF pc v').2.2.2.2.2.1 = 0 := by rw [← hr.status]; exact e
      rw [tryF_stop e, tryF_stop e']
      exact ⟨rfl, hr⟩
theorem copyF_eq {t v : SV} (h : okS v) : SEq (copyF t v) v := ⟨cpyR_eq h.1, cpyR_eq h.2.1, cpyR_eq h.2.2.1, cpyR_eq h.2.2.2, rfl⟩
theorem endsV_eq {k : Nat} {a b : Nat × SV} (h : a.1 = b.1) (g : SEq a.2 b.2) : endsV k a = endsV k b := by
  unfold endsV
  rw [h, g.status]
theorem endsV_copy {pc pn inp : RV} {k : Nat} {t v : SV} (h : okS v) : endsV k (tryF pc pn inp k (copyF t v)) = endsV k (tryF pc pn inp k v) := by
  have := tryF_eq (pc := pc) (pn := pn) (inp := inp) k (copyF_eq (t := t) h)
  exact endsV_eq this.1 this.2
theorem cellV_copy {pc pn inp : RV} {k : Nat} {t v : SV} {c : Int32} (h : okS v) : getR (tryF pc pn inp k (copyF t v)).2.2.1 c = getR (tryF pc pn inp k v).2.2.1 c := getR_eq (tryF_eq (pc := pc) (pn := pn) (inp := inp) k (copyF_eq (t := t) h)).2.2.1 c
