/-! THE EVALUATOR IS RIGHT: lists, locals, switches -/
section EVL
variable {ad : Nat → Nat} {ca : Nat → ClassId} {lay : List ev_C} {σ σ' : ev_W}
theorem ev_ws_at {k : Nat} {q : ev_C} (h : lay[k]? = some q) : (ev_ws ad ca lay σ)[k]? = some (ev_ce ad ca σ k q) := by
  simp [ev_ws, h]
theorem ev_ws_get {k : Nat} {z : Nat × va_E} (h : (ev_ws ad ca lay σ)[k]? = some z) : ∃ q, lay[k]? = some q ∧ z = ev_ce ad ca σ k q := by
  simp only [ev_ws, List.getElem?_mapIdx] at h
  cases hq : lay[k]? with
  | none => rw [hq] at h; cases h
  | some q => rw [hq] at h; exact ⟨q, rfl, (Option.some.inj h).symm⟩
theorem ev_ce_congr {i : Nat} (q : ev_C) (h1 : σ'.1 i = σ.1 i) (h2 : σ'.2.1 i = σ.2.1 i) : ev_ce ad ca σ' i q = ev_ce ad ca σ i q := by
  have h3 : (fun j f => ev_fv ad σ' i j f) = (fun j f => ev_fv ad σ i j f) := by
    funext j f
    cases f <;> simp [ev_fv, h1]
  rcases q with ⟨ty, n⟩ | ⟨ci, fs⟩
  · cases ty <;> simp [ev_ce, h1, h2]
  · simp only [ev_ce, h3]
theorem ev_ws_set {k : Nat} {q : ev_C} (h : lay[k]? = some q) (hs : ∀ i, i ≠ k → σ'.1 i = σ.1 i ∧ σ'.2.1 i = σ.2.1 i) : (ev_ws ad ca lay σ).set k (ev_ce ad ca σ' k q) = ev_ws ad ca lay σ' := by
  have hl : k < (ev_ws ad ca lay σ).length := (List.getElem?_eq_some_iff.mp (ev_ws_at h)).1
  apply List.ext_getElem?
  intro i
  by_cases hi : k = i
  · subst hi
    rw [List.getElem?_set_self hl, ev_ws_at h]
  · rw [List.getElem?_set_ne hi]
    simp only [ev_ws, List.getElem?_mapIdx]
    cases hq : lay[i]? with
    | none => rfl
    | some c =>
      obtain ⟨e1, e2⟩ := hs i (Ne.symm hi)
      exact congrArg some (ev_ce_congr c e1 e2).symm
theorem ev_ws_bud {n : Nat} : ev_ws ad ca lay (σ.1, σ.2.1, n) = ev_ws ad ca lay σ := by
  rfl
theorem ev_up_other {k j : Nat} {x : Int32} : ∀ i, i ≠ k → (ev_up σ k j x).1 i = σ.1 i ∧ (ev_up σ k j x).2.1 i = σ.2.1 i := fun i hi => ⟨by simp [ev_up, hi], rfl⟩
theorem ev_uL_other {k j : Nat} {x : Int64} : ∀ i, i ≠ k → (ev_uL σ k j x).1 i = σ.1 i ∧ (ev_uL σ k j x).2.1 i = σ.2.1 i := fun i hi => ⟨rfl, by simp [ev_uL, hi]⟩
theorem ev_up_self {k j : Nat} {x : Int32} : (ev_up σ k j x).1 k = upd (σ.1 k) j x := by simp [ev_up]
theorem ev_uL_self {k j : Nat} {x : Int64} : (ev_uL σ k j x).2.1 k = vp_updL (σ.2.1 k) j x := by simp [ev_uL]
theorem ev_ws_field {k ci j : Nat} {fs : List (Option Nat)} {x : Int32} (h : lay[k]? = some (.inr (ci, fs))) (hj : fs[j]? = some none) : (ev_ws ad ca lay σ).set k (ad k, .inr (ci, (fs.mapIdx (fun j f => ev_fv ad σ k j f)).set j (.int x))) = ev_ws ad ca lay (ev_up σ k j x) := by
  rw [← ev_ws_set (σ := σ) (σ' := ev_up σ k j x) h ev_up_other]
  congr 1
  show (ad k, _) = (ad k, _)
  congr 3
  apply List.ext_getElem?
  intro i
  have hl : j < (fs.mapIdx (fun j f => ev_fv ad σ k j f)).length := by
    have := (List.getElem?_eq_some_iff.mp hj).1
    simpa using this
  by_cases hi : j = i
  · subst hi
    rw [List.getElem?_set_self hl]
    simp [hj, ev_fv, ev_up, upd]
  · rw [List.getElem?_set_ne hi]
    simp only [List.getElem?_mapIdx]
    cases hq : fs[i]? with
    | none => rfl
    | some f => cases f <;> simp [ev_fv, ev_up, upd, Ne.symm hi]
/-! locals -/
def ev_pl (ad : Nat → Nat) (ls : ev_V) : List (Nat × Value) := ls.zipIdx.filterMap (fun q => q.1.map (fun v => (q.2, ev_tr ad v)))
theorem ev_pl_mem {ls : ev_V} {i : Nat} {w : Value} : (i, w) ∈ ev_pl ad ls ↔ ∃ v, ls[i]? = some (some v) ∧ w = ev_tr ad v := by
  simp only [ev_pl, List.mem_filterMap]
  constructor
  · rintro ⟨⟨o, j⟩, hj, ho⟩
    rw [List.mk_mem_zipIdx_iff_getElem?] at hj
    cases o with
    | none => cases ho
    | some v => cases ho; exact ⟨v, hj, rfl⟩
  · rintro ⟨v, h, rfl⟩
    exact ⟨(some v, i), List.mk_mem_zipIdx_iff_getElem?.mpr h, rfl⟩
theorem ev_tr_cat (v : Value) : (ev_tr ad v).category = v.category := by cases v <;> rfl
def ev_L (lsA : Array Slot) (nL : Nat) (ad : Nat → Nat) (ls : ev_V) : Prop := lv_has lsA nL (ev_pl ad ls) ∧ ∀ (i : Nat) (v : Value), ls[i]? = some (some v) → v.category = 1
variable {lsA ls2 : Array Slot} {nL : Nat} {ls : ev_V}
theorem ev_L.get (h : ev_L lsA nL ad ls) {i : Nat} {v : Value} (hi : ls[i]? = some (some v)) : lsA[i]? = some (.val (ev_tr ad v)) := h.1.2.2 (i, ev_tr ad v) (ev_pl_mem.mpr ⟨v, hi, rfl⟩)
theorem ev_set_get {ls : ev_V} {i j : Nat} {o : Option Value} {u : Value} (h : (ls.set i o)[j]? = some (some u)) : (j = i ∧ o = some u) ∨ (j ≠ i ∧ ls[j]? = some (some u)) := by
  by_cases hj : i = j
  · subst hj
    left
    by_cases hl : i < ls.length
    · rw [List.getElem?_set_self hl] at h
      exact ⟨rfl, Option.some.inj h⟩
    · rw [List.getElem?_eq_none (by simpa using hl)] at h
      cases h
  · rw [List.getElem?_set_ne hj] at h
    exact Or.inr ⟨Ne.symm hj, h⟩
theorem ev_L.kept (h : ev_L lsA nL ad ls) {i j : Nat} {w u : Value} (h2 : lv_has ls2 nL ((i, w) :: (ev_pl ad ls).filter (fun q => !(q.1 == i) && !(q.1 + 1 == i && q.2.category == 2)))) (hj : j ≠ i) (hu : ls[j]? = some (some u)) : ls2[j]? = some (.val (ev_tr ad u)) := by
  refine h2.2.2 (j, ev_tr ad u) (List.mem_cons_of_mem _ (List.mem_filter.mpr ⟨ev_pl_mem.mpr ⟨u, hu, rfl⟩, ?_⟩))
  have hc := h.2 j u hu
  simp [hj, ev_tr_cat, hc]
theorem ev_L.set (h : ev_L lsA nL ad ls) {i : Nat} {v : Value} (hv : v.category = 1) (h2 : lv_has ls2 nL ((i, ev_tr ad v) :: (ev_pl ad ls).filter (fun q => !(q.1 == i) && !(q.1 + 1 == i && q.2.category == 2)))) : ev_L ls2 nL ad (ls.set i (some v)) := by
  refine ⟨⟨h2.1, h2.2.1, fun q hq => ?_⟩, fun j u hu => ?_⟩
  · obtain ⟨j, w⟩ := q
    obtain ⟨u, hu, rfl⟩ := ev_pl_mem.mp hq
    rcases ev_set_get hu with ⟨rfl, hx⟩ | ⟨hj, hu⟩
    · cases hx
      exact h2.2.2 _ List.mem_cons_self
    · exact h.kept h2 hj hu
  · rcases ev_set_get hu with ⟨rfl, hx⟩ | ⟨hj, hu⟩
    · cases hx
      exact hv
    · exact h.2 j u hu
theorem ev_L.unset (h : ev_L lsA nL ad ls) {i : Nat} {w : Value} (h2 : lv_has ls2 nL ((i, w) :: (ev_pl ad ls).filter (fun q => !(q.1 == i) && !(q.1 + 1 == i && q.2.category == 2)))) : ev_L ls2 nL ad (ls.set i none) := by
  refine ⟨⟨h2.1, h2.2.1, fun q hq => ?_⟩, fun j u hu => ?_⟩
  · obtain ⟨j, w⟩ := q
    obtain ⟨u, hu, rfl⟩ := ev_pl_mem.mp hq
    rcases ev_set_get hu with ⟨rfl, hx⟩ | ⟨hj, hu⟩
    · cases hx
    · exact h.kept h2 hj hu
  · rcases ev_set_get hu with ⟨rfl, hx⟩ | ⟨hj, hu⟩
    · cases hx
    · exact h.2 j u hu
theorem ev_args_mem : ∀ (vs : List Value) (k i : Nat) (v : Value), (∀ u ∈ vs, u.category = 1) → vs[i]? = some v → (k + i, v) ∈ lv_args k vs := by
  intro vs
  induction vs with
  | nil => intro k i v _ h; simp at h
  | cons u t ih =>
    intro k i v hc h
    have hu : u.category = 1 := hc u List.mem_cons_self
    have e1 : lv_args k (u :: t) = (k, u) :: lv_args (k + 1) t := by simp [lv_args, hu]
    rw [e1]
    cases i with
    | zero =>
      rw [List.getElem?_cons_zero] at h
      cases h
      exact List.mem_cons_self
    | succ i =>
      rw [List.getElem?_cons_succ] at h
      have := ih (k + 1) i v (fun w hw => hc w (List.mem_cons_of_mem _ hw)) h
      rw [show k + (i + 1) = k + 1 + i by omega]
      exact List.mem_cons_of_mem _ this
theorem ev_sl_len : ∀ (vs : List Value), (∀ u ∈ vs, u.category = 1) → (lg_sl vs).length = vs.length := by
  intro vs
  induction vs with
  | nil => intro _; rfl
  | cons u t ih =>
    intro hc
    have hu : u.category = 1 := hc u List.mem_cons_self
    have := ih (fun w hw => hc w (List.mem_cons_of_mem _ hw))
    simp only [lg_sl, List.flatMap_cons, hu] at this ⊢
    simp [this]
/-- the locals at a method's entry -/
def ev_ent (vs : List Value) (nL : Nat) : ev_V := vs.map some ++ List.replicate (nL - vs.length) none
theorem ev_entry (vs : List Value) (nL : Nat) (hc : ∀ u ∈ vs, u.category = 1) (hn : vs.length ≤ nL) : ev_L ((lg_sl (vs.map (ev_tr ad)) ++ List.replicate (nL - (lg_sl (vs.map (ev_tr ad))).length) Slot.unset).toArray) nL ad (ev_ent vs nL) := by
  have hc2 : ∀ u ∈ vs.map (ev_tr ad), u.category = 1 := by
    intro u hu
    obtain ⟨w, hw, rfl⟩ := List.mem_map.mp hu
    rw [ev_tr_cat]
    exact hc w hw
  have key : ∀ (i : Nat) (v : Value), (ev_ent vs nL)[i]? = some (some v) → vs[i]? = some v := by
    intro i v h
    unfold ev_ent at h
    by_cases hl : i < vs.length
    · rw [List.getElem?_append_left (by simpa using hl), List.getElem?_map] at h
      cases hq : vs[i]? with
      | none => rw [hq] at h; cases h
      | some w => rw [hq] at h; cases h; rfl
    · rw [List.getElem?_append_right (by simpa using hl), List.getElem?_replicate] at h
      split at h <;> cases h
  have he := lv_entry (vs.map (ev_tr ad)) (n := nL) (by rw [ev_sl_len _ hc2]; simpa using hn)
  refine ⟨⟨he.1, he.2.1, fun q hq => ?_⟩, fun i v h => hc v (List.mem_of_getElem? (key i v h))⟩
  obtain ⟨i, w⟩ := q
  obtain ⟨v, hv, rfl⟩ := ev_pl_mem.mp hq
  have h1 := ev_args_mem (vs.map (ev_tr ad)) 0 i (ev_tr ad v) hc2 (by rw [List.getElem?_map, key i v hv]; rfl)
  rw [Nat.zero_add] at h1
  exact he.2.2 _ h1
end EVL
/-! switches -/
theorem ev_lk {x : Int32} {K : Nat → Prop} {pc d : Nat} {dflt : Int} (hd : (pc : Int) + dflt = (d : Int)) : ∀ (ps : List (Int × Int)) (sw : List (Int32 × Nat)), ps.map (fun q => (q.1, (pc : Int) + q.2)) = sw.map (fun q => (q.1.toInt, (q.2 : Int))) → ev_sw x K d sw →
    ∃ (off : Int) (t : Nat), Op.lookupswitch.offset ps dflt x.toInt = off ∧ (pc : Int) + off = (t : Int) ∧ K t := by
  intro ps
  induction ps with
  | nil =>
    intro sw h hs
    cases sw with
    | nil => exact ⟨dflt, d, Op.lookupswitch.offset_nil _ _, hd, hs⟩
    | cons _ _ => cases h
  | cons q ps ih =>
    intro sw h hs
    obtain ⟨a, o⟩ := q
    cases sw with
    | nil => cases h
    | cons z sw =>
      obtain ⟨v, t⟩ := z
      simp only [List.map_cons, List.cons.injEq, Prod.mk.injEq] at h
      obtain ⟨⟨ha, ho⟩, hr⟩ := h
      obtain ⟨h1, h2⟩ := hs
      by_cases hx : x = v
      · refine ⟨o, t, ?_, ho, h1 hx⟩
        rw [Op.lookupswitch.offset_cons, if_pos]
        rw [hx, ha]
      · obtain ⟨off, t', e1, e2, e3⟩ := ih sw hr (h2 hx)
        exact ⟨off, t', by rw [lv_osw hx ha.symm]; exact e1, e2, e3⟩
def ev_tok (pc : Nat) : Int → List Int → List (Int32 × Nat) → Bool
  | _, [], [] => true
  | b, o :: os, (v, t) :: sw => decide (v.toInt = b) && decide ((pc : Int) + o = (t : Int)) && ev_tok pc (b + 1) os sw
  | _, _, _ => false
theorem ev_tb {x : Int32} {K : Nat → Prop} {pc d : Nat} : ∀ (os : List Int) (sw : List (Int32 × Nat)) (b : Int), ev_tok pc b os sw = true → ev_sw x K d sw →
    (∃ (i t : Nat) (off : Int), os[i]? = some off ∧ x.toInt = b + i ∧ (pc : Int) + off = (t : Int) ∧ K t) ∨ (K d ∧ (x.toInt < b ∨ b + os.length ≤ x.toInt)) := by
  intro os
  induction os with
  | nil =>
    intro sw b h hs
    cases sw with
    | nil =>
      right
      refine ⟨hs, ?_⟩
      simp only [List.length_nil]
      omega
    | cons _ _ => cases h
  | cons o os ih =>
    intro sw b h hs
    cases sw with
    | nil => cases h
    | cons z sw =>
      obtain ⟨v, t⟩ := z
      simp only [ev_tok, Bool.and_eq_true, decide_eq_true_eq] at h
      obtain ⟨⟨hv, ho⟩, hr⟩ := h
      obtain ⟨h1, h2⟩ := hs
      by_cases hx : x = v
      · left
        exact ⟨0, t, o, rfl, by rw [hx, hv]; simp, ho, h1 hx⟩
      · have hne : x.toInt ≠ b := fun z => hx (Int32.toInt_inj.mp (by rw [z, hv]))
        rcases ih sw (b + 1) hr (h2 hx) with ⟨i, t', off, e1, e2, e3, e4⟩ | ⟨e1, e2⟩
        · left
          exact ⟨i + 1, t', off, by rw [List.getElem?_cons_succ]; exact e1, by rw [e2]; omega, e3, e4⟩
        · right
          refine ⟨e1, ?_⟩
          simp only [List.length_cons]
          omega
