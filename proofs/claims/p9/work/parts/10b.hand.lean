/-! HANDLERS: which row of a table takes what is thrown -/
abbrev ev_hr (x : ExceptionTableEntry) : Nat × Nat × Nat × Nat := (x.startPc, x.endPc, x.handlerPc, x.catchType)
theorem ev_tk_yes {l : Launch} {e : Env} {s : State} {m : MethodId} {args : Array Value} {own X Y : String} {rows : List ExceptionTableEntry} {a b hp ct : Nat} {rest : List (Nat × Nat × Nat × Nat)} {kc : ClassId} {pc : Nat} (ha : l.admits e) (hown : s.vm.findClass own = some m.cls) (hex : rows.map ev_hr = (a, b, hp, ct) :: rest)
    (hc : (decide (a ≤ pc) && decide (pc < b)) = true) (h0 : ct ≠ 0) (hl : (Jvm.Cond.classLink own ct X).before args s = true) (hcast : (Jvm.Cond.castable Y X).before args s = true) (hk : s.vm.findClass Y = some kc) : ev_tk e s m kc pc rows hp := by
  cases rows with
  | nil => cases hex
  | cons x t =>
    rw [List.map_cons] at hex
    have hex1 := (List.cons.inj hex).1
    simp only [ev_hr, Prod.mk.injEq] at hex1
    obtain ⟨rfl, rfl, rfl, rfl⟩ := hex1
    obtain ⟨c', hc', hcl⟩ := Cond.classLink_spec hown hl e.platform (by rw [ha.platform])
    obtain ⟨c1, t1, h1, h2, h3⟩ := Cond.castable_spec hcast
    cases hk.symm.trans h1
    cases hc'.symm.trans h2
    exact ⟨hc, h0, _, hcl, Or.inl ⟨h3, rfl⟩⟩
theorem ev_tk_no {l : Launch} {e : Env} {s : State} {m : MethodId} {args : Array Value} {own X Y : String} {rows : List ExceptionTableEntry} {a b hp hp2 ct : Nat} {rest : List (Nat × Nat × Nat × Nat)} {kc : ClassId} {pc : Nat} (ha : l.admits e) (hown : s.vm.findClass own = some m.cls) (hex : rows.map ev_hr = (a, b, hp, ct) :: rest)
    (hc : (decide (a ≤ pc) && decide (pc < b)) = true) (h0 : ct ≠ 0) (hl : (Jvm.Cond.classLink own ct X).before args s = true) (hn : ∃ c t, s.vm.findClass Y = some c ∧ s.vm.findClass X = some t ∧ s.vm.assignable c t = false) (hk : s.vm.findClass Y = some kc) (hr : ∀ t : List ExceptionTableEntry, t.map ev_hr = rest → ev_tk e s m kc pc t hp2) : ev_tk e s m kc pc rows hp2 := by
  cases rows with
  | nil => cases hex
  | cons x t =>
    rw [List.map_cons] at hex
    have hex1 := (List.cons.inj hex).1
    have hex2 := (List.cons.inj hex).2
    simp only [ev_hr, Prod.mk.injEq] at hex1
    obtain ⟨rfl, rfl, rfl, rfl⟩ := hex1
    obtain ⟨c', hc', hcl⟩ := Cond.classLink_spec hown hl e.platform (by rw [ha.platform])
    obtain ⟨c1, t1, h1, h2, h3⟩ := hn
    cases hk.symm.trans h1
    cases hc'.symm.trans h2
    exact ⟨hc, h0, _, hcl, Or.inr ⟨h3, hr t hex2⟩⟩
/-- the ends of a method's runs stand in its bytes -/
def ev_ends (y : ev_M) (tm : List (Nat × Nat)) : Bool := tm.all fun z => match z.2 with
  | 0 => decide (decode y.2.1 z.1 = .ok (.return_, 1)) && decide (y.2.2.2.1 = none)
  | 1 => decide (decode y.2.1 z.1 = .ok (.ireturn, 1)) && decide (y.2.2.2.1 = some .int)
  | 2 => decide (decode y.2.1 z.1 = .ok (.ireturn, 1)) && decide (y.2.2.2.1 = some .boolean)
  | _ => decide (y.2.2.2.2.1 = [])
theorem ev_ends_ok {y : ev_M} {tm : List (Nat × Nat)} (h : ev_ends y tm = true) : (∀ pc, ev_tl tm pc = some 0 → decode y.2.1 pc = .ok (.return_, 1) ∧ y.2.2.2.1 = none) ∧ (∀ pc, ev_tl tm pc = some 1 → decode y.2.1 pc = .ok (.ireturn, 1) ∧ y.2.2.2.1 = some .int) ∧ (∀ pc, ev_tl tm pc = some 2 → decode y.2.1 pc = .ok (.ireturn, 1) ∧ y.2.2.2.1 = some .boolean) ∧ (∀ pc k, ev_tl tm pc = some (k + 3) → y.2.2.2.2.1 = []) := by
  refine ⟨fun pc g => ?_, fun pc g => ?_, fun pc g => ?_, fun pc k g => ?_⟩
  all_goals
    have := List.all_eq_true.mp h _ (ev_tl_mem g)
    simpa using this
def ev_nothr (tm : List (Nat × Nat)) : Bool := tm.all fun z => decide (z.2 < 3)
theorem ev_nothr_ok {tm : List (Nat × Nat)} (h : ev_nothr tm = true) {P : Nat → Nat → Prop} : ∀ pc k, ev_tl tm pc = some (k + 3) → P pc k := fun pc k g => by
  have := List.all_eq_true.mp h _ (ev_tl_mem g)
  have h3 : k + 3 < 3 := by simpa using this
  omega
