/-! THE PROGRAM: the words that the tables say -/
def ev_gw (w : Jvm.Cond) : Bool := match w with
  | .arrayClass _ => true
  | .methodLinkNest .. => true
  | .fieldLinkNest .. => true
  | .declares _ => true
  | .castable .. => true
  | .stringRef .. => true
  | w => w.onTables && w.keeps
theorem ev_gw_ok {w : Jvm.Cond} (h : ev_gw w = true) {A A' : Array Value} {u U : State} (hW : u.WarmedH U.vm) (hb : w.before A u = true) : w.before A' U = true := by
  unfold ev_gw at h
  split at h
  · exact word_at hW (Or.inr ⟨_, rfl⟩) hb
  · exact va_Nw.use rfl (va_Nw.warmM hW (va_Nw.of rfl hb))
  · exact va_Nw.use rfl (va_Nw.warmF hW (va_Nw.of rfl hb))
  · exact va_Nw.use rfl (va_Nw.warmD hW (va_Nw.of rfl hb))
  · have h1 := Cond.faceAtom_setVm (args := A) hW.alike _ rfl hb
    exact va_tabs rfl (rfl : (u.setVm U.vm).vm = U.vm) h1
  · have h1 := Cond.stringRef_warmed hW hb
    simp only [Cond.before, Cond.holds, Cond.value, State.names, State.poolOf?, State.resolvedAt?] at h1 ⊢
    exact h1
  · exact word_at hW (Or.inl h) hb
/-- what the Statement's start says beyond its tables: no state exception is an argument exception -/
def pg_nc : Jvm.Cond := .not (.castable "java/lang/IllegalStateException" "java/lang/IllegalArgumentException")
theorem pg_nc_spec {A : Array Value} {u : State} {X Y : String} (h : (Jvm.Cond.not (.castable X Y)).before A u = true) : ∃ c t, u.vm.findClass X = some c ∧ u.vm.findClass Y = some t ∧ u.vm.assignable c t = false := by
  simp only [Cond.before, Cond.holds, Cond.value] at h
  cases hc : u.vm.findClass X with
  | none => simp [hc] at h
  | some c =>
    cases ht : u.vm.findClass Y with
    | none => simp [hc, ht] at h
    | some t => exact ⟨c, t, rfl, rfl, by simpa [hc, ht] using h⟩
def pg_TB : List Jvm.Cond := pg_nc :: lw_tbl.filter ev_gw
theorem pg_mem {w : Jvm.Cond} (h : w ∈ lw_tbl) (hg : ev_gw w = true) : w ∈ pg_TB := List.mem_cons_of_mem _ (List.mem_filter.mpr ⟨h, hg⟩)
theorem pg_tb : ev_Tb pg_TB := fun w hw A A' u U hW hb => by
  rcases List.mem_cons.mp hw with rfl | hw
  · obtain ⟨c, t, h1, h2, h3⟩ := pg_nc_spec hb
    have hv := hW.alike
    simp [pg_nc, Cond.before, Cond.holds, Cond.value, hv.findClass, hv.assignable, h1, h2, h3]
  · exact ev_gw_ok (List.mem_filter.mp hw).2 hW hb
