/-! THE PROGRAM: the words that the tables say -/
def ev_gw (w : Jvm.Cond) : Bool := match w with
  | .arrayClass _ => true
  | .methodLinkNest .. => true
  | .fieldLinkNest .. => true
  | .declares _ => true
  | .castable .. => true
  | .stringRef .. => true
  | w => w.onTables && w.keeps
theorem ev_gw_ok {w : Jvm.Cond} (h : ev_gw w = true) {A A' : Array Value} {u U : State} (hW : u.WarmedH U.vm) (hb : w.before A u = true) : w.before A' U = true := by
  unfold ev_gw at h
  split at h
  · exact word_at hW (Or.inr ⟨_, rfl⟩) hb
  · exact va_Nw.use rfl (va_Nw.warmM hW (va_Nw.of rfl hb))
  · exact va_Nw.use rfl (va_Nw.warmF hW (va_Nw.of rfl hb))
  · exact va_Nw.use rfl (va_Nw.warmD hW (va_Nw.of rfl hb))
  · have h1 := Cond.faceAtom_setVm (args := A) hW.alike _ rfl hb
    exact va_tabs rfl (rfl : (u.setVm U.vm).vm = U.vm) h1
  · have h1 := Cond.stringRef_warmed hW hb
    simp only [Cond.before, Cond.holds, Cond.value, State.names, State.poolOf?, State.resolvedAt?] at h1 ⊢
    exact h1
  · exact word_at hW (Or.inl h) hb
def pg_TB : List Jvm.Cond := lw_tbl.filter ev_gw
theorem pg_tb : ev_Tb pg_TB := fun w hw A A' u U hW hb => ev_gw_ok (List.mem_filter.mp hw).2 hW hb
