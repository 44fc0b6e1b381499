/-! EVERY METHOD DOES WHAT pg_F SAYS (laid by wip/gen/asm.py) -/
set_option maxRecDepth 100000 in
theorem pg_Clb : (pg_cl.all fun q => (u_ws q.1 q.2.1 q.2.2).all fun w => decide (w ∈ lw_tbl) && ev_gw w) = true := by decide +kernel
theorem pg_Clw {C : String} {T : u_T} {N : Nat} (h : (C, T, N) ∈ pg_cl) : ∀ w ∈ u_ws C T N, w ∈ pg_TB := fun w hw => by
  have h1 := List.all_eq_true.mp (List.all_eq_true.mp pg_Clb _ h) w hw
  simp only [Bool.and_eq_true, decide_eq_true_eq] at h1
  exact pg_mem h1.1 h1.2
def pg_ty0 : Nat → FieldType := fun k => match k with
  | 0 => .array .int
  | 1 => .array .int
  | 2 => .int
  | 3 => .int
  | 4 => .boolean
  | 5 => .boolean
  | 6 => .int
  | _ => .int
theorem pg_tyb0 : ((List.range 8).all fun k => decide (parseFieldDescriptor (pg_T0 k).2.2.1 = some (pg_ty0 k))) = true := by decide +kernel
theorem pg_apb0 : ((List.range 8).all fun a => (List.range 8).all fun b => decide (a = b) || decide ((pg_T0 a).2.1 ≠ (pg_T0 b).2.1)) = true := by decide +kernel
def pg_ty1 : Nat → FieldType := fun k => match k with
  | 0 => .object "TicketTag$Memory"
  | 1 => .array .int
  | 2 => .array .boolean
  | 3 => .int
  | 4 => .int
  | _ => .int
theorem pg_tyb1 : ((List.range 6).all fun k => decide (parseFieldDescriptor (pg_T1 k).2.2.1 = some (pg_ty1 k))) = true := by decide +kernel
theorem pg_apb1 : ((List.range 6).all fun a => (List.range 6).all fun b => decide (a = b) || decide ((pg_T1 a).2.1 ≠ (pg_T1 b).2.1)) = true := by decide +kernel
def pg_ty2 : Nat → FieldType := fun k => match k with
  | 0 => .int
  | 1 => .array .int
  | 2 => .array .int
  | 3 => .array .int
  | 4 => .array .boolean
  | 5 => .int
  | 6 => .boolean
  | 7 => .int
  | 8 => .int
  | 9 => .int
  | 10 => .boolean
  | 11 => .int
  | 12 => .int
  | _ => .array .int
theorem pg_tyb2 : ((List.range 14).all fun k => decide (parseFieldDescriptor (pg_T2 k).2.2.1 = some (pg_ty2 k))) = true := by decide +kernel
theorem pg_apb2 : ((List.range 14).all fun a => (List.range 14).all fun b => decide (a = b) || decide ((pg_T2 a).2.1 ≠ (pg_T2 b).2.1)) = true := by decide +kernel
theorem pg_Cl1 {C : String} {T : u_T} {N : Nat} (hm : (C, T, N) ∈ pg_cl) (ty : Nat → FieldType) (h1 : ((List.range N).all fun k => decide (parseFieldDescriptor (T k).2.2.1 = some (ty k))) = true) (h2 : ((List.range N).all fun a => (List.range N).all fun b => decide (a = b) || decide ((T a).2.1 ≠ (T b).2.1)) = true) : (∀ w ∈ u_ws C T N, w ∈ pg_TB) ∧ (∃ ty : Nat → FieldType, ∀ k, k < N → parseFieldDescriptor (T k).2.2.1 = some (ty k)) ∧ (∀ a, a < N → ∀ b, b < N → a ≠ b → (T a).2.1 ≠ (T b).2.1) :=
  ⟨pg_Clw hm, ⟨ty, fun k hk => of_decide_eq_true (List.all_eq_true.mp h1 k (List.mem_range.mpr hk))⟩, fun a ha b hb hab => by
    have := List.all_eq_true.mp (List.all_eq_true.mp h2 a (List.mem_range.mpr ha)) b (List.mem_range.mpr hb)
    simpa [hab] using this⟩
theorem pg_Cl : ev_Cl pg_TB pg_cl := by
  intro ci C T N h
  have hm := List.mem_of_getElem? h
  match ci with
  | 0 => cases h; exact pg_Cl1 hm pg_ty0 pg_tyb0 pg_apb0
  | 1 => cases h; exact pg_Cl1 hm pg_ty1 pg_tyb1 pg_apb1
  | 2 => cases h; exact pg_Cl1 hm pg_ty2 pg_tyb2 pg_apb2
  | n + 3 => cases h
set_option maxRecDepth 100000 in
theorem pg_WQ13_0 : (Jvm.Cond.classLink "TicketTagLaw" 13 (ev_xn 0)) ∈ pg_TB := pg_mem (by decide +kernel) rfl
set_option maxRecDepth 100000 in
theorem pg_WQ15_1 : (Jvm.Cond.classLink "TicketTagLaw" 15 (ev_xn 1)) ∈ pg_TB := pg_mem (by decide +kernel) rfl
set_option maxRecDepth 100000 in
theorem pg_WQ47_2 : (Jvm.Cond.classLink "TicketTagLaw" 47 (ev_xn 2)) ∈ pg_TB := pg_mem (by decide +kernel) rfl
set_option maxRecDepth 100000 in
theorem pg_C0 : (Jvm.Cond.castable (ev_xn 0) (ev_xn 0)) ∈ pg_TB := pg_mem (by decide +kernel) rfl
set_option maxRecDepth 100000 in
theorem pg_C1 : (Jvm.Cond.castable (ev_xn 1) (ev_xn 1)) ∈ pg_TB := pg_mem (by decide +kernel) rfl
set_option maxRecDepth 100000 in
theorem pg_C2 : (Jvm.Cond.castable (ev_xn 2) (ev_xn 2)) ∈ pg_TB := pg_mem (by decide +kernel) rfl
section PGA
variable {l : Launch}
set_option maxRecDepth 100000 in
theorem pg_q0 : (Jvm.Cond.classLink "TicketTag" 38 (ev_xn 0)) ∈ pg_TB := pg_mem (by decide +kernel) rfl
set_option maxRecDepth 100000 in
theorem pg_q1 : (Jvm.Cond.instantiable (ev_xn 0) 6) ∈ pg_TB := pg_mem (by decide +kernel) rfl
set_option maxRecDepth 100000 in
theorem pg_q2 : (Jvm.Cond.initialized (ev_xn 0)) ∈ pg_TB := pg_mem (by decide +kernel) rfl
set_option maxRecDepth 100000 in
theorem pg_q3 : (Jvm.Cond.stringRef "TicketTag" 72 "no such gate") ∈ pg_TB := pg_mem (by decide +kernel) rfl
set_option maxRecDepth 100000 in
theorem pg_bd0b : ((Bundle.ownAtoms "TicketTag" 42 (ev_xn 0) ev_up2).all fun w => (decide (w ∈ lw_tbl) && ev_gw w) || decide (w ∈ ev_ZA)) = true := by decide +kernel
theorem pg_bd0 : ∀ w ∈ Bundle.ownAtoms "TicketTag" 42 (ev_xn 0) ev_up2, w ∈ pg_TB ∨ w ∈ ev_ZA := fun w hw => by
  have h1 := List.all_eq_true.mp pg_bd0b w hw
  simp only [Bool.or_eq_true, Bool.and_eq_true, decide_eq_true_eq] at h1
  exact h1.imp (fun h => pg_mem h.1 h.2) id
theorem pg_s126_7 (hfl : l.flags = pinnedFlags ++ [noTraceFlag]) : ev_Th l pg_TB pg_y126.1.cls pg_y126.2.1 pg_y126.2.2.1 pg_y126.2.2.2.2.2.1 pg_y126.2.2.2.2.2.2 0 7 :=
  ev_site hfl (by decide +kernel) (by decide +kernel) (by decide +kernel) (by decide +kernel) (by decide +kernel) pg_q0 pg_q1 pg_q2 pg_q3 pg_bd0 (by decide +kernel) (by decide +kernel) (by decide) (by decide)
set_option maxRecDepth 100000 in
theorem pg_q4 : (Jvm.Cond.stringRef "TicketTag" 180 "no such day, minute or zone") ∈ pg_TB := pg_mem (by decide +kernel) rfl
theorem pg_s127_17 (hfl : l.flags = pinnedFlags ++ [noTraceFlag]) : ev_Th l pg_TB pg_y127.1.cls pg_y127.2.1 pg_y127.2.2.1 pg_y127.2.2.2.2.2.1 pg_y127.2.2.2.2.2.2 0 17 :=
  ev_site hfl (by decide +kernel) (by decide +kernel) (by decide +kernel) (by decide +kernel) (by decide +kernel) pg_q0 pg_q1 pg_q2 pg_q4 pg_bd0 (by decide +kernel) (by decide +kernel) (by decide) (by decide)
set_option maxRecDepth 100000 in
theorem pg_q5 : (Jvm.Cond.stringRef "TicketTag" 40 "no such product") ∈ pg_TB := pg_mem (by decide +kernel) rfl
theorem pg_s128_11 (hfl : l.flags = pinnedFlags ++ [noTraceFlag]) : ev_Th l pg_TB pg_y128.1.cls pg_y128.2.1 pg_y128.2.2.1 pg_y128.2.2.2.2.2.1 pg_y128.2.2.2.2.2.2 0 11 :=
  ev_site hfl (by decide +kernel) (by decide +kernel) (by decide +kernel) (by decide +kernel) (by decide +kernel) pg_q0 pg_q1 pg_q2 pg_q5 pg_bd0 (by decide +kernel) (by decide +kernel) (by decide) (by decide)
set_option maxRecDepth 100000 in
theorem pg_q6 : (Jvm.Cond.classLink "TicketTag" 49 (ev_xn 1)) ∈ pg_TB := pg_mem (by decide +kernel) rfl
set_option maxRecDepth 100000 in
theorem pg_q7 : (Jvm.Cond.instantiable (ev_xn 1) 6) ∈ pg_TB := pg_mem (by decide +kernel) rfl
set_option maxRecDepth 100000 in
theorem pg_q8 : (Jvm.Cond.initialized (ev_xn 1)) ∈ pg_TB := pg_mem (by decide +kernel) rfl
set_option maxRecDepth 100000 in
theorem pg_q9 : (Jvm.Cond.stringRef "TicketTag" 51 "a dialogue goes on") ∈ pg_TB := pg_mem (by decide +kernel) rfl
set_option maxRecDepth 100000 in
theorem pg_bd1b : ((Bundle.ownAtoms "TicketTag" 53 (ev_xn 1) ev_up2).all fun w => (decide (w ∈ lw_tbl) && ev_gw w) || decide (w ∈ ev_ZA)) = true := by decide +kernel
theorem pg_bd1 : ∀ w ∈ Bundle.ownAtoms "TicketTag" 53 (ev_xn 1) ev_up2, w ∈ pg_TB ∨ w ∈ ev_ZA := fun w hw => by
  have h1 := List.all_eq_true.mp pg_bd1b w hw
  simp only [Bool.or_eq_true, Bool.and_eq_true, decide_eq_true_eq] at h1
  exact h1.imp (fun h => pg_mem h.1 h.2) id
theorem pg_s128_31 (hfl : l.flags = pinnedFlags ++ [noTraceFlag]) : ev_Th l pg_TB pg_y128.1.cls pg_y128.2.1 pg_y128.2.2.1 pg_y128.2.2.2.2.2.1 pg_y128.2.2.2.2.2.2 1 31 :=
  ev_site hfl (by decide +kernel) (by decide +kernel) (by decide +kernel) (by decide +kernel) (by decide +kernel) pg_q6 pg_q7 pg_q8 pg_q9 pg_bd1 (by decide +kernel) (by decide +kernel) (by decide) (by decide)
theorem pg_s129_7 (hfl : l.flags = pinnedFlags ++ [noTraceFlag]) : ev_Th l pg_TB pg_y129.1.cls pg_y129.2.1 pg_y129.2.2.1 pg_y129.2.2.2.2.2.1 pg_y129.2.2.2.2.2.2 0 7 :=
  ev_site hfl (by decide +kernel) (by decide +kernel) (by decide +kernel) (by decide +kernel) (by decide +kernel) pg_q0 pg_q1 pg_q2 pg_q3 pg_bd0 (by decide +kernel) (by decide +kernel) (by decide) (by decide)
theorem pg_s129_27 (hfl : l.flags = pinnedFlags ++ [noTraceFlag]) : ev_Th l pg_TB pg_y129.1.cls pg_y129.2.1 pg_y129.2.2.1 pg_y129.2.2.2.2.2.1 pg_y129.2.2.2.2.2.2 1 27 :=
  ev_site hfl (by decide +kernel) (by decide +kernel) (by decide +kernel) (by decide +kernel) (by decide +kernel) pg_q6 pg_q7 pg_q8 pg_q9 pg_bd1 (by decide +kernel) (by decide +kernel) (by decide) (by decide)
set_option maxRecDepth 100000 in
theorem pg_q10 : (Jvm.Cond.stringRef "TicketTag" 70 "no such gate, day or minute") ∈ pg_TB := pg_mem (by decide +kernel) rfl
theorem pg_s130_15 (hfl : l.flags = pinnedFlags ++ [noTraceFlag]) : ev_Th l pg_TB pg_y130.1.cls pg_y130.2.1 pg_y130.2.2.1 pg_y130.2.2.2.2.2.1 pg_y130.2.2.2.2.2.2 0 15 :=
  ev_site hfl (by decide +kernel) (by decide +kernel) (by decide +kernel) (by decide +kernel) (by decide +kernel) pg_q0 pg_q1 pg_q2 pg_q10 pg_bd0 (by decide +kernel) (by decide +kernel) (by decide) (by decide)
set_option maxRecDepth 100000 in
theorem pg_q11 : (Jvm.Cond.stringRef "TicketTag" 130 "no such number of words, or no such word") ∈ pg_TB := pg_mem (by decide +kernel) rfl
theorem pg_s131_18 (hfl : l.flags = pinnedFlags ++ [noTraceFlag]) : ev_Th l pg_TB pg_y131.1.cls pg_y131.2.1 pg_y131.2.2.1 pg_y131.2.2.2.2.2.1 pg_y131.2.2.2.2.2.2 0 18 :=
  ev_site hfl (by decide +kernel) (by decide +kernel) (by decide +kernel) (by decide +kernel) (by decide +kernel) pg_q0 pg_q1 pg_q2 pg_q11 pg_bd0 (by decide +kernel) (by decide +kernel) (by decide) (by decide)
set_option maxRecDepth 100000 in
theorem pg_q12 : (Jvm.Cond.stringRef "TicketTag" 108 "no such number of cents") ∈ pg_TB := pg_mem (by decide +kernel) rfl
theorem pg_s132_11 (hfl : l.flags = pinnedFlags ++ [noTraceFlag]) : ev_Th l pg_TB pg_y132.1.cls pg_y132.2.1 pg_y132.2.2.1 pg_y132.2.2.2.2.2.1 pg_y132.2.2.2.2.2.2 0 11 :=
  ev_site hfl (by decide +kernel) (by decide +kernel) (by decide +kernel) (by decide +kernel) (by decide +kernel) pg_q0 pg_q1 pg_q2 pg_q12 pg_bd0 (by decide +kernel) (by decide +kernel) (by decide) (by decide)
set_option maxRecDepth 100000 in
theorem pg_q13 : (Jvm.Cond.stringRef "TicketTag" 88 "no dialogue goes on") ∈ pg_TB := pg_mem (by decide +kernel) rfl
theorem pg_s132_31 (hfl : l.flags = pinnedFlags ++ [noTraceFlag]) : ev_Th l pg_TB pg_y132.1.cls pg_y132.2.1 pg_y132.2.2.1 pg_y132.2.2.2.2.2.1 pg_y132.2.2.2.2.2.2 1 31 :=
  ev_site hfl (by decide +kernel) (by decide +kernel) (by decide +kernel) (by decide +kernel) (by decide +kernel) pg_q6 pg_q7 pg_q8 pg_q13 pg_bd1 (by decide +kernel) (by decide +kernel) (by decide) (by decide)
set_option maxRecDepth 100000 in
theorem pg_q14 : (Jvm.Cond.stringRef "TicketTag" 86 "no such line, zone or direction") ∈ pg_TB := pg_mem (by decide +kernel) rfl
theorem pg_s133_28 (hfl : l.flags = pinnedFlags ++ [noTraceFlag]) : ev_Th l pg_TB pg_y133.1.cls pg_y133.2.1 pg_y133.2.2.1 pg_y133.2.2.2.2.2.1 pg_y133.2.2.2.2.2.2 0 28 :=
  ev_site hfl (by decide +kernel) (by decide +kernel) (by decide +kernel) (by decide +kernel) (by decide +kernel) pg_q0 pg_q1 pg_q2 pg_q14 pg_bd0 (by decide +kernel) (by decide +kernel) (by decide) (by decide)
theorem pg_s133_48 (hfl : l.flags = pinnedFlags ++ [noTraceFlag]) : ev_Th l pg_TB pg_y133.1.cls pg_y133.2.1 pg_y133.2.2.1 pg_y133.2.2.2.2.2.1 pg_y133.2.2.2.2.2.2 1 48 :=
  ev_site hfl (by decide +kernel) (by decide +kernel) (by decide +kernel) (by decide +kernel) (by decide +kernel) pg_q6 pg_q7 pg_q8 pg_q13 pg_bd1 (by decide +kernel) (by decide +kernel) (by decide) (by decide)
set_option maxRecDepth 100000 in
theorem pg_q15 : (Jvm.Cond.classLink "TicketTag" 189 (ev_xn 2)) ∈ pg_TB := pg_mem (by decide +kernel) rfl
set_option maxRecDepth 100000 in
theorem pg_q16 : (Jvm.Cond.instantiable (ev_xn 2) 6) ∈ pg_TB := pg_mem (by decide +kernel) rfl
set_option maxRecDepth 100000 in
theorem pg_q17 : (Jvm.Cond.initialized (ev_xn 2)) ∈ pg_TB := pg_mem (by decide +kernel) rfl
set_option maxRecDepth 100000 in
theorem pg_q18 : (Jvm.Cond.stringRef "TicketTag" 191 "no such block or word") ∈ pg_TB := pg_mem (by decide +kernel) rfl
set_option maxRecDepth 100000 in
theorem pg_bd2b : ((Bundle.ownAtoms "TicketTag" 193 (ev_xn 2) ev_up2).all fun w => (decide (w ∈ lw_tbl) && ev_gw w) || decide (w ∈ ev_ZA)) = true := by decide +kernel
theorem pg_bd2 : ∀ w ∈ Bundle.ownAtoms "TicketTag" 193 (ev_xn 2) ev_up2, w ∈ pg_TB ∨ w ∈ ev_ZA := fun w hw => by
  have h1 := List.all_eq_true.mp pg_bd2b w hw
  simp only [Bool.or_eq_true, Bool.and_eq_true, decide_eq_true_eq] at h1
  exact h1.imp (fun h => pg_mem h.1 h.2) id
theorem pg_s134_17 (hfl : l.flags = pinnedFlags ++ [noTraceFlag]) : ev_Th l pg_TB pg_y134.1.cls pg_y134.2.1 pg_y134.2.2.1 pg_y134.2.2.2.2.2.1 pg_y134.2.2.2.2.2.2 2 17 :=
  ev_site hfl (by decide +kernel) (by decide +kernel) (by decide +kernel) (by decide +kernel) (by decide +kernel) pg_q15 pg_q16 pg_q17 pg_q18 pg_bd2 (by decide +kernel) (by decide +kernel) (by decide) (by decide)
theorem pg_h136 (e : Env) (s : State) (m : MethodId) (c : Code) (args : Array Value) (ha : l.admits e) (hown : s.vm.findClass pg_y136.1.cls = some m.cls) (hts : ∀ w ∈ pg_TB, w.before args s = true) (hex : c.exceptionTable.toList.map (fun h => (h.startPc, h.endPc, h.handlerPc, h.catchType)) = pg_y136.2.2.2.2.1) : ev_Hd e s m c pg_y136.2.1 pg_y136.2.2.1 [(3, 0, 10, 3)] := by
  intro h hm kc hkc
  rcases List.mem_cons.mp hm with rfl | hm
  · exact ⟨9, ev_tk_yes ha hown hex (by decide) (by decide) (hts _ pg_WQ13_0) (hts _ pg_C0) hkc, by decide, Or.inl ⟨3, rfl, by decide +kernel, rfl⟩⟩
  cases hm
theorem pg_h137 (e : Env) (s : State) (m : MethodId) (c : Code) (args : Array Value) (ha : l.admits e) (hown : s.vm.findClass pg_y137.1.cls = some m.cls) (hts : ∀ w ∈ pg_TB, w.before args s = true) (hex : c.exceptionTable.toList.map (fun h => (h.startPc, h.endPc, h.handlerPc, h.catchType)) = pg_y137.2.2.2.2.1) : ev_Hd e s m c pg_y137.2.1 pg_y137.2.2.1 [(7, 0, 17, 5)] := by
  intro h hm kc hkc
  rcases List.mem_cons.mp hm with rfl | hm
  · exact ⟨15, ev_tk_yes ha hown hex (by decide) (by decide) (hts _ pg_WQ13_0) (hts _ pg_C0) hkc, by decide, Or.inr ⟨by decide +kernel, rfl⟩⟩
  cases hm
theorem pg_h138 (e : Env) (s : State) (m : MethodId) (c : Code) (args : Array Value) (ha : l.admits e) (hown : s.vm.findClass pg_y138.1.cls = some m.cls) (hts : ∀ w ∈ pg_TB, w.before args s = true) (hex : c.exceptionTable.toList.map (fun h => (h.startPc, h.endPc, h.handlerPc, h.catchType)) = pg_y138.2.2.2.2.1) : ev_Hd e s m c pg_y138.2.1 pg_y138.2.2.1 [(9, 0, 26, 6), (9, 1, 30, 6)] := by
  intro h hm kc hkc
  rcases List.mem_cons.mp hm with rfl | hm
  · exact ⟨24, ev_tk_yes ha hown hex (by decide) (by decide) (hts _ pg_WQ13_0) (hts _ pg_C0) hkc, by decide, Or.inr ⟨by decide +kernel, rfl⟩⟩
  rcases List.mem_cons.mp hm with rfl | hm
  · exact ⟨28, ev_tk_no ha hown hex (by decide) (by decide) (hts _ pg_WQ13_0) (pg_nc_spec (hts pg_nc List.mem_cons_self)) hkc (fun t0 e0 => ev_tk_yes ha hown e0 (by decide) (by decide) (hts _ pg_WQ15_1) (hts _ pg_C1) hkc), by decide, Or.inr ⟨by decide +kernel, rfl⟩⟩
  cases hm
theorem pg_h139 (e : Env) (s : State) (m : MethodId) (c : Code) (args : Array Value) (ha : l.admits e) (hown : s.vm.findClass pg_y139.1.cls = some m.cls) (hts : ∀ w ∈ pg_TB, w.before args s = true) (hex : c.exceptionTable.toList.map (fun h => (h.startPc, h.endPc, h.handlerPc, h.catchType)) = pg_y139.2.2.2.2.1) : ev_Hd e s m c pg_y139.2.1 pg_y139.2.2.1 [(4, 0, 13, 3), (4, 1, 16, 3)] := by
  intro h hm kc hkc
  rcases List.mem_cons.mp hm with rfl | hm
  · exact ⟨12, ev_tk_yes ha hown hex (by decide) (by decide) (hts _ pg_WQ13_0) (hts _ pg_C0) hkc, by decide, Or.inl ⟨3, rfl, by decide +kernel, rfl⟩⟩
  rcases List.mem_cons.mp hm with rfl | hm
  · exact ⟨15, ev_tk_no ha hown hex (by decide) (by decide) (hts _ pg_WQ13_0) (pg_nc_spec (hts pg_nc List.mem_cons_self)) hkc (fun t0 e0 => ev_tk_yes ha hown e0 (by decide) (by decide) (hts _ pg_WQ15_1) (hts _ pg_C1) hkc), by decide, Or.inl ⟨3, rfl, by decide +kernel, rfl⟩⟩
  cases hm
theorem pg_h140 (e : Env) (s : State) (m : MethodId) (c : Code) (args : Array Value) (ha : l.admits e) (hown : s.vm.findClass pg_y140.1.cls = some m.cls) (hts : ∀ w ∈ pg_TB, w.before args s = true) (hex : c.exceptionTable.toList.map (fun h => (h.startPc, h.endPc, h.handlerPc, h.catchType)) = pg_y140.2.2.2.2.1) : ev_Hd e s m c pg_y140.2.1 pg_y140.2.2.1 [(4, 0, 12, 4)] := by
  intro h hm kc hkc
  rcases List.mem_cons.mp hm with rfl | hm
  · exact ⟨10, ev_tk_yes ha hown hex (by decide) (by decide) (hts _ pg_WQ13_0) (hts _ pg_C0) hkc, by decide, Or.inr ⟨by decide +kernel, rfl⟩⟩
  cases hm
theorem pg_h141 (e : Env) (s : State) (m : MethodId) (c : Code) (args : Array Value) (ha : l.admits e) (hown : s.vm.findClass pg_y141.1.cls = some m.cls) (hts : ∀ w ∈ pg_TB, w.before args s = true) (hex : c.exceptionTable.toList.map (fun h => (h.startPc, h.endPc, h.handlerPc, h.catchType)) = pg_y141.2.2.2.2.1) : ev_Hd e s m c pg_y141.2.1 pg_y141.2.2.1 [(3, 0, 10, 3)] := by
  intro h hm kc hkc
  rcases List.mem_cons.mp hm with rfl | hm
  · exact ⟨9, ev_tk_yes ha hown hex (by decide) (by decide) (hts _ pg_WQ13_0) (hts _ pg_C0) hkc, by decide, Or.inl ⟨3, rfl, by decide +kernel, rfl⟩⟩
  cases hm
theorem pg_h142 (e : Env) (s : State) (m : MethodId) (c : Code) (args : Array Value) (ha : l.admits e) (hown : s.vm.findClass pg_y142.1.cls = some m.cls) (hts : ∀ w ∈ pg_TB, w.before args s = true) (hex : c.exceptionTable.toList.map (fun h => (h.startPc, h.endPc, h.handlerPc, h.catchType)) = pg_y142.2.2.2.2.1) : ev_Hd e s m c pg_y142.2.1 pg_y142.2.2.1 [(4, 0, 13, 3), (4, 1, 16, 3)] := by
  intro h hm kc hkc
  rcases List.mem_cons.mp hm with rfl | hm
  · exact ⟨12, ev_tk_yes ha hown hex (by decide) (by decide) (hts _ pg_WQ13_0) (hts _ pg_C0) hkc, by decide, Or.inl ⟨3, rfl, by decide +kernel, rfl⟩⟩
  rcases List.mem_cons.mp hm with rfl | hm
  · exact ⟨15, ev_tk_no ha hown hex (by decide) (by decide) (hts _ pg_WQ13_0) (pg_nc_spec (hts pg_nc List.mem_cons_self)) hkc (fun t0 e0 => ev_tk_yes ha hown e0 (by decide) (by decide) (hts _ pg_WQ15_1) (hts _ pg_C1) hkc), by decide, Or.inl ⟨3, rfl, by decide +kernel, rfl⟩⟩
  cases hm
theorem pg_h143 (e : Env) (s : State) (m : MethodId) (c : Code) (args : Array Value) (ha : l.admits e) (hown : s.vm.findClass pg_y143.1.cls = some m.cls) (hts : ∀ w ∈ pg_TB, w.before args s = true) (hex : c.exceptionTable.toList.map (fun h => (h.startPc, h.endPc, h.handlerPc, h.catchType)) = pg_y143.2.2.2.2.1) : ev_Hd e s m c pg_y143.2.1 pg_y143.2.2.1 [(7, 0, 17, 5), (7, 1, 21, 5)] := by
  intro h hm kc hkc
  rcases List.mem_cons.mp hm with rfl | hm
  · exact ⟨15, ev_tk_yes ha hown hex (by decide) (by decide) (hts _ pg_WQ13_0) (hts _ pg_C0) hkc, by decide, Or.inr ⟨by decide +kernel, rfl⟩⟩
  rcases List.mem_cons.mp hm with rfl | hm
  · exact ⟨19, ev_tk_no ha hown hex (by decide) (by decide) (hts _ pg_WQ13_0) (pg_nc_spec (hts pg_nc List.mem_cons_self)) hkc (fun t0 e0 => ev_tk_yes ha hown e0 (by decide) (by decide) (hts _ pg_WQ15_1) (hts _ pg_C1) hkc), by decide, Or.inr ⟨by decide +kernel, rfl⟩⟩
  cases hm
theorem pg_h144 (e : Env) (s : State) (m : MethodId) (c : Code) (args : Array Value) (ha : l.admits e) (hown : s.vm.findClass pg_y144.1.cls = some m.cls) (hts : ∀ w ∈ pg_TB, w.before args s = true) (hex : c.exceptionTable.toList.map (fun h => (h.startPc, h.endPc, h.handlerPc, h.catchType)) = pg_y144.2.2.2.2.1) : ev_Hd e s m c pg_y144.2.1 pg_y144.2.2.1 [(5, 2, 15, 4)] := by
  intro h hm kc hkc
  rcases List.mem_cons.mp hm with rfl | hm
  · exact ⟨13, ev_tk_yes ha hown hex (by decide) (by decide) (hts _ pg_WQ47_2) (hts _ pg_C2) hkc, by decide, Or.inr ⟨by decide +kernel, rfl⟩⟩
  cases hm
theorem pg_e0 : ev_ends pg_y0 pg_t0 = true := by decide +kernel
theorem pg_m0 (ih : ∀ i z, pg_mt i = some z → z.2.2.2.2.2.1 + 1 ≤ pg_y0.2.2.2.2.2.1 → ev_Snd l pg_TB pg_cl pg_lay pg_F pg_mt i) : ev_Snd l pg_TB pg_cl pg_lay pg_F pg_mt 0 :=
  ev_meth (y := pg_y0) rfl (by decide +kernel) pg_w0 pg_tb pg_Cl (ev_tl pg_t0) (ev_ends_ok pg_e0).1 (ev_ends_ok pg_e0).2.1 (ev_ends_ok pg_e0).2.2.1 (ev_nothr_ok (by decide)) (fun _ _ _ _ _ _ _ _ _ h hm => absurd hm List.not_mem_nil) pr_0 ih
theorem pg_e1 : ev_ends pg_y1 pg_t1 = true := by decide +kernel
theorem pg_m1 (ih : ∀ i z, pg_mt i = some z → z.2.2.2.2.2.1 + 1 ≤ pg_y1.2.2.2.2.2.1 → ev_Snd l pg_TB pg_cl pg_lay pg_F pg_mt i) : ev_Snd l pg_TB pg_cl pg_lay pg_F pg_mt 1 :=
  ev_meth (y := pg_y1) rfl (by decide +kernel) pg_w1 pg_tb pg_Cl (ev_tl pg_t1) (ev_ends_ok pg_e1).1 (ev_ends_ok pg_e1).2.1 (ev_ends_ok pg_e1).2.2.1 (ev_nothr_ok (by decide)) (fun _ _ _ _ _ _ _ _ _ h hm => absurd hm List.not_mem_nil) pr_1 ih
theorem pg_e2 : ev_ends pg_y2 pg_t2 = true := by decide +kernel
theorem pg_m2 (ih : ∀ i z, pg_mt i = some z → z.2.2.2.2.2.1 + 1 ≤ pg_y2.2.2.2.2.2.1 → ev_Snd l pg_TB pg_cl pg_lay pg_F pg_mt i) : ev_Snd l pg_TB pg_cl pg_lay pg_F pg_mt 2 :=
  ev_meth (y := pg_y2) rfl (by decide +kernel) pg_w2 pg_tb pg_Cl (ev_tl pg_t2) (ev_ends_ok pg_e2).1 (ev_ends_ok pg_e2).2.1 (ev_ends_ok pg_e2).2.2.1 (ev_nothr_ok (by decide)) (fun _ _ _ _ _ _ _ _ _ h hm => absurd hm List.not_mem_nil) pr_2 ih
theorem pg_e3 : ev_ends pg_y3 pg_t3 = true := by decide +kernel
theorem pg_m3 (ih : ∀ i z, pg_mt i = some z → z.2.2.2.2.2.1 + 1 ≤ pg_y3.2.2.2.2.2.1 → ev_Snd l pg_TB pg_cl pg_lay pg_F pg_mt i) : ev_Snd l pg_TB pg_cl pg_lay pg_F pg_mt 3 :=
  ev_meth (y := pg_y3) rfl (by decide +kernel) pg_w3 pg_tb pg_Cl (ev_tl pg_t3) (ev_ends_ok pg_e3).1 (ev_ends_ok pg_e3).2.1 (ev_ends_ok pg_e3).2.2.1 (ev_nothr_ok (by decide)) (fun _ _ _ _ _ _ _ _ _ h hm => absurd hm List.not_mem_nil) pr_3 ih
theorem pg_e4 : ev_ends pg_y4 pg_t4 = true := by decide +kernel
theorem pg_m4 (ih : ∀ i z, pg_mt i = some z → z.2.2.2.2.2.1 + 1 ≤ pg_y4.2.2.2.2.2.1 → ev_Snd l pg_TB pg_cl pg_lay pg_F pg_mt i) : ev_Snd l pg_TB pg_cl pg_lay pg_F pg_mt 4 :=
  ev_meth (y := pg_y4) rfl (by decide +kernel) pg_w4 pg_tb pg_Cl (ev_tl pg_t4) (ev_ends_ok pg_e4).1 (ev_ends_ok pg_e4).2.1 (ev_ends_ok pg_e4).2.2.1 (ev_nothr_ok (by decide)) (fun _ _ _ _ _ _ _ _ _ h hm => absurd hm List.not_mem_nil) pr_4 ih
theorem pg_e5 : ev_ends pg_y5 pg_t5 = true := by decide +kernel
theorem pg_m5 (ih : ∀ i z, pg_mt i = some z → z.2.2.2.2.2.1 + 1 ≤ pg_y5.2.2.2.2.2.1 → ev_Snd l pg_TB pg_cl pg_lay pg_F pg_mt i) : ev_Snd l pg_TB pg_cl pg_lay pg_F pg_mt 5 :=
  ev_meth (y := pg_y5) rfl (by decide +kernel) pg_w5 pg_tb pg_Cl (ev_tl pg_t5) (ev_ends_ok pg_e5).1 (ev_ends_ok pg_e5).2.1 (ev_ends_ok pg_e5).2.2.1 (ev_nothr_ok (by decide)) (fun _ _ _ _ _ _ _ _ _ h hm => absurd hm List.not_mem_nil) pr_5 ih
theorem pg_e6 : ev_ends pg_y6 pg_t6 = true := by decide +kernel
theorem pg_m6 (ih : ∀ i z, pg_mt i = some z → z.2.2.2.2.2.1 + 1 ≤ pg_y6.2.2.2.2.2.1 → ev_Snd l pg_TB pg_cl pg_lay pg_F pg_mt i) : ev_Snd l pg_TB pg_cl pg_lay pg_F pg_mt 6 :=
  ev_meth (y := pg_y6) rfl (by decide +kernel) pg_w6 pg_tb pg_Cl (ev_tl pg_t6) (ev_ends_ok pg_e6).1 (ev_ends_ok pg_e6).2.1 (ev_ends_ok pg_e6).2.2.1 (ev_nothr_ok (by decide)) (fun _ _ _ _ _ _ _ _ _ h hm => absurd hm List.not_mem_nil) pr_6 ih
theorem pg_e7 : ev_ends pg_y7 pg_t7 = true := by decide +kernel
theorem pg_m7 (ih : ∀ i z, pg_mt i = some z → z.2.2.2.2.2.1 + 1 ≤ pg_y7.2.2.2.2.2.1 → ev_Snd l pg_TB pg_cl pg_lay pg_F pg_mt i) : ev_Snd l pg_TB pg_cl pg_lay pg_F pg_mt 7 :=
  ev_meth (y := pg_y7) rfl (by decide +kernel) pg_w7 pg_tb pg_Cl (ev_tl pg_t7) (ev_ends_ok pg_e7).1 (ev_ends_ok pg_e7).2.1 (ev_ends_ok pg_e7).2.2.1 (ev_nothr_ok (by decide)) (fun _ _ _ _ _ _ _ _ _ h hm => absurd hm List.not_mem_nil) pr_7 ih
theorem pg_e8 : ev_ends pg_y8 pg_t8 = true := by decide +kernel
theorem pg_m8 (ih : ∀ i z, pg_mt i = some z → z.2.2.2.2.2.1 + 1 ≤ pg_y8.2.2.2.2.2.1 → ev_Snd l pg_TB pg_cl pg_lay pg_F pg_mt i) : ev_Snd l pg_TB pg_cl pg_lay pg_F pg_mt 8 :=
  ev_meth (y := pg_y8) rfl (by decide +kernel) pg_w8 pg_tb pg_Cl (ev_tl pg_t8) (ev_ends_ok pg_e8).1 (ev_ends_ok pg_e8).2.1 (ev_ends_ok pg_e8).2.2.1 (ev_nothr_ok (by decide)) (fun _ _ _ _ _ _ _ _ _ h hm => absurd hm List.not_mem_nil) pr_8 ih
theorem pg_e9 : ev_ends pg_y9 pg_t9 = true := by decide +kernel
theorem pg_m9 (ih : ∀ i z, pg_mt i = some z → z.2.2.2.2.2.1 + 1 ≤ pg_y9.2.2.2.2.2.1 → ev_Snd l pg_TB pg_cl pg_lay pg_F pg_mt i) : ev_Snd l pg_TB pg_cl pg_lay pg_F pg_mt 9 :=
  ev_meth (y := pg_y9) rfl (by decide +kernel) pg_w9 pg_tb pg_Cl (ev_tl pg_t9) (ev_ends_ok pg_e9).1 (ev_ends_ok pg_e9).2.1 (ev_ends_ok pg_e9).2.2.1 (ev_nothr_ok (by decide)) (fun _ _ _ _ _ _ _ _ _ h hm => absurd hm List.not_mem_nil) pr_9 ih
theorem pg_e10 : ev_ends pg_y10 pg_t10 = true := by decide +kernel
theorem pg_m10 (ih : ∀ i z, pg_mt i = some z → z.2.2.2.2.2.1 + 1 ≤ pg_y10.2.2.2.2.2.1 → ev_Snd l pg_TB pg_cl pg_lay pg_F pg_mt i) : ev_Snd l pg_TB pg_cl pg_lay pg_F pg_mt 10 :=
  ev_meth (y := pg_y10) rfl (by decide +kernel) pg_w10 pg_tb pg_Cl (ev_tl pg_t10) (ev_ends_ok pg_e10).1 (ev_ends_ok pg_e10).2.1 (ev_ends_ok pg_e10).2.2.1 (ev_nothr_ok (by decide)) (fun _ _ _ _ _ _ _ _ _ h hm => absurd hm List.not_mem_nil) pr_10 ih
theorem pg_e11 : ev_ends pg_y11 pg_t11 = true := by decide +kernel
theorem pg_m11 (ih : ∀ i z, pg_mt i = some z → z.2.2.2.2.2.1 + 1 ≤ pg_y11.2.2.2.2.2.1 → ev_Snd l pg_TB pg_cl pg_lay pg_F pg_mt i) : ev_Snd l pg_TB pg_cl pg_lay pg_F pg_mt 11 :=
  ev_meth (y := pg_y11) rfl (by decide +kernel) pg_w11 pg_tb pg_Cl (ev_tl pg_t11) (ev_ends_ok pg_e11).1 (ev_ends_ok pg_e11).2.1 (ev_ends_ok pg_e11).2.2.1 (ev_nothr_ok (by decide)) (fun _ _ _ _ _ _ _ _ _ h hm => absurd hm List.not_mem_nil) pr_11 ih
theorem pg_e12 : ev_ends pg_y12 pg_t12 = true := by decide +kernel
theorem pg_m12 (ih : ∀ i z, pg_mt i = some z → z.2.2.2.2.2.1 + 1 ≤ pg_y12.2.2.2.2.2.1 → ev_Snd l pg_TB pg_cl pg_lay pg_F pg_mt i) : ev_Snd l pg_TB pg_cl pg_lay pg_F pg_mt 12 :=
  ev_meth (y := pg_y12) rfl (by decide +kernel) pg_w12 pg_tb pg_Cl (ev_tl pg_t12) (ev_ends_ok pg_e12).1 (ev_ends_ok pg_e12).2.1 (ev_ends_ok pg_e12).2.2.1 (ev_nothr_ok (by decide)) (fun _ _ _ _ _ _ _ _ _ h hm => absurd hm List.not_mem_nil) pr_12 ih
theorem pg_e13 : ev_ends pg_y13 pg_t13 = true := by decide +kernel
theorem pg_m13 (ih : ∀ i z, pg_mt i = some z → z.2.2.2.2.2.1 + 1 ≤ pg_y13.2.2.2.2.2.1 → ev_Snd l pg_TB pg_cl pg_lay pg_F pg_mt i) : ev_Snd l pg_TB pg_cl pg_lay pg_F pg_mt 13 :=
  ev_meth (y := pg_y13) rfl (by decide +kernel) pg_w13 pg_tb pg_Cl (ev_tl pg_t13) (ev_ends_ok pg_e13).1 (ev_ends_ok pg_e13).2.1 (ev_ends_ok pg_e13).2.2.1 (ev_nothr_ok (by decide)) (fun _ _ _ _ _ _ _ _ _ h hm => absurd hm List.not_mem_nil) pr_13 ih
theorem pg_e14 : ev_ends pg_y14 pg_t14 = true := by decide +kernel
theorem pg_m14 (ih : ∀ i z, pg_mt i = some z → z.2.2.2.2.2.1 + 1 ≤ pg_y14.2.2.2.2.2.1 → ev_Snd l pg_TB pg_cl pg_lay pg_F pg_mt i) : ev_Snd l pg_TB pg_cl pg_lay pg_F pg_mt 14 :=
  ev_meth (y := pg_y14) rfl (by decide +kernel) pg_w14 pg_tb pg_Cl (ev_tl pg_t14) (ev_ends_ok pg_e14).1 (ev_ends_ok pg_e14).2.1 (ev_ends_ok pg_e14).2.2.1 (ev_nothr_ok (by decide)) (fun _ _ _ _ _ _ _ _ _ h hm => absurd hm List.not_mem_nil) pr_14 ih
theorem pg_e15 : ev_ends pg_y15 pg_t15 = true := by decide +kernel
theorem pg_m15 (ih : ∀ i z, pg_mt i = some z → z.2.2.2.2.2.1 + 1 ≤ pg_y15.2.2.2.2.2.1 → ev_Snd l pg_TB pg_cl pg_lay pg_F pg_mt i) : ev_Snd l pg_TB pg_cl pg_lay pg_F pg_mt 15 :=
  ev_meth (y := pg_y15) rfl (by decide +kernel) pg_w15 pg_tb pg_Cl (ev_tl pg_t15) (ev_ends_ok pg_e15).1 (ev_ends_ok pg_e15).2.1 (ev_ends_ok pg_e15).2.2.1 (ev_nothr_ok (by decide)) (fun _ _ _ _ _ _ _ _ _ h hm => absurd hm List.not_mem_nil) pr_15 ih
theorem pg_e16 : ev_ends pg_y16 pg_t16 = true := by decide +kernel
theorem pg_m16 (ih : ∀ i z, pg_mt i = some z → z.2.2.2.2.2.1 + 1 ≤ pg_y16.2.2.2.2.2.1 → ev_Snd l pg_TB pg_cl pg_lay pg_F pg_mt i) : ev_Snd l pg_TB pg_cl pg_lay pg_F pg_mt 16 :=
  ev_meth (y := pg_y16) rfl (by decide +kernel) pg_w16 pg_tb pg_Cl (ev_tl pg_t16) (ev_ends_ok pg_e16).1 (ev_ends_ok pg_e16).2.1 (ev_ends_ok pg_e16).2.2.1 (ev_nothr_ok (by decide)) (fun _ _ _ _ _ _ _ _ _ h hm => absurd hm List.not_mem_nil) pr_16 ih
theorem pg_e17 : ev_ends pg_y17 pg_t17 = true := by decide +kernel
theorem pg_m17 (ih : ∀ i z, pg_mt i = some z → z.2.2.2.2.2.1 + 1 ≤ pg_y17.2.2.2.2.2.1 → ev_Snd l pg_TB pg_cl pg_lay pg_F pg_mt i) : ev_Snd l pg_TB pg_cl pg_lay pg_F pg_mt 17 :=
  ev_meth (y := pg_y17) rfl (by decide +kernel) pg_w17 pg_tb pg_Cl (ev_tl pg_t17) (ev_ends_ok pg_e17).1 (ev_ends_ok pg_e17).2.1 (ev_ends_ok pg_e17).2.2.1 (ev_nothr_ok (by decide)) (fun _ _ _ _ _ _ _ _ _ h hm => absurd hm List.not_mem_nil) pr_17 ih
theorem pg_e18 : ev_ends pg_y18 pg_t18 = true := by decide +kernel
theorem pg_m18 (ih : ∀ i z, pg_mt i = some z → z.2.2.2.2.2.1 + 1 ≤ pg_y18.2.2.2.2.2.1 → ev_Snd l pg_TB pg_cl pg_lay pg_F pg_mt i) : ev_Snd l pg_TB pg_cl pg_lay pg_F pg_mt 18 :=
  ev_meth (y := pg_y18) rfl (by decide +kernel) pg_w18 pg_tb pg_Cl (ev_tl pg_t18) (ev_ends_ok pg_e18).1 (ev_ends_ok pg_e18).2.1 (ev_ends_ok pg_e18).2.2.1 (ev_nothr_ok (by decide)) (fun _ _ _ _ _ _ _ _ _ h hm => absurd hm List.not_mem_nil) pr_18 ih
theorem pg_e19 : ev_ends pg_y19 pg_t19 = true := by decide +kernel
theorem pg_m19 (ih : ∀ i z, pg_mt i = some z → z.2.2.2.2.2.1 + 1 ≤ pg_y19.2.2.2.2.2.1 → ev_Snd l pg_TB pg_cl pg_lay pg_F pg_mt i) : ev_Snd l pg_TB pg_cl pg_lay pg_F pg_mt 19 :=
  ev_meth (y := pg_y19) rfl (by decide +kernel) pg_w19 pg_tb pg_Cl (ev_tl pg_t19) (ev_ends_ok pg_e19).1 (ev_ends_ok pg_e19).2.1 (ev_ends_ok pg_e19).2.2.1 (ev_nothr_ok (by decide)) (fun _ _ _ _ _ _ _ _ _ h hm => absurd hm List.not_mem_nil) pr_19 ih
theorem pg_e20 : ev_ends pg_y20 pg_t20 = true := by decide +kernel
theorem pg_m20 (ih : ∀ i z, pg_mt i = some z → z.2.2.2.2.2.1 + 1 ≤ pg_y20.2.2.2.2.2.1 → ev_Snd l pg_TB pg_cl pg_lay pg_F pg_mt i) : ev_Snd l pg_TB pg_cl pg_lay pg_F pg_mt 20 :=
  ev_meth (y := pg_y20) rfl (by decide +kernel) pg_w20 pg_tb pg_Cl (ev_tl pg_t20) (ev_ends_ok pg_e20).1 (ev_ends_ok pg_e20).2.1 (ev_ends_ok pg_e20).2.2.1 (ev_nothr_ok (by decide)) (fun _ _ _ _ _ _ _ _ _ h hm => absurd hm List.not_mem_nil) pr_20 ih
theorem pg_e21 : ev_ends pg_y21 pg_t21 = true := by decide +kernel
theorem pg_m21 (ih : ∀ i z, pg_mt i = some z → z.2.2.2.2.2.1 + 1 ≤ pg_y21.2.2.2.2.2.1 → ev_Snd l pg_TB pg_cl pg_lay pg_F pg_mt i) : ev_Snd l pg_TB pg_cl pg_lay pg_F pg_mt 21 :=
  ev_meth (y := pg_y21) rfl (by decide +kernel) pg_w21 pg_tb pg_Cl (ev_tl pg_t21) (ev_ends_ok pg_e21).1 (ev_ends_ok pg_e21).2.1 (ev_ends_ok pg_e21).2.2.1 (ev_nothr_ok (by decide)) (fun _ _ _ _ _ _ _ _ _ h hm => absurd hm List.not_mem_nil) pr_21 ih
theorem pg_e22 : ev_ends pg_y22 pg_t22 = true := by decide +kernel
theorem pg_m22 (ih : ∀ i z, pg_mt i = some z → z.2.2.2.2.2.1 + 1 ≤ pg_y22.2.2.2.2.2.1 → ev_Snd l pg_TB pg_cl pg_lay pg_F pg_mt i) : ev_Snd l pg_TB pg_cl pg_lay pg_F pg_mt 22 :=
  ev_meth (y := pg_y22) rfl (by decide +kernel) pg_w22 pg_tb pg_Cl (ev_tl pg_t22) (ev_ends_ok pg_e22).1 (ev_ends_ok pg_e22).2.1 (ev_ends_ok pg_e22).2.2.1 (ev_nothr_ok (by decide)) (fun _ _ _ _ _ _ _ _ _ h hm => absurd hm List.not_mem_nil) pr_22 ih
theorem pg_e23 : ev_ends pg_y23 pg_t23 = true := by decide +kernel
theorem pg_m23 (ih : ∀ i z, pg_mt i = some z → z.2.2.2.2.2.1 + 1 ≤ pg_y23.2.2.2.2.2.1 → ev_Snd l pg_TB pg_cl pg_lay pg_F pg_mt i) : ev_Snd l pg_TB pg_cl pg_lay pg_F pg_mt 23 :=
  ev_meth (y := pg_y23) rfl (by decide +kernel) pg_w23 pg_tb pg_Cl (ev_tl pg_t23) (ev_ends_ok pg_e23).1 (ev_ends_ok pg_e23).2.1 (ev_ends_ok pg_e23).2.2.1 (ev_nothr_ok (by decide)) (fun _ _ _ _ _ _ _ _ _ h hm => absurd hm List.not_mem_nil) pr_23 ih
theorem pg_e24 : ev_ends pg_y24 pg_t24 = true := by decide +kernel
theorem pg_m24 (ih : ∀ i z, pg_mt i = some z → z.2.2.2.2.2.1 + 1 ≤ pg_y24.2.2.2.2.2.1 → ev_Snd l pg_TB pg_cl pg_lay pg_F pg_mt i) : ev_Snd l pg_TB pg_cl pg_lay pg_F pg_mt 24 :=
  ev_meth (y := pg_y24) rfl (by decide +kernel) pg_w24 pg_tb pg_Cl (ev_tl pg_t24) (ev_ends_ok pg_e24).1 (ev_ends_ok pg_e24).2.1 (ev_ends_ok pg_e24).2.2.1 (ev_nothr_ok (by decide)) (fun _ _ _ _ _ _ _ _ _ h hm => absurd hm List.not_mem_nil) pr_24 ih
theorem pg_e25 : ev_ends pg_y25 pg_t25 = true := by decide +kernel
theorem pg_m25 (ih : ∀ i z, pg_mt i = some z → z.2.2.2.2.2.1 + 1 ≤ pg_y25.2.2.2.2.2.1 → ev_Snd l pg_TB pg_cl pg_lay pg_F pg_mt i) : ev_Snd l pg_TB pg_cl pg_lay pg_F pg_mt 25 :=
  ev_meth (y := pg_y25) rfl (by decide +kernel) pg_w25 pg_tb pg_Cl (ev_tl pg_t25) (ev_ends_ok pg_e25).1 (ev_ends_ok pg_e25).2.1 (ev_ends_ok pg_e25).2.2.1 (ev_nothr_ok (by decide)) (fun _ _ _ _ _ _ _ _ _ h hm => absurd hm List.not_mem_nil) pr_25 ih
theorem pg_e26 : ev_ends pg_y26 pg_t26 = true := by decide +kernel
theorem pg_m26 (ih : ∀ i z, pg_mt i = some z → z.2.2.2.2.2.1 + 1 ≤ pg_y26.2.2.2.2.2.1 → ev_Snd l pg_TB pg_cl pg_lay pg_F pg_mt i) : ev_Snd l pg_TB pg_cl pg_lay pg_F pg_mt 26 :=
  ev_meth (y := pg_y26) rfl (by decide +kernel) pg_w26 pg_tb pg_Cl (ev_tl pg_t26) (ev_ends_ok pg_e26).1 (ev_ends_ok pg_e26).2.1 (ev_ends_ok pg_e26).2.2.1 (ev_nothr_ok (by decide)) (fun _ _ _ _ _ _ _ _ _ h hm => absurd hm List.not_mem_nil) pr_26 ih
theorem pg_e27 : ev_ends pg_y27 pg_t27 = true := by decide +kernel
theorem pg_m27 (ih : ∀ i z, pg_mt i = some z → z.2.2.2.2.2.1 + 1 ≤ pg_y27.2.2.2.2.2.1 → ev_Snd l pg_TB pg_cl pg_lay pg_F pg_mt i) : ev_Snd l pg_TB pg_cl pg_lay pg_F pg_mt 27 :=
  ev_meth (y := pg_y27) rfl (by decide +kernel) pg_w27 pg_tb pg_Cl (ev_tl pg_t27) (ev_ends_ok pg_e27).1 (ev_ends_ok pg_e27).2.1 (ev_ends_ok pg_e27).2.2.1 (ev_nothr_ok (by decide)) (fun _ _ _ _ _ _ _ _ _ h hm => absurd hm List.not_mem_nil) pr_27 ih
theorem pg_e28 : ev_ends pg_y28 pg_t28 = true := by decide +kernel
theorem pg_m28 (ih : ∀ i z, pg_mt i = some z → z.2.2.2.2.2.1 + 1 ≤ pg_y28.2.2.2.2.2.1 → ev_Snd l pg_TB pg_cl pg_lay pg_F pg_mt i) : ev_Snd l pg_TB pg_cl pg_lay pg_F pg_mt 28 :=
  ev_meth (y := pg_y28) rfl (by decide +kernel) pg_w28 pg_tb pg_Cl (ev_tl pg_t28) (ev_ends_ok pg_e28).1 (ev_ends_ok pg_e28).2.1 (ev_ends_ok pg_e28).2.2.1 (ev_nothr_ok (by decide)) (fun _ _ _ _ _ _ _ _ _ h hm => absurd hm List.not_mem_nil) pr_28 ih
theorem pg_e29 : ev_ends pg_y29 pg_t29 = true := by decide +kernel
theorem pg_m29 (ih : ∀ i z, pg_mt i = some z → z.2.2.2.2.2.1 + 1 ≤ pg_y29.2.2.2.2.2.1 → ev_Snd l pg_TB pg_cl pg_lay pg_F pg_mt i) : ev_Snd l pg_TB pg_cl pg_lay pg_F pg_mt 29 :=
  ev_meth (y := pg_y29) rfl (by decide +kernel) pg_w29 pg_tb pg_Cl (ev_tl pg_t29) (ev_ends_ok pg_e29).1 (ev_ends_ok pg_e29).2.1 (ev_ends_ok pg_e29).2.2.1 (ev_nothr_ok (by decide)) (fun _ _ _ _ _ _ _ _ _ h hm => absurd hm List.not_mem_nil) pr_29 ih
theorem pg_e30 : ev_ends pg_y30 pg_t30 = true := by decide +kernel
theorem pg_m30 (ih : ∀ i z, pg_mt i = some z → z.2.2.2.2.2.1 + 1 ≤ pg_y30.2.2.2.2.2.1 → ev_Snd l pg_TB pg_cl pg_lay pg_F pg_mt i) : ev_Snd l pg_TB pg_cl pg_lay pg_F pg_mt 30 :=
  ev_meth (y := pg_y30) rfl (by decide +kernel) pg_w30 pg_tb pg_Cl (ev_tl pg_t30) (ev_ends_ok pg_e30).1 (ev_ends_ok pg_e30).2.1 (ev_ends_ok pg_e30).2.2.1 (ev_nothr_ok (by decide)) (fun _ _ _ _ _ _ _ _ _ h hm => absurd hm List.not_mem_nil) pr_30 ih
theorem pg_e31 : ev_ends pg_y31 pg_t31 = true := by decide +kernel
theorem pg_m31 (ih : ∀ i z, pg_mt i = some z → z.2.2.2.2.2.1 + 1 ≤ pg_y31.2.2.2.2.2.1 → ev_Snd l pg_TB pg_cl pg_lay pg_F pg_mt i) : ev_Snd l pg_TB pg_cl pg_lay pg_F pg_mt 31 :=
  ev_meth (y := pg_y31) rfl (by decide +kernel) pg_w31 pg_tb pg_Cl (ev_tl pg_t31) (ev_ends_ok pg_e31).1 (ev_ends_ok pg_e31).2.1 (ev_ends_ok pg_e31).2.2.1 (ev_nothr_ok (by decide)) (fun _ _ _ _ _ _ _ _ _ h hm => absurd hm List.not_mem_nil) pr_31 ih
theorem pg_e32 : ev_ends pg_y32 pg_t32 = true := by decide +kernel
theorem pg_m32 (ih : ∀ i z, pg_mt i = some z → z.2.2.2.2.2.1 + 1 ≤ pg_y32.2.2.2.2.2.1 → ev_Snd l pg_TB pg_cl pg_lay pg_F pg_mt i) : ev_Snd l pg_TB pg_cl pg_lay pg_F pg_mt 32 :=
  ev_meth (y := pg_y32) rfl (by decide +kernel) pg_w32 pg_tb pg_Cl (ev_tl pg_t32) (ev_ends_ok pg_e32).1 (ev_ends_ok pg_e32).2.1 (ev_ends_ok pg_e32).2.2.1 (ev_nothr_ok (by decide)) (fun _ _ _ _ _ _ _ _ _ h hm => absurd hm List.not_mem_nil) pr_32 ih
theorem pg_e33 : ev_ends pg_y33 pg_t33 = true := by decide +kernel
theorem pg_m33 (ih : ∀ i z, pg_mt i = some z → z.2.2.2.2.2.1 + 1 ≤ pg_y33.2.2.2.2.2.1 → ev_Snd l pg_TB pg_cl pg_lay pg_F pg_mt i) : ev_Snd l pg_TB pg_cl pg_lay pg_F pg_mt 33 :=
  ev_meth (y := pg_y33) rfl (by decide +kernel) pg_w33 pg_tb pg_Cl (ev_tl pg_t33) (ev_ends_ok pg_e33).1 (ev_ends_ok pg_e33).2.1 (ev_ends_ok pg_e33).2.2.1 (ev_nothr_ok (by decide)) (fun _ _ _ _ _ _ _ _ _ h hm => absurd hm List.not_mem_nil) pr_33 ih
theorem pg_e34 : ev_ends pg_y34 pg_t34 = true := by decide +kernel
theorem pg_m34 (ih : ∀ i z, pg_mt i = some z → z.2.2.2.2.2.1 + 1 ≤ pg_y34.2.2.2.2.2.1 → ev_Snd l pg_TB pg_cl pg_lay pg_F pg_mt i) : ev_Snd l pg_TB pg_cl pg_lay pg_F pg_mt 34 :=
  ev_meth (y := pg_y34) rfl (by decide +kernel) pg_w34 pg_tb pg_Cl (ev_tl pg_t34) (ev_ends_ok pg_e34).1 (ev_ends_ok pg_e34).2.1 (ev_ends_ok pg_e34).2.2.1 (ev_nothr_ok (by decide)) (fun _ _ _ _ _ _ _ _ _ h hm => absurd hm List.not_mem_nil) pr_34 ih
theorem pg_e35 : ev_ends pg_y35 pg_t35 = true := by decide +kernel
theorem pg_m35 (ih : ∀ i z, pg_mt i = some z → z.2.2.2.2.2.1 + 1 ≤ pg_y35.2.2.2.2.2.1 → ev_Snd l pg_TB pg_cl pg_lay pg_F pg_mt i) : ev_Snd l pg_TB pg_cl pg_lay pg_F pg_mt 35 :=
  ev_meth (y := pg_y35) rfl (by decide +kernel) pg_w35 pg_tb pg_Cl (ev_tl pg_t35) (ev_ends_ok pg_e35).1 (ev_ends_ok pg_e35).2.1 (ev_ends_ok pg_e35).2.2.1 (ev_nothr_ok (by decide)) (fun _ _ _ _ _ _ _ _ _ h hm => absurd hm List.not_mem_nil) pr_35 ih
theorem pg_e36 : ev_ends pg_y36 pg_t36 = true := by decide +kernel
theorem pg_m36 (ih : ∀ i z, pg_mt i = some z → z.2.2.2.2.2.1 + 1 ≤ pg_y36.2.2.2.2.2.1 → ev_Snd l pg_TB pg_cl pg_lay pg_F pg_mt i) : ev_Snd l pg_TB pg_cl pg_lay pg_F pg_mt 36 :=
  ev_meth (y := pg_y36) rfl (by decide +kernel) pg_w36 pg_tb pg_Cl (ev_tl pg_t36) (ev_ends_ok pg_e36).1 (ev_ends_ok pg_e36).2.1 (ev_ends_ok pg_e36).2.2.1 (ev_nothr_ok (by decide)) (fun _ _ _ _ _ _ _ _ _ h hm => absurd hm List.not_mem_nil) pr_36 ih
theorem pg_e37 : ev_ends pg_y37 pg_t37 = true := by decide +kernel
theorem pg_m37 (ih : ∀ i z, pg_mt i = some z → z.2.2.2.2.2.1 + 1 ≤ pg_y37.2.2.2.2.2.1 → ev_Snd l pg_TB pg_cl pg_lay pg_F pg_mt i) : ev_Snd l pg_TB pg_cl pg_lay pg_F pg_mt 37 :=
  ev_meth (y := pg_y37) rfl (by decide +kernel) pg_w37 pg_tb pg_Cl (ev_tl pg_t37) (ev_ends_ok pg_e37).1 (ev_ends_ok pg_e37).2.1 (ev_ends_ok pg_e37).2.2.1 (ev_nothr_ok (by decide)) (fun _ _ _ _ _ _ _ _ _ h hm => absurd hm List.not_mem_nil) pr_37 ih
theorem pg_e38 : ev_ends pg_y38 pg_t38 = true := by decide +kernel
theorem pg_m38 (ih : ∀ i z, pg_mt i = some z → z.2.2.2.2.2.1 + 1 ≤ pg_y38.2.2.2.2.2.1 → ev_Snd l pg_TB pg_cl pg_lay pg_F pg_mt i) : ev_Snd l pg_TB pg_cl pg_lay pg_F pg_mt 38 :=
  ev_meth (y := pg_y38) rfl (by decide +kernel) pg_w38 pg_tb pg_Cl (ev_tl pg_t38) (ev_ends_ok pg_e38).1 (ev_ends_ok pg_e38).2.1 (ev_ends_ok pg_e38).2.2.1 (ev_nothr_ok (by decide)) (fun _ _ _ _ _ _ _ _ _ h hm => absurd hm List.not_mem_nil) pr_38 ih
theorem pg_e39 : ev_ends pg_y39 pg_t39 = true := by decide +kernel
theorem pg_m39 (ih : ∀ i z, pg_mt i = some z → z.2.2.2.2.2.1 + 1 ≤ pg_y39.2.2.2.2.2.1 → ev_Snd l pg_TB pg_cl pg_lay pg_F pg_mt i) : ev_Snd l pg_TB pg_cl pg_lay pg_F pg_mt 39 :=
  ev_meth (y := pg_y39) rfl (by decide +kernel) pg_w39 pg_tb pg_Cl (ev_tl pg_t39) (ev_ends_ok pg_e39).1 (ev_ends_ok pg_e39).2.1 (ev_ends_ok pg_e39).2.2.1 (ev_nothr_ok (by decide)) (fun _ _ _ _ _ _ _ _ _ h hm => absurd hm List.not_mem_nil) pr_39 ih
theorem pg_e40 : ev_ends pg_y40 pg_t40 = true := by decide +kernel
theorem pg_m40 (ih : ∀ i z, pg_mt i = some z → z.2.2.2.2.2.1 + 1 ≤ pg_y40.2.2.2.2.2.1 → ev_Snd l pg_TB pg_cl pg_lay pg_F pg_mt i) : ev_Snd l pg_TB pg_cl pg_lay pg_F pg_mt 40 :=
  ev_meth (y := pg_y40) rfl (by decide +kernel) pg_w40 pg_tb pg_Cl (ev_tl pg_t40) (ev_ends_ok pg_e40).1 (ev_ends_ok pg_e40).2.1 (ev_ends_ok pg_e40).2.2.1 (ev_nothr_ok (by decide)) (fun _ _ _ _ _ _ _ _ _ h hm => absurd hm List.not_mem_nil) pr_40 ih
theorem pg_e41 : ev_ends pg_y41 pg_t41 = true := by decide +kernel
theorem pg_m41 (ih : ∀ i z, pg_mt i = some z → z.2.2.2.2.2.1 + 1 ≤ pg_y41.2.2.2.2.2.1 → ev_Snd l pg_TB pg_cl pg_lay pg_F pg_mt i) : ev_Snd l pg_TB pg_cl pg_lay pg_F pg_mt 41 :=
  ev_meth (y := pg_y41) rfl (by decide +kernel) pg_w41 pg_tb pg_Cl (ev_tl pg_t41) (ev_ends_ok pg_e41).1 (ev_ends_ok pg_e41).2.1 (ev_ends_ok pg_e41).2.2.1 (ev_nothr_ok (by decide)) (fun _ _ _ _ _ _ _ _ _ h hm => absurd hm List.not_mem_nil) pr_41 ih
theorem pg_e42 : ev_ends pg_y42 pg_t42 = true := by decide +kernel
theorem pg_m42 (ih : ∀ i z, pg_mt i = some z → z.2.2.2.2.2.1 + 1 ≤ pg_y42.2.2.2.2.2.1 → ev_Snd l pg_TB pg_cl pg_lay pg_F pg_mt i) : ev_Snd l pg_TB pg_cl pg_lay pg_F pg_mt 42 :=
  ev_meth (y := pg_y42) rfl (by decide +kernel) pg_w42 pg_tb pg_Cl (ev_tl pg_t42) (ev_ends_ok pg_e42).1 (ev_ends_ok pg_e42).2.1 (ev_ends_ok pg_e42).2.2.1 (ev_nothr_ok (by decide)) (fun _ _ _ _ _ _ _ _ _ h hm => absurd hm List.not_mem_nil) pr_42 ih
theorem pg_e43 : ev_ends pg_y43 pg_t43 = true := by decide +kernel
theorem pg_m43 (ih : ∀ i z, pg_mt i = some z → z.2.2.2.2.2.1 + 1 ≤ pg_y43.2.2.2.2.2.1 → ev_Snd l pg_TB pg_cl pg_lay pg_F pg_mt i) : ev_Snd l pg_TB pg_cl pg_lay pg_F pg_mt 43 :=
  ev_meth (y := pg_y43) rfl (by decide +kernel) pg_w43 pg_tb pg_Cl (ev_tl pg_t43) (ev_ends_ok pg_e43).1 (ev_ends_ok pg_e43).2.1 (ev_ends_ok pg_e43).2.2.1 (ev_nothr_ok (by decide)) (fun _ _ _ _ _ _ _ _ _ h hm => absurd hm List.not_mem_nil) pr_43 ih
theorem pg_e44 : ev_ends pg_y44 pg_t44 = true := by decide +kernel
theorem pg_m44 (ih : ∀ i z, pg_mt i = some z → z.2.2.2.2.2.1 + 1 ≤ pg_y44.2.2.2.2.2.1 → ev_Snd l pg_TB pg_cl pg_lay pg_F pg_mt i) : ev_Snd l pg_TB pg_cl pg_lay pg_F pg_mt 44 :=
  ev_meth (y := pg_y44) rfl (by decide +kernel) pg_w44 pg_tb pg_Cl (ev_tl pg_t44) (ev_ends_ok pg_e44).1 (ev_ends_ok pg_e44).2.1 (ev_ends_ok pg_e44).2.2.1 (ev_nothr_ok (by decide)) (fun _ _ _ _ _ _ _ _ _ h hm => absurd hm List.not_mem_nil) pr_44 ih
theorem pg_e45 : ev_ends pg_y45 pg_t45 = true := by decide +kernel
theorem pg_m45 (ih : ∀ i z, pg_mt i = some z → z.2.2.2.2.2.1 + 1 ≤ pg_y45.2.2.2.2.2.1 → ev_Snd l pg_TB pg_cl pg_lay pg_F pg_mt i) : ev_Snd l pg_TB pg_cl pg_lay pg_F pg_mt 45 :=
  ev_meth (y := pg_y45) rfl (by decide +kernel) pg_w45 pg_tb pg_Cl (ev_tl pg_t45) (ev_ends_ok pg_e45).1 (ev_ends_ok pg_e45).2.1 (ev_ends_ok pg_e45).2.2.1 (ev_nothr_ok (by decide)) (fun _ _ _ _ _ _ _ _ _ h hm => absurd hm List.not_mem_nil) pr_45 ih
theorem pg_e46 : ev_ends pg_y46 pg_t46 = true := by decide +kernel
theorem pg_m46 (ih : ∀ i z, pg_mt i = some z → z.2.2.2.2.2.1 + 1 ≤ pg_y46.2.2.2.2.2.1 → ev_Snd l pg_TB pg_cl pg_lay pg_F pg_mt i) : ev_Snd l pg_TB pg_cl pg_lay pg_F pg_mt 46 :=
  ev_meth (y := pg_y46) rfl (by decide +kernel) pg_w46 pg_tb pg_Cl (ev_tl pg_t46) (ev_ends_ok pg_e46).1 (ev_ends_ok pg_e46).2.1 (ev_ends_ok pg_e46).2.2.1 (ev_nothr_ok (by decide)) (fun _ _ _ _ _ _ _ _ _ h hm => absurd hm List.not_mem_nil) pr_46 ih
theorem pg_e47 : ev_ends pg_y47 pg_t47 = true := by decide +kernel
theorem pg_m47 (ih : ∀ i z, pg_mt i = some z → z.2.2.2.2.2.1 + 1 ≤ pg_y47.2.2.2.2.2.1 → ev_Snd l pg_TB pg_cl pg_lay pg_F pg_mt i) : ev_Snd l pg_TB pg_cl pg_lay pg_F pg_mt 47 :=
  ev_meth (y := pg_y47) rfl (by decide +kernel) pg_w47 pg_tb pg_Cl (ev_tl pg_t47) (ev_ends_ok pg_e47).1 (ev_ends_ok pg_e47).2.1 (ev_ends_ok pg_e47).2.2.1 (ev_nothr_ok (by decide)) (fun _ _ _ _ _ _ _ _ _ h hm => absurd hm List.not_mem_nil) pr_47 ih
theorem pg_e48 : ev_ends pg_y48 pg_t48 = true := by decide +kernel
theorem pg_m48 (ih : ∀ i z, pg_mt i = some z → z.2.2.2.2.2.1 + 1 ≤ pg_y48.2.2.2.2.2.1 → ev_Snd l pg_TB pg_cl pg_lay pg_F pg_mt i) : ev_Snd l pg_TB pg_cl pg_lay pg_F pg_mt 48 :=
  ev_meth (y := pg_y48) rfl (by decide +kernel) pg_w48 pg_tb pg_Cl (ev_tl pg_t48) (ev_ends_ok pg_e48).1 (ev_ends_ok pg_e48).2.1 (ev_ends_ok pg_e48).2.2.1 (ev_nothr_ok (by decide)) (fun _ _ _ _ _ _ _ _ _ h hm => absurd hm List.not_mem_nil) pr_48 ih
theorem pg_e49 : ev_ends pg_y49 pg_t49 = true := by decide +kernel
theorem pg_m49 (ih : ∀ i z, pg_mt i = some z → z.2.2.2.2.2.1 + 1 ≤ pg_y49.2.2.2.2.2.1 → ev_Snd l pg_TB pg_cl pg_lay pg_F pg_mt i) : ev_Snd l pg_TB pg_cl pg_lay pg_F pg_mt 49 :=
  ev_meth (y := pg_y49) rfl (by decide +kernel) pg_w49 pg_tb pg_Cl (ev_tl pg_t49) (ev_ends_ok pg_e49).1 (ev_ends_ok pg_e49).2.1 (ev_ends_ok pg_e49).2.2.1 (ev_nothr_ok (by decide)) (fun _ _ _ _ _ _ _ _ _ h hm => absurd hm List.not_mem_nil) pr_49 ih
theorem pg_e50 : ev_ends pg_y50 pg_t50 = true := by decide +kernel
theorem pg_m50 (ih : ∀ i z, pg_mt i = some z → z.2.2.2.2.2.1 + 1 ≤ pg_y50.2.2.2.2.2.1 → ev_Snd l pg_TB pg_cl pg_lay pg_F pg_mt i) : ev_Snd l pg_TB pg_cl pg_lay pg_F pg_mt 50 :=
  ev_meth (y := pg_y50) rfl (by decide +kernel) pg_w50 pg_tb pg_Cl (ev_tl pg_t50) (ev_ends_ok pg_e50).1 (ev_ends_ok pg_e50).2.1 (ev_ends_ok pg_e50).2.2.1 (ev_nothr_ok (by decide)) (fun _ _ _ _ _ _ _ _ _ h hm => absurd hm List.not_mem_nil) pr_50 ih
theorem pg_e51 : ev_ends pg_y51 pg_t51 = true := by decide +kernel
theorem pg_m51 (ih : ∀ i z, pg_mt i = some z → z.2.2.2.2.2.1 + 1 ≤ pg_y51.2.2.2.2.2.1 → ev_Snd l pg_TB pg_cl pg_lay pg_F pg_mt i) : ev_Snd l pg_TB pg_cl pg_lay pg_F pg_mt 51 :=
  ev_meth (y := pg_y51) rfl (by decide +kernel) pg_w51 pg_tb pg_Cl (ev_tl pg_t51) (ev_ends_ok pg_e51).1 (ev_ends_ok pg_e51).2.1 (ev_ends_ok pg_e51).2.2.1 (ev_nothr_ok (by decide)) (fun _ _ _ _ _ _ _ _ _ h hm => absurd hm List.not_mem_nil) pr_51 ih
theorem pg_e52 : ev_ends pg_y52 pg_t52 = true := by decide +kernel
theorem pg_m52 (ih : ∀ i z, pg_mt i = some z → z.2.2.2.2.2.1 + 1 ≤ pg_y52.2.2.2.2.2.1 → ev_Snd l pg_TB pg_cl pg_lay pg_F pg_mt i) : ev_Snd l pg_TB pg_cl pg_lay pg_F pg_mt 52 :=
  ev_meth (y := pg_y52) rfl (by decide +kernel) pg_w52 pg_tb pg_Cl (ev_tl pg_t52) (ev_ends_ok pg_e52).1 (ev_ends_ok pg_e52).2.1 (ev_ends_ok pg_e52).2.2.1 (ev_nothr_ok (by decide)) (fun _ _ _ _ _ _ _ _ _ h hm => absurd hm List.not_mem_nil) pr_52 ih
theorem pg_e53 : ev_ends pg_y53 pg_t53 = true := by decide +kernel
theorem pg_m53 (ih : ∀ i z, pg_mt i = some z → z.2.2.2.2.2.1 + 1 ≤ pg_y53.2.2.2.2.2.1 → ev_Snd l pg_TB pg_cl pg_lay pg_F pg_mt i) : ev_Snd l pg_TB pg_cl pg_lay pg_F pg_mt 53 :=
  ev_meth (y := pg_y53) rfl (by decide +kernel) pg_w53 pg_tb pg_Cl (ev_tl pg_t53) (ev_ends_ok pg_e53).1 (ev_ends_ok pg_e53).2.1 (ev_ends_ok pg_e53).2.2.1 (ev_nothr_ok (by decide)) (fun _ _ _ _ _ _ _ _ _ h hm => absurd hm List.not_mem_nil) pr_53 ih
theorem pg_e54 : ev_ends pg_y54 pg_t54 = true := by decide +kernel
theorem pg_m54 (ih : ∀ i z, pg_mt i = some z → z.2.2.2.2.2.1 + 1 ≤ pg_y54.2.2.2.2.2.1 → ev_Snd l pg_TB pg_cl pg_lay pg_F pg_mt i) : ev_Snd l pg_TB pg_cl pg_lay pg_F pg_mt 54 :=
  ev_meth (y := pg_y54) rfl (by decide +kernel) pg_w54 pg_tb pg_Cl (ev_tl pg_t54) (ev_ends_ok pg_e54).1 (ev_ends_ok pg_e54).2.1 (ev_ends_ok pg_e54).2.2.1 (ev_nothr_ok (by decide)) (fun _ _ _ _ _ _ _ _ _ h hm => absurd hm List.not_mem_nil) pr_54 ih
theorem pg_e55 : ev_ends pg_y55 pg_t55 = true := by decide +kernel
theorem pg_m55 (ih : ∀ i z, pg_mt i = some z → z.2.2.2.2.2.1 + 1 ≤ pg_y55.2.2.2.2.2.1 → ev_Snd l pg_TB pg_cl pg_lay pg_F pg_mt i) : ev_Snd l pg_TB pg_cl pg_lay pg_F pg_mt 55 :=
  ev_meth (y := pg_y55) rfl (by decide +kernel) pg_w55 pg_tb pg_Cl (ev_tl pg_t55) (ev_ends_ok pg_e55).1 (ev_ends_ok pg_e55).2.1 (ev_ends_ok pg_e55).2.2.1 (ev_nothr_ok (by decide)) (fun _ _ _ _ _ _ _ _ _ h hm => absurd hm List.not_mem_nil) pr_55 ih
theorem pg_e56 : ev_ends pg_y56 pg_t56 = true := by decide +kernel
theorem pg_m56 (ih : ∀ i z, pg_mt i = some z → z.2.2.2.2.2.1 + 1 ≤ pg_y56.2.2.2.2.2.1 → ev_Snd l pg_TB pg_cl pg_lay pg_F pg_mt i) : ev_Snd l pg_TB pg_cl pg_lay pg_F pg_mt 56 :=
  ev_meth (y := pg_y56) rfl (by decide +kernel) pg_w56 pg_tb pg_Cl (ev_tl pg_t56) (ev_ends_ok pg_e56).1 (ev_ends_ok pg_e56).2.1 (ev_ends_ok pg_e56).2.2.1 (ev_nothr_ok (by decide)) (fun _ _ _ _ _ _ _ _ _ h hm => absurd hm List.not_mem_nil) pr_56 ih
theorem pg_e57 : ev_ends pg_y57 pg_t57 = true := by decide +kernel
theorem pg_m57 (ih : ∀ i z, pg_mt i = some z → z.2.2.2.2.2.1 + 1 ≤ pg_y57.2.2.2.2.2.1 → ev_Snd l pg_TB pg_cl pg_lay pg_F pg_mt i) : ev_Snd l pg_TB pg_cl pg_lay pg_F pg_mt 57 :=
  ev_meth (y := pg_y57) rfl (by decide +kernel) pg_w57 pg_tb pg_Cl (ev_tl pg_t57) (ev_ends_ok pg_e57).1 (ev_ends_ok pg_e57).2.1 (ev_ends_ok pg_e57).2.2.1 (ev_nothr_ok (by decide)) (fun _ _ _ _ _ _ _ _ _ h hm => absurd hm List.not_mem_nil) pr_57 ih
theorem pg_e58 : ev_ends pg_y58 pg_t58 = true := by decide +kernel
theorem pg_m58 (ih : ∀ i z, pg_mt i = some z → z.2.2.2.2.2.1 + 1 ≤ pg_y58.2.2.2.2.2.1 → ev_Snd l pg_TB pg_cl pg_lay pg_F pg_mt i) : ev_Snd l pg_TB pg_cl pg_lay pg_F pg_mt 58 :=
  ev_meth (y := pg_y58) rfl (by decide +kernel) pg_w58 pg_tb pg_Cl (ev_tl pg_t58) (ev_ends_ok pg_e58).1 (ev_ends_ok pg_e58).2.1 (ev_ends_ok pg_e58).2.2.1 (ev_nothr_ok (by decide)) (fun _ _ _ _ _ _ _ _ _ h hm => absurd hm List.not_mem_nil) pr_58 ih
theorem pg_e59 : ev_ends pg_y59 pg_t59 = true := by decide +kernel
theorem pg_m59 (ih : ∀ i z, pg_mt i = some z → z.2.2.2.2.2.1 + 1 ≤ pg_y59.2.2.2.2.2.1 → ev_Snd l pg_TB pg_cl pg_lay pg_F pg_mt i) : ev_Snd l pg_TB pg_cl pg_lay pg_F pg_mt 59 :=
  ev_meth (y := pg_y59) rfl (by decide +kernel) pg_w59 pg_tb pg_Cl (ev_tl pg_t59) (ev_ends_ok pg_e59).1 (ev_ends_ok pg_e59).2.1 (ev_ends_ok pg_e59).2.2.1 (ev_nothr_ok (by decide)) (fun _ _ _ _ _ _ _ _ _ h hm => absurd hm List.not_mem_nil) pr_59 ih
theorem pg_e60 : ev_ends pg_y60 pg_t60 = true := by decide +kernel
theorem pg_m60 (ih : ∀ i z, pg_mt i = some z → z.2.2.2.2.2.1 + 1 ≤ pg_y60.2.2.2.2.2.1 → ev_Snd l pg_TB pg_cl pg_lay pg_F pg_mt i) : ev_Snd l pg_TB pg_cl pg_lay pg_F pg_mt 60 :=
  ev_meth (y := pg_y60) rfl (by decide +kernel) pg_w60 pg_tb pg_Cl (ev_tl pg_t60) (ev_ends_ok pg_e60).1 (ev_ends_ok pg_e60).2.1 (ev_ends_ok pg_e60).2.2.1 (ev_nothr_ok (by decide)) (fun _ _ _ _ _ _ _ _ _ h hm => absurd hm List.not_mem_nil) pr_60 ih
theorem pg_e61 : ev_ends pg_y61 pg_t61 = true := by decide +kernel
theorem pg_m61 (ih : ∀ i z, pg_mt i = some z → z.2.2.2.2.2.1 + 1 ≤ pg_y61.2.2.2.2.2.1 → ev_Snd l pg_TB pg_cl pg_lay pg_F pg_mt i) : ev_Snd l pg_TB pg_cl pg_lay pg_F pg_mt 61 :=
  ev_meth (y := pg_y61) rfl (by decide +kernel) pg_w61 pg_tb pg_Cl (ev_tl pg_t61) (ev_ends_ok pg_e61).1 (ev_ends_ok pg_e61).2.1 (ev_ends_ok pg_e61).2.2.1 (ev_nothr_ok (by decide)) (fun _ _ _ _ _ _ _ _ _ h hm => absurd hm List.not_mem_nil) pr_61 ih
theorem pg_e62 : ev_ends pg_y62 pg_t62 = true := by decide +kernel
theorem pg_m62 (ih : ∀ i z, pg_mt i = some z → z.2.2.2.2.2.1 + 1 ≤ pg_y62.2.2.2.2.2.1 → ev_Snd l pg_TB pg_cl pg_lay pg_F pg_mt i) : ev_Snd l pg_TB pg_cl pg_lay pg_F pg_mt 62 :=
  ev_meth (y := pg_y62) rfl (by decide +kernel) pg_w62 pg_tb pg_Cl (ev_tl pg_t62) (ev_ends_ok pg_e62).1 (ev_ends_ok pg_e62).2.1 (ev_ends_ok pg_e62).2.2.1 (ev_nothr_ok (by decide)) (fun _ _ _ _ _ _ _ _ _ h hm => absurd hm List.not_mem_nil) pr_62 ih
theorem pg_e63 : ev_ends pg_y63 pg_t63 = true := by decide +kernel
theorem pg_m63 (ih : ∀ i z, pg_mt i = some z → z.2.2.2.2.2.1 + 1 ≤ pg_y63.2.2.2.2.2.1 → ev_Snd l pg_TB pg_cl pg_lay pg_F pg_mt i) : ev_Snd l pg_TB pg_cl pg_lay pg_F pg_mt 63 :=
  ev_meth (y := pg_y63) rfl (by decide +kernel) pg_w63 pg_tb pg_Cl (ev_tl pg_t63) (ev_ends_ok pg_e63).1 (ev_ends_ok pg_e63).2.1 (ev_ends_ok pg_e63).2.2.1 (ev_nothr_ok (by decide)) (fun _ _ _ _ _ _ _ _ _ h hm => absurd hm List.not_mem_nil) pr_63 ih
theorem pg_e64 : ev_ends pg_y64 pg_t64 = true := by decide +kernel
theorem pg_m64 (ih : ∀ i z, pg_mt i = some z → z.2.2.2.2.2.1 + 1 ≤ pg_y64.2.2.2.2.2.1 → ev_Snd l pg_TB pg_cl pg_lay pg_F pg_mt i) : ev_Snd l pg_TB pg_cl pg_lay pg_F pg_mt 64 :=
  ev_meth (y := pg_y64) rfl (by decide +kernel) pg_w64 pg_tb pg_Cl (ev_tl pg_t64) (ev_ends_ok pg_e64).1 (ev_ends_ok pg_e64).2.1 (ev_ends_ok pg_e64).2.2.1 (ev_nothr_ok (by decide)) (fun _ _ _ _ _ _ _ _ _ h hm => absurd hm List.not_mem_nil) pr_64 ih
theorem pg_e65 : ev_ends pg_y65 pg_t65 = true := by decide +kernel
theorem pg_m65 (ih : ∀ i z, pg_mt i = some z → z.2.2.2.2.2.1 + 1 ≤ pg_y65.2.2.2.2.2.1 → ev_Snd l pg_TB pg_cl pg_lay pg_F pg_mt i) : ev_Snd l pg_TB pg_cl pg_lay pg_F pg_mt 65 :=
  ev_meth (y := pg_y65) rfl (by decide +kernel) pg_w65 pg_tb pg_Cl (ev_tl pg_t65) (ev_ends_ok pg_e65).1 (ev_ends_ok pg_e65).2.1 (ev_ends_ok pg_e65).2.2.1 (ev_nothr_ok (by decide)) (fun _ _ _ _ _ _ _ _ _ h hm => absurd hm List.not_mem_nil) pr_65 ih
theorem pg_e66 : ev_ends pg_y66 pg_t66 = true := by decide +kernel
theorem pg_m66 (ih : ∀ i z, pg_mt i = some z → z.2.2.2.2.2.1 + 1 ≤ pg_y66.2.2.2.2.2.1 → ev_Snd l pg_TB pg_cl pg_lay pg_F pg_mt i) : ev_Snd l pg_TB pg_cl pg_lay pg_F pg_mt 66 :=
  ev_meth (y := pg_y66) rfl (by decide +kernel) pg_w66 pg_tb pg_Cl (ev_tl pg_t66) (ev_ends_ok pg_e66).1 (ev_ends_ok pg_e66).2.1 (ev_ends_ok pg_e66).2.2.1 (ev_nothr_ok (by decide)) (fun _ _ _ _ _ _ _ _ _ h hm => absurd hm List.not_mem_nil) pr_66 ih
theorem pg_e67 : ev_ends pg_y67 pg_t67 = true := by decide +kernel
theorem pg_m67 (ih : ∀ i z, pg_mt i = some z → z.2.2.2.2.2.1 + 1 ≤ pg_y67.2.2.2.2.2.1 → ev_Snd l pg_TB pg_cl pg_lay pg_F pg_mt i) : ev_Snd l pg_TB pg_cl pg_lay pg_F pg_mt 67 :=
  ev_meth (y := pg_y67) rfl (by decide +kernel) pg_w67 pg_tb pg_Cl (ev_tl pg_t67) (ev_ends_ok pg_e67).1 (ev_ends_ok pg_e67).2.1 (ev_ends_ok pg_e67).2.2.1 (ev_nothr_ok (by decide)) (fun _ _ _ _ _ _ _ _ _ h hm => absurd hm List.not_mem_nil) pr_67 ih
theorem pg_e68 : ev_ends pg_y68 pg_t68 = true := by decide +kernel
theorem pg_m68 (ih : ∀ i z, pg_mt i = some z → z.2.2.2.2.2.1 + 1 ≤ pg_y68.2.2.2.2.2.1 → ev_Snd l pg_TB pg_cl pg_lay pg_F pg_mt i) : ev_Snd l pg_TB pg_cl pg_lay pg_F pg_mt 68 :=
  ev_meth (y := pg_y68) rfl (by decide +kernel) pg_w68 pg_tb pg_Cl (ev_tl pg_t68) (ev_ends_ok pg_e68).1 (ev_ends_ok pg_e68).2.1 (ev_ends_ok pg_e68).2.2.1 (ev_nothr_ok (by decide)) (fun _ _ _ _ _ _ _ _ _ h hm => absurd hm List.not_mem_nil) pr_68 ih
theorem pg_e69 : ev_ends pg_y69 pg_t69 = true := by decide +kernel
theorem pg_m69 (ih : ∀ i z, pg_mt i = some z → z.2.2.2.2.2.1 + 1 ≤ pg_y69.2.2.2.2.2.1 → ev_Snd l pg_TB pg_cl pg_lay pg_F pg_mt i) : ev_Snd l pg_TB pg_cl pg_lay pg_F pg_mt 69 :=
  ev_meth (y := pg_y69) rfl (by decide +kernel) pg_w69 pg_tb pg_Cl (ev_tl pg_t69) (ev_ends_ok pg_e69).1 (ev_ends_ok pg_e69).2.1 (ev_ends_ok pg_e69).2.2.1 (ev_nothr_ok (by decide)) (fun _ _ _ _ _ _ _ _ _ h hm => absurd hm List.not_mem_nil) pr_69 ih
theorem pg_e70 : ev_ends pg_y70 pg_t70 = true := by decide +kernel
theorem pg_m70 (ih : ∀ i z, pg_mt i = some z → z.2.2.2.2.2.1 + 1 ≤ pg_y70.2.2.2.2.2.1 → ev_Snd l pg_TB pg_cl pg_lay pg_F pg_mt i) : ev_Snd l pg_TB pg_cl pg_lay pg_F pg_mt 70 :=
  ev_meth (y := pg_y70) rfl (by decide +kernel) pg_w70 pg_tb pg_Cl (ev_tl pg_t70) (ev_ends_ok pg_e70).1 (ev_ends_ok pg_e70).2.1 (ev_ends_ok pg_e70).2.2.1 (ev_nothr_ok (by decide)) (fun _ _ _ _ _ _ _ _ _ h hm => absurd hm List.not_mem_nil) pr_70 ih
theorem pg_e71 : ev_ends pg_y71 pg_t71 = true := by decide +kernel
theorem pg_m71 (ih : ∀ i z, pg_mt i = some z → z.2.2.2.2.2.1 + 1 ≤ pg_y71.2.2.2.2.2.1 → ev_Snd l pg_TB pg_cl pg_lay pg_F pg_mt i) : ev_Snd l pg_TB pg_cl pg_lay pg_F pg_mt 71 :=
  ev_meth (y := pg_y71) rfl (by decide +kernel) pg_w71 pg_tb pg_Cl (ev_tl pg_t71) (ev_ends_ok pg_e71).1 (ev_ends_ok pg_e71).2.1 (ev_ends_ok pg_e71).2.2.1 (ev_nothr_ok (by decide)) (fun _ _ _ _ _ _ _ _ _ h hm => absurd hm List.not_mem_nil) pr_71 ih
theorem pg_e72 : ev_ends pg_y72 pg_t72 = true := by decide +kernel
theorem pg_m72 (ih : ∀ i z, pg_mt i = some z → z.2.2.2.2.2.1 + 1 ≤ pg_y72.2.2.2.2.2.1 → ev_Snd l pg_TB pg_cl pg_lay pg_F pg_mt i) : ev_Snd l pg_TB pg_cl pg_lay pg_F pg_mt 72 :=
  ev_meth (y := pg_y72) rfl (by decide +kernel) pg_w72 pg_tb pg_Cl (ev_tl pg_t72) (ev_ends_ok pg_e72).1 (ev_ends_ok pg_e72).2.1 (ev_ends_ok pg_e72).2.2.1 (ev_nothr_ok (by decide)) (fun _ _ _ _ _ _ _ _ _ h hm => absurd hm List.not_mem_nil) pr_72 ih
theorem pg_e73 : ev_ends pg_y73 pg_t73 = true := by decide +kernel
theorem pg_m73 (ih : ∀ i z, pg_mt i = some z → z.2.2.2.2.2.1 + 1 ≤ pg_y73.2.2.2.2.2.1 → ev_Snd l pg_TB pg_cl pg_lay pg_F pg_mt i) : ev_Snd l pg_TB pg_cl pg_lay pg_F pg_mt 73 :=
  ev_meth (y := pg_y73) rfl (by decide +kernel) pg_w73 pg_tb pg_Cl (ev_tl pg_t73) (ev_ends_ok pg_e73).1 (ev_ends_ok pg_e73).2.1 (ev_ends_ok pg_e73).2.2.1 (ev_nothr_ok (by decide)) (fun _ _ _ _ _ _ _ _ _ h hm => absurd hm List.not_mem_nil) pr_73 ih
theorem pg_e74 : ev_ends pg_y74 pg_t74 = true := by decide +kernel
theorem pg_m74 (ih : ∀ i z, pg_mt i = some z → z.2.2.2.2.2.1 + 1 ≤ pg_y74.2.2.2.2.2.1 → ev_Snd l pg_TB pg_cl pg_lay pg_F pg_mt i) : ev_Snd l pg_TB pg_cl pg_lay pg_F pg_mt 74 :=
  ev_meth (y := pg_y74) rfl (by decide +kernel) pg_w74 pg_tb pg_Cl (ev_tl pg_t74) (ev_ends_ok pg_e74).1 (ev_ends_ok pg_e74).2.1 (ev_ends_ok pg_e74).2.2.1 (ev_nothr_ok (by decide)) (fun _ _ _ _ _ _ _ _ _ h hm => absurd hm List.not_mem_nil) pr_74 ih
theorem pg_e75 : ev_ends pg_y75 pg_t75 = true := by decide +kernel
theorem pg_m75 (ih : ∀ i z, pg_mt i = some z → z.2.2.2.2.2.1 + 1 ≤ pg_y75.2.2.2.2.2.1 → ev_Snd l pg_TB pg_cl pg_lay pg_F pg_mt i) : ev_Snd l pg_TB pg_cl pg_lay pg_F pg_mt 75 :=
  ev_meth (y := pg_y75) rfl (by decide +kernel) pg_w75 pg_tb pg_Cl (ev_tl pg_t75) (ev_ends_ok pg_e75).1 (ev_ends_ok pg_e75).2.1 (ev_ends_ok pg_e75).2.2.1 (ev_nothr_ok (by decide)) (fun _ _ _ _ _ _ _ _ _ h hm => absurd hm List.not_mem_nil) pr_75 ih
theorem pg_e76 : ev_ends pg_y76 pg_t76 = true := by decide +kernel
theorem pg_m76 (ih : ∀ i z, pg_mt i = some z → z.2.2.2.2.2.1 + 1 ≤ pg_y76.2.2.2.2.2.1 → ev_Snd l pg_TB pg_cl pg_lay pg_F pg_mt i) : ev_Snd l pg_TB pg_cl pg_lay pg_F pg_mt 76 :=
  ev_meth (y := pg_y76) rfl (by decide +kernel) pg_w76 pg_tb pg_Cl (ev_tl pg_t76) (ev_ends_ok pg_e76).1 (ev_ends_ok pg_e76).2.1 (ev_ends_ok pg_e76).2.2.1 (ev_nothr_ok (by decide)) (fun _ _ _ _ _ _ _ _ _ h hm => absurd hm List.not_mem_nil) pr_76 ih
theorem pg_e77 : ev_ends pg_y77 pg_t77 = true := by decide +kernel
theorem pg_m77 (ih : ∀ i z, pg_mt i = some z → z.2.2.2.2.2.1 + 1 ≤ pg_y77.2.2.2.2.2.1 → ev_Snd l pg_TB pg_cl pg_lay pg_F pg_mt i) : ev_Snd l pg_TB pg_cl pg_lay pg_F pg_mt 77 :=
  ev_meth (y := pg_y77) rfl (by decide +kernel) pg_w77 pg_tb pg_Cl (ev_tl pg_t77) (ev_ends_ok pg_e77).1 (ev_ends_ok pg_e77).2.1 (ev_ends_ok pg_e77).2.2.1 (ev_nothr_ok (by decide)) (fun _ _ _ _ _ _ _ _ _ h hm => absurd hm List.not_mem_nil) pr_77 ih
theorem pg_e78 : ev_ends pg_y78 pg_t78 = true := by decide +kernel
theorem pg_m78 (ih : ∀ i z, pg_mt i = some z → z.2.2.2.2.2.1 + 1 ≤ pg_y78.2.2.2.2.2.1 → ev_Snd l pg_TB pg_cl pg_lay pg_F pg_mt i) : ev_Snd l pg_TB pg_cl pg_lay pg_F pg_mt 78 :=
  ev_meth (y := pg_y78) rfl (by decide +kernel) pg_w78 pg_tb pg_Cl (ev_tl pg_t78) (ev_ends_ok pg_e78).1 (ev_ends_ok pg_e78).2.1 (ev_ends_ok pg_e78).2.2.1 (ev_nothr_ok (by decide)) (fun _ _ _ _ _ _ _ _ _ h hm => absurd hm List.not_mem_nil) pr_78 ih
theorem pg_e79 : ev_ends pg_y79 pg_t79 = true := by decide +kernel
theorem pg_m79 (ih : ∀ i z, pg_mt i = some z → z.2.2.2.2.2.1 + 1 ≤ pg_y79.2.2.2.2.2.1 → ev_Snd l pg_TB pg_cl pg_lay pg_F pg_mt i) : ev_Snd l pg_TB pg_cl pg_lay pg_F pg_mt 79 :=
  ev_meth (y := pg_y79) rfl (by decide +kernel) pg_w79 pg_tb pg_Cl (ev_tl pg_t79) (ev_ends_ok pg_e79).1 (ev_ends_ok pg_e79).2.1 (ev_ends_ok pg_e79).2.2.1 (ev_nothr_ok (by decide)) (fun _ _ _ _ _ _ _ _ _ h hm => absurd hm List.not_mem_nil) pr_79 ih
theorem pg_e80 : ev_ends pg_y80 pg_t80 = true := by decide +kernel
theorem pg_m80 (ih : ∀ i z, pg_mt i = some z → z.2.2.2.2.2.1 + 1 ≤ pg_y80.2.2.2.2.2.1 → ev_Snd l pg_TB pg_cl pg_lay pg_F pg_mt i) : ev_Snd l pg_TB pg_cl pg_lay pg_F pg_mt 80 :=
  ev_meth (y := pg_y80) rfl (by decide +kernel) pg_w80 pg_tb pg_Cl (ev_tl pg_t80) (ev_ends_ok pg_e80).1 (ev_ends_ok pg_e80).2.1 (ev_ends_ok pg_e80).2.2.1 (ev_nothr_ok (by decide)) (fun _ _ _ _ _ _ _ _ _ h hm => absurd hm List.not_mem_nil) pr_80 ih
theorem pg_e81 : ev_ends pg_y81 pg_t81 = true := by decide +kernel
theorem pg_m81 (ih : ∀ i z, pg_mt i = some z → z.2.2.2.2.2.1 + 1 ≤ pg_y81.2.2.2.2.2.1 → ev_Snd l pg_TB pg_cl pg_lay pg_F pg_mt i) : ev_Snd l pg_TB pg_cl pg_lay pg_F pg_mt 81 :=
  ev_meth (y := pg_y81) rfl (by decide +kernel) pg_w81 pg_tb pg_Cl (ev_tl pg_t81) (ev_ends_ok pg_e81).1 (ev_ends_ok pg_e81).2.1 (ev_ends_ok pg_e81).2.2.1 (ev_nothr_ok (by decide)) (fun _ _ _ _ _ _ _ _ _ h hm => absurd hm List.not_mem_nil) pr_81 ih
theorem pg_e82 : ev_ends pg_y82 pg_t82 = true := by decide +kernel
theorem pg_m82 (ih : ∀ i z, pg_mt i = some z → z.2.2.2.2.2.1 + 1 ≤ pg_y82.2.2.2.2.2.1 → ev_Snd l pg_TB pg_cl pg_lay pg_F pg_mt i) : ev_Snd l pg_TB pg_cl pg_lay pg_F pg_mt 82 :=
  ev_meth (y := pg_y82) rfl (by decide +kernel) pg_w82 pg_tb pg_Cl (ev_tl pg_t82) (ev_ends_ok pg_e82).1 (ev_ends_ok pg_e82).2.1 (ev_ends_ok pg_e82).2.2.1 (ev_nothr_ok (by decide)) (fun _ _ _ _ _ _ _ _ _ h hm => absurd hm List.not_mem_nil) pr_82 ih
theorem pg_e83 : ev_ends pg_y83 pg_t83 = true := by decide +kernel
theorem pg_m83 (ih : ∀ i z, pg_mt i = some z → z.2.2.2.2.2.1 + 1 ≤ pg_y83.2.2.2.2.2.1 → ev_Snd l pg_TB pg_cl pg_lay pg_F pg_mt i) : ev_Snd l pg_TB pg_cl pg_lay pg_F pg_mt 83 :=
  ev_meth (y := pg_y83) rfl (by decide +kernel) pg_w83 pg_tb pg_Cl (ev_tl pg_t83) (ev_ends_ok pg_e83).1 (ev_ends_ok pg_e83).2.1 (ev_ends_ok pg_e83).2.2.1 (ev_nothr_ok (by decide)) (fun _ _ _ _ _ _ _ _ _ h hm => absurd hm List.not_mem_nil) pr_83 ih
theorem pg_e84 : ev_ends pg_y84 pg_t84 = true := by decide +kernel
theorem pg_m84 (ih : ∀ i z, pg_mt i = some z → z.2.2.2.2.2.1 + 1 ≤ pg_y84.2.2.2.2.2.1 → ev_Snd l pg_TB pg_cl pg_lay pg_F pg_mt i) : ev_Snd l pg_TB pg_cl pg_lay pg_F pg_mt 84 :=
  ev_meth (y := pg_y84) rfl (by decide +kernel) pg_w84 pg_tb pg_Cl (ev_tl pg_t84) (ev_ends_ok pg_e84).1 (ev_ends_ok pg_e84).2.1 (ev_ends_ok pg_e84).2.2.1 (ev_nothr_ok (by decide)) (fun _ _ _ _ _ _ _ _ _ h hm => absurd hm List.not_mem_nil) pr_84 ih
theorem pg_e85 : ev_ends pg_y85 pg_t85 = true := by decide +kernel
theorem pg_m85 (ih : ∀ i z, pg_mt i = some z → z.2.2.2.2.2.1 + 1 ≤ pg_y85.2.2.2.2.2.1 → ev_Snd l pg_TB pg_cl pg_lay pg_F pg_mt i) : ev_Snd l pg_TB pg_cl pg_lay pg_F pg_mt 85 :=
  ev_meth (y := pg_y85) rfl (by decide +kernel) pg_w85 pg_tb pg_Cl (ev_tl pg_t85) (ev_ends_ok pg_e85).1 (ev_ends_ok pg_e85).2.1 (ev_ends_ok pg_e85).2.2.1 (ev_nothr_ok (by decide)) (fun _ _ _ _ _ _ _ _ _ h hm => absurd hm List.not_mem_nil) pr_85 ih
theorem pg_e86 : ev_ends pg_y86 pg_t86 = true := by decide +kernel
theorem pg_m86 (ih : ∀ i z, pg_mt i = some z → z.2.2.2.2.2.1 + 1 ≤ pg_y86.2.2.2.2.2.1 → ev_Snd l pg_TB pg_cl pg_lay pg_F pg_mt i) : ev_Snd l pg_TB pg_cl pg_lay pg_F pg_mt 86 :=
  ev_meth (y := pg_y86) rfl (by decide +kernel) pg_w86 pg_tb pg_Cl (ev_tl pg_t86) (ev_ends_ok pg_e86).1 (ev_ends_ok pg_e86).2.1 (ev_ends_ok pg_e86).2.2.1 (ev_nothr_ok (by decide)) (fun _ _ _ _ _ _ _ _ _ h hm => absurd hm List.not_mem_nil) pr_86 ih
theorem pg_e87 : ev_ends pg_y87 pg_t87 = true := by decide +kernel
theorem pg_m87 (ih : ∀ i z, pg_mt i = some z → z.2.2.2.2.2.1 + 1 ≤ pg_y87.2.2.2.2.2.1 → ev_Snd l pg_TB pg_cl pg_lay pg_F pg_mt i) : ev_Snd l pg_TB pg_cl pg_lay pg_F pg_mt 87 :=
  ev_meth (y := pg_y87) rfl (by decide +kernel) pg_w87 pg_tb pg_Cl (ev_tl pg_t87) (ev_ends_ok pg_e87).1 (ev_ends_ok pg_e87).2.1 (ev_ends_ok pg_e87).2.2.1 (ev_nothr_ok (by decide)) (fun _ _ _ _ _ _ _ _ _ h hm => absurd hm List.not_mem_nil) pr_87 ih
theorem pg_e88 : ev_ends pg_y88 pg_t88 = true := by decide +kernel
theorem pg_m88 (ih : ∀ i z, pg_mt i = some z → z.2.2.2.2.2.1 + 1 ≤ pg_y88.2.2.2.2.2.1 → ev_Snd l pg_TB pg_cl pg_lay pg_F pg_mt i) : ev_Snd l pg_TB pg_cl pg_lay pg_F pg_mt 88 :=
  ev_meth (y := pg_y88) rfl (by decide +kernel) pg_w88 pg_tb pg_Cl (ev_tl pg_t88) (ev_ends_ok pg_e88).1 (ev_ends_ok pg_e88).2.1 (ev_ends_ok pg_e88).2.2.1 (ev_nothr_ok (by decide)) (fun _ _ _ _ _ _ _ _ _ h hm => absurd hm List.not_mem_nil) pr_88 ih
theorem pg_e89 : ev_ends pg_y89 pg_t89 = true := by decide +kernel
theorem pg_m89 (ih : ∀ i z, pg_mt i = some z → z.2.2.2.2.2.1 + 1 ≤ pg_y89.2.2.2.2.2.1 → ev_Snd l pg_TB pg_cl pg_lay pg_F pg_mt i) : ev_Snd l pg_TB pg_cl pg_lay pg_F pg_mt 89 :=
  ev_meth (y := pg_y89) rfl (by decide +kernel) pg_w89 pg_tb pg_Cl (ev_tl pg_t89) (ev_ends_ok pg_e89).1 (ev_ends_ok pg_e89).2.1 (ev_ends_ok pg_e89).2.2.1 (ev_nothr_ok (by decide)) (fun _ _ _ _ _ _ _ _ _ h hm => absurd hm List.not_mem_nil) pr_89 ih
theorem pg_e90 : ev_ends pg_y90 pg_t90 = true := by decide +kernel
theorem pg_m90 (ih : ∀ i z, pg_mt i = some z → z.2.2.2.2.2.1 + 1 ≤ pg_y90.2.2.2.2.2.1 → ev_Snd l pg_TB pg_cl pg_lay pg_F pg_mt i) : ev_Snd l pg_TB pg_cl pg_lay pg_F pg_mt 90 :=
  ev_meth (y := pg_y90) rfl (by decide +kernel) pg_w90 pg_tb pg_Cl (ev_tl pg_t90) (ev_ends_ok pg_e90).1 (ev_ends_ok pg_e90).2.1 (ev_ends_ok pg_e90).2.2.1 (ev_nothr_ok (by decide)) (fun _ _ _ _ _ _ _ _ _ h hm => absurd hm List.not_mem_nil) pr_90 ih
theorem pg_e91 : ev_ends pg_y91 pg_t91 = true := by decide +kernel
theorem pg_m91 (ih : ∀ i z, pg_mt i = some z → z.2.2.2.2.2.1 + 1 ≤ pg_y91.2.2.2.2.2.1 → ev_Snd l pg_TB pg_cl pg_lay pg_F pg_mt i) : ev_Snd l pg_TB pg_cl pg_lay pg_F pg_mt 91 :=
  ev_meth (y := pg_y91) rfl (by decide +kernel) pg_w91 pg_tb pg_Cl (ev_tl pg_t91) (ev_ends_ok pg_e91).1 (ev_ends_ok pg_e91).2.1 (ev_ends_ok pg_e91).2.2.1 (ev_nothr_ok (by decide)) (fun _ _ _ _ _ _ _ _ _ h hm => absurd hm List.not_mem_nil) pr_91 ih
theorem pg_e92 : ev_ends pg_y92 pg_t92 = true := by decide +kernel
theorem pg_m92 (ih : ∀ i z, pg_mt i = some z → z.2.2.2.2.2.1 + 1 ≤ pg_y92.2.2.2.2.2.1 → ev_Snd l pg_TB pg_cl pg_lay pg_F pg_mt i) : ev_Snd l pg_TB pg_cl pg_lay pg_F pg_mt 92 :=
  ev_meth (y := pg_y92) rfl (by decide +kernel) pg_w92 pg_tb pg_Cl (ev_tl pg_t92) (ev_ends_ok pg_e92).1 (ev_ends_ok pg_e92).2.1 (ev_ends_ok pg_e92).2.2.1 (ev_nothr_ok (by decide)) (fun _ _ _ _ _ _ _ _ _ h hm => absurd hm List.not_mem_nil) pr_92 ih
theorem pg_e93 : ev_ends pg_y93 pg_t93 = true := by decide +kernel
theorem pg_m93 (ih : ∀ i z, pg_mt i = some z → z.2.2.2.2.2.1 + 1 ≤ pg_y93.2.2.2.2.2.1 → ev_Snd l pg_TB pg_cl pg_lay pg_F pg_mt i) : ev_Snd l pg_TB pg_cl pg_lay pg_F pg_mt 93 :=
  ev_meth (y := pg_y93) rfl (by decide +kernel) pg_w93 pg_tb pg_Cl (ev_tl pg_t93) (ev_ends_ok pg_e93).1 (ev_ends_ok pg_e93).2.1 (ev_ends_ok pg_e93).2.2.1 (ev_nothr_ok (by decide)) (fun _ _ _ _ _ _ _ _ _ h hm => absurd hm List.not_mem_nil) pr_93 ih
theorem pg_e94 : ev_ends pg_y94 pg_t94 = true := by decide +kernel
theorem pg_m94 (ih : ∀ i z, pg_mt i = some z → z.2.2.2.2.2.1 + 1 ≤ pg_y94.2.2.2.2.2.1 → ev_Snd l pg_TB pg_cl pg_lay pg_F pg_mt i) : ev_Snd l pg_TB pg_cl pg_lay pg_F pg_mt 94 :=
  ev_meth (y := pg_y94) rfl (by decide +kernel) pg_w94 pg_tb pg_Cl (ev_tl pg_t94) (ev_ends_ok pg_e94).1 (ev_ends_ok pg_e94).2.1 (ev_ends_ok pg_e94).2.2.1 (ev_nothr_ok (by decide)) (fun _ _ _ _ _ _ _ _ _ h hm => absurd hm List.not_mem_nil) pr_94 ih
theorem pg_e95 : ev_ends pg_y95 pg_t95 = true := by decide +kernel
theorem pg_m95 (ih : ∀ i z, pg_mt i = some z → z.2.2.2.2.2.1 + 1 ≤ pg_y95.2.2.2.2.2.1 → ev_Snd l pg_TB pg_cl pg_lay pg_F pg_mt i) : ev_Snd l pg_TB pg_cl pg_lay pg_F pg_mt 95 :=
  ev_meth (y := pg_y95) rfl (by decide +kernel) pg_w95 pg_tb pg_Cl (ev_tl pg_t95) (ev_ends_ok pg_e95).1 (ev_ends_ok pg_e95).2.1 (ev_ends_ok pg_e95).2.2.1 (ev_nothr_ok (by decide)) (fun _ _ _ _ _ _ _ _ _ h hm => absurd hm List.not_mem_nil) pr_95 ih
theorem pg_e96 : ev_ends pg_y96 pg_t96 = true := by decide +kernel
theorem pg_m96 (ih : ∀ i z, pg_mt i = some z → z.2.2.2.2.2.1 + 1 ≤ pg_y96.2.2.2.2.2.1 → ev_Snd l pg_TB pg_cl pg_lay pg_F pg_mt i) : ev_Snd l pg_TB pg_cl pg_lay pg_F pg_mt 96 :=
  ev_meth (y := pg_y96) rfl (by decide +kernel) pg_w96 pg_tb pg_Cl (ev_tl pg_t96) (ev_ends_ok pg_e96).1 (ev_ends_ok pg_e96).2.1 (ev_ends_ok pg_e96).2.2.1 (ev_nothr_ok (by decide)) (fun _ _ _ _ _ _ _ _ _ h hm => absurd hm List.not_mem_nil) pr_96 ih
theorem pg_e97 : ev_ends pg_y97 pg_t97 = true := by decide +kernel
theorem pg_m97 (ih : ∀ i z, pg_mt i = some z → z.2.2.2.2.2.1 + 1 ≤ pg_y97.2.2.2.2.2.1 → ev_Snd l pg_TB pg_cl pg_lay pg_F pg_mt i) : ev_Snd l pg_TB pg_cl pg_lay pg_F pg_mt 97 :=
  ev_meth (y := pg_y97) rfl (by decide +kernel) pg_w97 pg_tb pg_Cl (ev_tl pg_t97) (ev_ends_ok pg_e97).1 (ev_ends_ok pg_e97).2.1 (ev_ends_ok pg_e97).2.2.1 (ev_nothr_ok (by decide)) (fun _ _ _ _ _ _ _ _ _ h hm => absurd hm List.not_mem_nil) pr_97 ih
theorem pg_e98 : ev_ends pg_y98 pg_t98 = true := by decide +kernel
theorem pg_m98 (ih : ∀ i z, pg_mt i = some z → z.2.2.2.2.2.1 + 1 ≤ pg_y98.2.2.2.2.2.1 → ev_Snd l pg_TB pg_cl pg_lay pg_F pg_mt i) : ev_Snd l pg_TB pg_cl pg_lay pg_F pg_mt 98 :=
  ev_meth (y := pg_y98) rfl (by decide +kernel) pg_w98 pg_tb pg_Cl (ev_tl pg_t98) (ev_ends_ok pg_e98).1 (ev_ends_ok pg_e98).2.1 (ev_ends_ok pg_e98).2.2.1 (ev_nothr_ok (by decide)) (fun _ _ _ _ _ _ _ _ _ h hm => absurd hm List.not_mem_nil) pr_98 ih
theorem pg_e99 : ev_ends pg_y99 pg_t99 = true := by decide +kernel
theorem pg_m99 (ih : ∀ i z, pg_mt i = some z → z.2.2.2.2.2.1 + 1 ≤ pg_y99.2.2.2.2.2.1 → ev_Snd l pg_TB pg_cl pg_lay pg_F pg_mt i) : ev_Snd l pg_TB pg_cl pg_lay pg_F pg_mt 99 :=
  ev_meth (y := pg_y99) rfl (by decide +kernel) pg_w99 pg_tb pg_Cl (ev_tl pg_t99) (ev_ends_ok pg_e99).1 (ev_ends_ok pg_e99).2.1 (ev_ends_ok pg_e99).2.2.1 (ev_nothr_ok (by decide)) (fun _ _ _ _ _ _ _ _ _ h hm => absurd hm List.not_mem_nil) pr_99 ih
theorem pg_e100 : ev_ends pg_y100 pg_t100 = true := by decide +kernel
theorem pg_m100 (ih : ∀ i z, pg_mt i = some z → z.2.2.2.2.2.1 + 1 ≤ pg_y100.2.2.2.2.2.1 → ev_Snd l pg_TB pg_cl pg_lay pg_F pg_mt i) : ev_Snd l pg_TB pg_cl pg_lay pg_F pg_mt 100 :=
  ev_meth (y := pg_y100) rfl (by decide +kernel) pg_w100 pg_tb pg_Cl (ev_tl pg_t100) (ev_ends_ok pg_e100).1 (ev_ends_ok pg_e100).2.1 (ev_ends_ok pg_e100).2.2.1 (ev_nothr_ok (by decide)) (fun _ _ _ _ _ _ _ _ _ h hm => absurd hm List.not_mem_nil) pr_100 ih
theorem pg_e101 : ev_ends pg_y101 pg_t101 = true := by decide +kernel
theorem pg_m101 (ih : ∀ i z, pg_mt i = some z → z.2.2.2.2.2.1 + 1 ≤ pg_y101.2.2.2.2.2.1 → ev_Snd l pg_TB pg_cl pg_lay pg_F pg_mt i) : ev_Snd l pg_TB pg_cl pg_lay pg_F pg_mt 101 :=
  ev_meth (y := pg_y101) rfl (by decide +kernel) pg_w101 pg_tb pg_Cl (ev_tl pg_t101) (ev_ends_ok pg_e101).1 (ev_ends_ok pg_e101).2.1 (ev_ends_ok pg_e101).2.2.1 (ev_nothr_ok (by decide)) (fun _ _ _ _ _ _ _ _ _ h hm => absurd hm List.not_mem_nil) pr_101 ih
theorem pg_e102 : ev_ends pg_y102 pg_t102 = true := by decide +kernel
theorem pg_m102 (ih : ∀ i z, pg_mt i = some z → z.2.2.2.2.2.1 + 1 ≤ pg_y102.2.2.2.2.2.1 → ev_Snd l pg_TB pg_cl pg_lay pg_F pg_mt i) : ev_Snd l pg_TB pg_cl pg_lay pg_F pg_mt 102 :=
  ev_meth (y := pg_y102) rfl (by decide +kernel) pg_w102 pg_tb pg_Cl (ev_tl pg_t102) (ev_ends_ok pg_e102).1 (ev_ends_ok pg_e102).2.1 (ev_ends_ok pg_e102).2.2.1 (ev_nothr_ok (by decide)) (fun _ _ _ _ _ _ _ _ _ h hm => absurd hm List.not_mem_nil) pr_102 ih
theorem pg_e103 : ev_ends pg_y103 pg_t103 = true := by decide +kernel
theorem pg_m103 (ih : ∀ i z, pg_mt i = some z → z.2.2.2.2.2.1 + 1 ≤ pg_y103.2.2.2.2.2.1 → ev_Snd l pg_TB pg_cl pg_lay pg_F pg_mt i) : ev_Snd l pg_TB pg_cl pg_lay pg_F pg_mt 103 :=
  ev_meth (y := pg_y103) rfl (by decide +kernel) pg_w103 pg_tb pg_Cl (ev_tl pg_t103) (ev_ends_ok pg_e103).1 (ev_ends_ok pg_e103).2.1 (ev_ends_ok pg_e103).2.2.1 (ev_nothr_ok (by decide)) (fun _ _ _ _ _ _ _ _ _ h hm => absurd hm List.not_mem_nil) pr_103 ih
theorem pg_e104 : ev_ends pg_y104 pg_t104 = true := by decide +kernel
theorem pg_m104 (ih : ∀ i z, pg_mt i = some z → z.2.2.2.2.2.1 + 1 ≤ pg_y104.2.2.2.2.2.1 → ev_Snd l pg_TB pg_cl pg_lay pg_F pg_mt i) : ev_Snd l pg_TB pg_cl pg_lay pg_F pg_mt 104 :=
  ev_meth (y := pg_y104) rfl (by decide +kernel) pg_w104 pg_tb pg_Cl (ev_tl pg_t104) (ev_ends_ok pg_e104).1 (ev_ends_ok pg_e104).2.1 (ev_ends_ok pg_e104).2.2.1 (ev_nothr_ok (by decide)) (fun _ _ _ _ _ _ _ _ _ h hm => absurd hm List.not_mem_nil) pr_104 ih
theorem pg_e105 : ev_ends pg_y105 pg_t105 = true := by decide +kernel
theorem pg_m105 (ih : ∀ i z, pg_mt i = some z → z.2.2.2.2.2.1 + 1 ≤ pg_y105.2.2.2.2.2.1 → ev_Snd l pg_TB pg_cl pg_lay pg_F pg_mt i) : ev_Snd l pg_TB pg_cl pg_lay pg_F pg_mt 105 :=
  ev_meth (y := pg_y105) rfl (by decide +kernel) pg_w105 pg_tb pg_Cl (ev_tl pg_t105) (ev_ends_ok pg_e105).1 (ev_ends_ok pg_e105).2.1 (ev_ends_ok pg_e105).2.2.1 (ev_nothr_ok (by decide)) (fun _ _ _ _ _ _ _ _ _ h hm => absurd hm List.not_mem_nil) pr_105 ih
theorem pg_e106 : ev_ends pg_y106 pg_t106 = true := by decide +kernel
theorem pg_m106 (ih : ∀ i z, pg_mt i = some z → z.2.2.2.2.2.1 + 1 ≤ pg_y106.2.2.2.2.2.1 → ev_Snd l pg_TB pg_cl pg_lay pg_F pg_mt i) : ev_Snd l pg_TB pg_cl pg_lay pg_F pg_mt 106 :=
  ev_meth (y := pg_y106) rfl (by decide +kernel) pg_w106 pg_tb pg_Cl (ev_tl pg_t106) (ev_ends_ok pg_e106).1 (ev_ends_ok pg_e106).2.1 (ev_ends_ok pg_e106).2.2.1 (ev_nothr_ok (by decide)) (fun _ _ _ _ _ _ _ _ _ h hm => absurd hm List.not_mem_nil) pr_106 ih
theorem pg_e107 : ev_ends pg_y107 pg_t107 = true := by decide +kernel
theorem pg_m107 (ih : ∀ i z, pg_mt i = some z → z.2.2.2.2.2.1 + 1 ≤ pg_y107.2.2.2.2.2.1 → ev_Snd l pg_TB pg_cl pg_lay pg_F pg_mt i) : ev_Snd l pg_TB pg_cl pg_lay pg_F pg_mt 107 :=
  ev_meth (y := pg_y107) rfl (by decide +kernel) pg_w107 pg_tb pg_Cl (ev_tl pg_t107) (ev_ends_ok pg_e107).1 (ev_ends_ok pg_e107).2.1 (ev_ends_ok pg_e107).2.2.1 (ev_nothr_ok (by decide)) (fun _ _ _ _ _ _ _ _ _ h hm => absurd hm List.not_mem_nil) pr_107 ih
theorem pg_e108 : ev_ends pg_y108 pg_t108 = true := by decide +kernel
theorem pg_m108 (ih : ∀ i z, pg_mt i = some z → z.2.2.2.2.2.1 + 1 ≤ pg_y108.2.2.2.2.2.1 → ev_Snd l pg_TB pg_cl pg_lay pg_F pg_mt i) : ev_Snd l pg_TB pg_cl pg_lay pg_F pg_mt 108 :=
  ev_meth (y := pg_y108) rfl (by decide +kernel) pg_w108 pg_tb pg_Cl (ev_tl pg_t108) (ev_ends_ok pg_e108).1 (ev_ends_ok pg_e108).2.1 (ev_ends_ok pg_e108).2.2.1 (ev_nothr_ok (by decide)) (fun _ _ _ _ _ _ _ _ _ h hm => absurd hm List.not_mem_nil) pr_108 ih
theorem pg_e109 : ev_ends pg_y109 pg_t109 = true := by decide +kernel
theorem pg_m109 (ih : ∀ i z, pg_mt i = some z → z.2.2.2.2.2.1 + 1 ≤ pg_y109.2.2.2.2.2.1 → ev_Snd l pg_TB pg_cl pg_lay pg_F pg_mt i) : ev_Snd l pg_TB pg_cl pg_lay pg_F pg_mt 109 :=
  ev_meth (y := pg_y109) rfl (by decide +kernel) pg_w109 pg_tb pg_Cl (ev_tl pg_t109) (ev_ends_ok pg_e109).1 (ev_ends_ok pg_e109).2.1 (ev_ends_ok pg_e109).2.2.1 (ev_nothr_ok (by decide)) (fun _ _ _ _ _ _ _ _ _ h hm => absurd hm List.not_mem_nil) pr_109 ih
theorem pg_e110 : ev_ends pg_y110 pg_t110 = true := by decide +kernel
theorem pg_m110 (ih : ∀ i z, pg_mt i = some z → z.2.2.2.2.2.1 + 1 ≤ pg_y110.2.2.2.2.2.1 → ev_Snd l pg_TB pg_cl pg_lay pg_F pg_mt i) : ev_Snd l pg_TB pg_cl pg_lay pg_F pg_mt 110 :=
  ev_meth (y := pg_y110) rfl (by decide +kernel) pg_w110 pg_tb pg_Cl (ev_tl pg_t110) (ev_ends_ok pg_e110).1 (ev_ends_ok pg_e110).2.1 (ev_ends_ok pg_e110).2.2.1 (ev_nothr_ok (by decide)) (fun _ _ _ _ _ _ _ _ _ h hm => absurd hm List.not_mem_nil) pr_110 ih
theorem pg_e111 : ev_ends pg_y111 pg_t111 = true := by decide +kernel
theorem pg_m111 (ih : ∀ i z, pg_mt i = some z → z.2.2.2.2.2.1 + 1 ≤ pg_y111.2.2.2.2.2.1 → ev_Snd l pg_TB pg_cl pg_lay pg_F pg_mt i) : ev_Snd l pg_TB pg_cl pg_lay pg_F pg_mt 111 :=
  ev_meth (y := pg_y111) rfl (by decide +kernel) pg_w111 pg_tb pg_Cl (ev_tl pg_t111) (ev_ends_ok pg_e111).1 (ev_ends_ok pg_e111).2.1 (ev_ends_ok pg_e111).2.2.1 (ev_nothr_ok (by decide)) (fun _ _ _ _ _ _ _ _ _ h hm => absurd hm List.not_mem_nil) pr_111 ih
theorem pg_e112 : ev_ends pg_y112 pg_t112 = true := by decide +kernel
theorem pg_m112 (ih : ∀ i z, pg_mt i = some z → z.2.2.2.2.2.1 + 1 ≤ pg_y112.2.2.2.2.2.1 → ev_Snd l pg_TB pg_cl pg_lay pg_F pg_mt i) : ev_Snd l pg_TB pg_cl pg_lay pg_F pg_mt 112 :=
  ev_meth (y := pg_y112) rfl (by decide +kernel) pg_w112 pg_tb pg_Cl (ev_tl pg_t112) (ev_ends_ok pg_e112).1 (ev_ends_ok pg_e112).2.1 (ev_ends_ok pg_e112).2.2.1 (ev_nothr_ok (by decide)) (fun _ _ _ _ _ _ _ _ _ h hm => absurd hm List.not_mem_nil) pr_112 ih
theorem pg_e113 : ev_ends pg_y113 pg_t113 = true := by decide +kernel
theorem pg_m113 (ih : ∀ i z, pg_mt i = some z → z.2.2.2.2.2.1 + 1 ≤ pg_y113.2.2.2.2.2.1 → ev_Snd l pg_TB pg_cl pg_lay pg_F pg_mt i) : ev_Snd l pg_TB pg_cl pg_lay pg_F pg_mt 113 :=
  ev_meth (y := pg_y113) rfl (by decide +kernel) pg_w113 pg_tb pg_Cl (ev_tl pg_t113) (ev_ends_ok pg_e113).1 (ev_ends_ok pg_e113).2.1 (ev_ends_ok pg_e113).2.2.1 (ev_nothr_ok (by decide)) (fun _ _ _ _ _ _ _ _ _ h hm => absurd hm List.not_mem_nil) pr_113 ih
theorem pg_e114 : ev_ends pg_y114 pg_t114 = true := by decide +kernel
theorem pg_m114 (ih : ∀ i z, pg_mt i = some z → z.2.2.2.2.2.1 + 1 ≤ pg_y114.2.2.2.2.2.1 → ev_Snd l pg_TB pg_cl pg_lay pg_F pg_mt i) : ev_Snd l pg_TB pg_cl pg_lay pg_F pg_mt 114 :=
  ev_meth (y := pg_y114) rfl (by decide +kernel) pg_w114 pg_tb pg_Cl (ev_tl pg_t114) (ev_ends_ok pg_e114).1 (ev_ends_ok pg_e114).2.1 (ev_ends_ok pg_e114).2.2.1 (ev_nothr_ok (by decide)) (fun _ _ _ _ _ _ _ _ _ h hm => absurd hm List.not_mem_nil) pr_114 ih
theorem pg_e115 : ev_ends pg_y115 pg_t115 = true := by decide +kernel
theorem pg_m115 (ih : ∀ i z, pg_mt i = some z → z.2.2.2.2.2.1 + 1 ≤ pg_y115.2.2.2.2.2.1 → ev_Snd l pg_TB pg_cl pg_lay pg_F pg_mt i) : ev_Snd l pg_TB pg_cl pg_lay pg_F pg_mt 115 :=
  ev_meth (y := pg_y115) rfl (by decide +kernel) pg_w115 pg_tb pg_Cl (ev_tl pg_t115) (ev_ends_ok pg_e115).1 (ev_ends_ok pg_e115).2.1 (ev_ends_ok pg_e115).2.2.1 (ev_nothr_ok (by decide)) (fun _ _ _ _ _ _ _ _ _ h hm => absurd hm List.not_mem_nil) pr_115 ih
theorem pg_e116 : ev_ends pg_y116 pg_t116 = true := by decide +kernel
theorem pg_m116 (ih : ∀ i z, pg_mt i = some z → z.2.2.2.2.2.1 + 1 ≤ pg_y116.2.2.2.2.2.1 → ev_Snd l pg_TB pg_cl pg_lay pg_F pg_mt i) : ev_Snd l pg_TB pg_cl pg_lay pg_F pg_mt 116 :=
  ev_meth (y := pg_y116) rfl (by decide +kernel) pg_w116 pg_tb pg_Cl (ev_tl pg_t116) (ev_ends_ok pg_e116).1 (ev_ends_ok pg_e116).2.1 (ev_ends_ok pg_e116).2.2.1 (ev_nothr_ok (by decide)) (fun _ _ _ _ _ _ _ _ _ h hm => absurd hm List.not_mem_nil) pr_116 ih
theorem pg_e117 : ev_ends pg_y117 pg_t117 = true := by decide +kernel
theorem pg_m117 (ih : ∀ i z, pg_mt i = some z → z.2.2.2.2.2.1 + 1 ≤ pg_y117.2.2.2.2.2.1 → ev_Snd l pg_TB pg_cl pg_lay pg_F pg_mt i) : ev_Snd l pg_TB pg_cl pg_lay pg_F pg_mt 117 :=
  ev_meth (y := pg_y117) rfl (by decide +kernel) pg_w117 pg_tb pg_Cl (ev_tl pg_t117) (ev_ends_ok pg_e117).1 (ev_ends_ok pg_e117).2.1 (ev_ends_ok pg_e117).2.2.1 (ev_nothr_ok (by decide)) (fun _ _ _ _ _ _ _ _ _ h hm => absurd hm List.not_mem_nil) pr_117 ih
theorem pg_e118 : ev_ends pg_y118 pg_t118 = true := by decide +kernel
theorem pg_m118 (ih : ∀ i z, pg_mt i = some z → z.2.2.2.2.2.1 + 1 ≤ pg_y118.2.2.2.2.2.1 → ev_Snd l pg_TB pg_cl pg_lay pg_F pg_mt i) : ev_Snd l pg_TB pg_cl pg_lay pg_F pg_mt 118 :=
  ev_meth (y := pg_y118) rfl (by decide +kernel) pg_w118 pg_tb pg_Cl (ev_tl pg_t118) (ev_ends_ok pg_e118).1 (ev_ends_ok pg_e118).2.1 (ev_ends_ok pg_e118).2.2.1 (ev_nothr_ok (by decide)) (fun _ _ _ _ _ _ _ _ _ h hm => absurd hm List.not_mem_nil) pr_118 ih
theorem pg_e119 : ev_ends pg_y119 pg_t119 = true := by decide +kernel
theorem pg_m119 (ih : ∀ i z, pg_mt i = some z → z.2.2.2.2.2.1 + 1 ≤ pg_y119.2.2.2.2.2.1 → ev_Snd l pg_TB pg_cl pg_lay pg_F pg_mt i) : ev_Snd l pg_TB pg_cl pg_lay pg_F pg_mt 119 :=
  ev_meth (y := pg_y119) rfl (by decide +kernel) pg_w119 pg_tb pg_Cl (ev_tl pg_t119) (ev_ends_ok pg_e119).1 (ev_ends_ok pg_e119).2.1 (ev_ends_ok pg_e119).2.2.1 (ev_nothr_ok (by decide)) (fun _ _ _ _ _ _ _ _ _ h hm => absurd hm List.not_mem_nil) pr_119 ih
theorem pg_e120 : ev_ends pg_y120 pg_t120 = true := by decide +kernel
theorem pg_m120 (ih : ∀ i z, pg_mt i = some z → z.2.2.2.2.2.1 + 1 ≤ pg_y120.2.2.2.2.2.1 → ev_Snd l pg_TB pg_cl pg_lay pg_F pg_mt i) : ev_Snd l pg_TB pg_cl pg_lay pg_F pg_mt 120 :=
  ev_meth (y := pg_y120) rfl (by decide +kernel) pg_w120 pg_tb pg_Cl (ev_tl pg_t120) (ev_ends_ok pg_e120).1 (ev_ends_ok pg_e120).2.1 (ev_ends_ok pg_e120).2.2.1 (ev_nothr_ok (by decide)) (fun _ _ _ _ _ _ _ _ _ h hm => absurd hm List.not_mem_nil) pr_120 ih
theorem pg_e121 : ev_ends pg_y121 pg_t121 = true := by decide +kernel
theorem pg_m121 (ih : ∀ i z, pg_mt i = some z → z.2.2.2.2.2.1 + 1 ≤ pg_y121.2.2.2.2.2.1 → ev_Snd l pg_TB pg_cl pg_lay pg_F pg_mt i) : ev_Snd l pg_TB pg_cl pg_lay pg_F pg_mt 121 :=
  ev_meth (y := pg_y121) rfl (by decide +kernel) pg_w121 pg_tb pg_Cl (ev_tl pg_t121) (ev_ends_ok pg_e121).1 (ev_ends_ok pg_e121).2.1 (ev_ends_ok pg_e121).2.2.1 (ev_nothr_ok (by decide)) (fun _ _ _ _ _ _ _ _ _ h hm => absurd hm List.not_mem_nil) pr_121 ih
theorem pg_e122 : ev_ends pg_y122 pg_t122 = true := by decide +kernel
theorem pg_m122 (ih : ∀ i z, pg_mt i = some z → z.2.2.2.2.2.1 + 1 ≤ pg_y122.2.2.2.2.2.1 → ev_Snd l pg_TB pg_cl pg_lay pg_F pg_mt i) : ev_Snd l pg_TB pg_cl pg_lay pg_F pg_mt 122 :=
  ev_meth (y := pg_y122) rfl (by decide +kernel) pg_w122 pg_tb pg_Cl (ev_tl pg_t122) (ev_ends_ok pg_e122).1 (ev_ends_ok pg_e122).2.1 (ev_ends_ok pg_e122).2.2.1 (ev_nothr_ok (by decide)) (fun _ _ _ _ _ _ _ _ _ h hm => absurd hm List.not_mem_nil) pr_122 ih
theorem pg_e123 : ev_ends pg_y123 pg_t123 = true := by decide +kernel
theorem pg_m123 (ih : ∀ i z, pg_mt i = some z → z.2.2.2.2.2.1 + 1 ≤ pg_y123.2.2.2.2.2.1 → ev_Snd l pg_TB pg_cl pg_lay pg_F pg_mt i) : ev_Snd l pg_TB pg_cl pg_lay pg_F pg_mt 123 :=
  ev_meth (y := pg_y123) rfl (by decide +kernel) pg_w123 pg_tb pg_Cl (ev_tl pg_t123) (ev_ends_ok pg_e123).1 (ev_ends_ok pg_e123).2.1 (ev_ends_ok pg_e123).2.2.1 (ev_nothr_ok (by decide)) (fun _ _ _ _ _ _ _ _ _ h hm => absurd hm List.not_mem_nil) pr_123 ih
theorem pg_e124 : ev_ends pg_y124 pg_t124 = true := by decide +kernel
theorem pg_m124 (ih : ∀ i z, pg_mt i = some z → z.2.2.2.2.2.1 + 1 ≤ pg_y124.2.2.2.2.2.1 → ev_Snd l pg_TB pg_cl pg_lay pg_F pg_mt i) : ev_Snd l pg_TB pg_cl pg_lay pg_F pg_mt 124 :=
  ev_meth (y := pg_y124) rfl (by decide +kernel) pg_w124 pg_tb pg_Cl (ev_tl pg_t124) (ev_ends_ok pg_e124).1 (ev_ends_ok pg_e124).2.1 (ev_ends_ok pg_e124).2.2.1 (ev_nothr_ok (by decide)) (fun _ _ _ _ _ _ _ _ _ h hm => absurd hm List.not_mem_nil) pr_124 ih
theorem pg_e125 : ev_ends pg_y125 pg_t125 = true := by decide +kernel
theorem pg_m125 (ih : ∀ i z, pg_mt i = some z → z.2.2.2.2.2.1 + 1 ≤ pg_y125.2.2.2.2.2.1 → ev_Snd l pg_TB pg_cl pg_lay pg_F pg_mt i) : ev_Snd l pg_TB pg_cl pg_lay pg_F pg_mt 125 :=
  ev_meth (y := pg_y125) rfl (by decide +kernel) pg_w125 pg_tb pg_Cl (ev_tl pg_t125) (ev_ends_ok pg_e125).1 (ev_ends_ok pg_e125).2.1 (ev_ends_ok pg_e125).2.2.1 (ev_nothr_ok (by decide)) (fun _ _ _ _ _ _ _ _ _ h hm => absurd hm List.not_mem_nil) pr_125 ih
theorem pg_e126 : ev_ends pg_y126 pg_t126 = true := by decide +kernel
theorem pg_m126 (hfl : l.flags = pinnedFlags ++ [noTraceFlag]) (ih : ∀ i z, pg_mt i = some z → z.2.2.2.2.2.1 + 1 ≤ pg_y126.2.2.2.2.2.1 → ev_Snd l pg_TB pg_cl pg_lay pg_F pg_mt i) : ev_Snd l pg_TB pg_cl pg_lay pg_F pg_mt 126 :=
  ev_meth (y := pg_y126) rfl (by decide +kernel) pg_w126 pg_tb pg_Cl (ev_tl pg_t126) (ev_ends_ok pg_e126).1 (ev_ends_ok pg_e126).2.1 (ev_ends_ok pg_e126).2.2.1 (fun pc k g => ⟨(ev_ends_ok pg_e126).2.2.2 pc k g, by
    have hm := ev_tl_mem g
    simp only [pg_t126, List.mem_cons, Prod.mk.injEq, List.not_mem_nil, or_false] at hm
    rcases hm with ⟨hp, hk⟩ | ⟨hp, hk⟩
    · obtain rfl : k = 0 := by omega
      subst hp
      exact pg_s126_7 hfl
    · omega⟩) (fun _ _ _ _ _ _ _ _ _ h hm => absurd hm List.not_mem_nil) pr_126 ih
theorem pg_e127 : ev_ends pg_y127 pg_t127 = true := by decide +kernel
theorem pg_m127 (hfl : l.flags = pinnedFlags ++ [noTraceFlag]) (ih : ∀ i z, pg_mt i = some z → z.2.2.2.2.2.1 + 1 ≤ pg_y127.2.2.2.2.2.1 → ev_Snd l pg_TB pg_cl pg_lay pg_F pg_mt i) : ev_Snd l pg_TB pg_cl pg_lay pg_F pg_mt 127 :=
  ev_meth (y := pg_y127) rfl (by decide +kernel) pg_w127 pg_tb pg_Cl (ev_tl pg_t127) (ev_ends_ok pg_e127).1 (ev_ends_ok pg_e127).2.1 (ev_ends_ok pg_e127).2.2.1 (fun pc k g => ⟨(ev_ends_ok pg_e127).2.2.2 pc k g, by
    have hm := ev_tl_mem g
    simp only [pg_t127, List.mem_cons, Prod.mk.injEq, List.not_mem_nil, or_false] at hm
    rcases hm with ⟨hp, hk⟩ | ⟨hp, hk⟩ | ⟨hp, hk⟩ | ⟨hp, hk⟩
    · obtain rfl : k = 0 := by omega
      subst hp
      exact pg_s127_17 hfl
    · omega
    · omega
    · omega⟩) (fun _ _ _ _ _ _ _ _ _ h hm => absurd hm List.not_mem_nil) pr_127 ih
theorem pg_e128 : ev_ends pg_y128 pg_t128 = true := by decide +kernel
theorem pg_m128 (hfl : l.flags = pinnedFlags ++ [noTraceFlag]) (ih : ∀ i z, pg_mt i = some z → z.2.2.2.2.2.1 + 1 ≤ pg_y128.2.2.2.2.2.1 → ev_Snd l pg_TB pg_cl pg_lay pg_F pg_mt i) : ev_Snd l pg_TB pg_cl pg_lay pg_F pg_mt 128 :=
  ev_meth (y := pg_y128) rfl (by decide +kernel) pg_w128 pg_tb pg_Cl (ev_tl pg_t128) (ev_ends_ok pg_e128).1 (ev_ends_ok pg_e128).2.1 (ev_ends_ok pg_e128).2.2.1 (fun pc k g => ⟨(ev_ends_ok pg_e128).2.2.2 pc k g, by
    have hm := ev_tl_mem g
    simp only [pg_t128, List.mem_cons, Prod.mk.injEq, List.not_mem_nil, or_false] at hm
    rcases hm with ⟨hp, hk⟩ | ⟨hp, hk⟩ | ⟨hp, hk⟩ | ⟨hp, hk⟩
    · obtain rfl : k = 0 := by omega
      subst hp
      exact pg_s128_11 hfl
    · obtain rfl : k = 1 := by omega
      subst hp
      exact pg_s128_31 hfl
    · omega
    · omega⟩) (fun _ _ _ _ _ _ _ _ _ h hm => absurd hm List.not_mem_nil) pr_128 ih
theorem pg_e129 : ev_ends pg_y129 pg_t129 = true := by decide +kernel
theorem pg_m129 (hfl : l.flags = pinnedFlags ++ [noTraceFlag]) (ih : ∀ i z, pg_mt i = some z → z.2.2.2.2.2.1 + 1 ≤ pg_y129.2.2.2.2.2.1 → ev_Snd l pg_TB pg_cl pg_lay pg_F pg_mt i) : ev_Snd l pg_TB pg_cl pg_lay pg_F pg_mt 129 :=
  ev_meth (y := pg_y129) rfl (by decide +kernel) pg_w129 pg_tb pg_Cl (ev_tl pg_t129) (ev_ends_ok pg_e129).1 (ev_ends_ok pg_e129).2.1 (ev_ends_ok pg_e129).2.2.1 (fun pc k g => ⟨(ev_ends_ok pg_e129).2.2.2 pc k g, by
    have hm := ev_tl_mem g
    simp only [pg_t129, List.mem_cons, Prod.mk.injEq, List.not_mem_nil, or_false] at hm
    rcases hm with ⟨hp, hk⟩ | ⟨hp, hk⟩ | ⟨hp, hk⟩ | ⟨hp, hk⟩
    · obtain rfl : k = 0 := by omega
      subst hp
      exact pg_s129_7 hfl
    · obtain rfl : k = 1 := by omega
      subst hp
      exact pg_s129_27 hfl
    · omega
    · omega⟩) (fun _ _ _ _ _ _ _ _ _ h hm => absurd hm List.not_mem_nil) pr_129 ih
theorem pg_e130 : ev_ends pg_y130 pg_t130 = true := by decide +kernel
theorem pg_m130 (hfl : l.flags = pinnedFlags ++ [noTraceFlag]) (ih : ∀ i z, pg_mt i = some z → z.2.2.2.2.2.1 + 1 ≤ pg_y130.2.2.2.2.2.1 → ev_Snd l pg_TB pg_cl pg_lay pg_F pg_mt i) : ev_Snd l pg_TB pg_cl pg_lay pg_F pg_mt 130 :=
  ev_meth (y := pg_y130) rfl (by decide +kernel) pg_w130 pg_tb pg_Cl (ev_tl pg_t130) (ev_ends_ok pg_e130).1 (ev_ends_ok pg_e130).2.1 (ev_ends_ok pg_e130).2.2.1 (fun pc k g => ⟨(ev_ends_ok pg_e130).2.2.2 pc k g, by
    have hm := ev_tl_mem g
    simp only [pg_t130, List.mem_cons, Prod.mk.injEq, List.not_mem_nil, or_false] at hm
    rcases hm with ⟨hp, hk⟩ | ⟨hp, hk⟩
    · obtain rfl : k = 0 := by omega
      subst hp
      exact pg_s130_15 hfl
    · omega⟩) (fun _ _ _ _ _ _ _ _ _ h hm => absurd hm List.not_mem_nil) pr_130 ih
theorem pg_e131 : ev_ends pg_y131 pg_t131 = true := by decide +kernel
theorem pg_m131 (hfl : l.flags = pinnedFlags ++ [noTraceFlag]) (ih : ∀ i z, pg_mt i = some z → z.2.2.2.2.2.1 + 1 ≤ pg_y131.2.2.2.2.2.1 → ev_Snd l pg_TB pg_cl pg_lay pg_F pg_mt i) : ev_Snd l pg_TB pg_cl pg_lay pg_F pg_mt 131 :=
  ev_meth (y := pg_y131) rfl (by decide +kernel) pg_w131 pg_tb pg_Cl (ev_tl pg_t131) (ev_ends_ok pg_e131).1 (ev_ends_ok pg_e131).2.1 (ev_ends_ok pg_e131).2.2.1 (fun pc k g => ⟨(ev_ends_ok pg_e131).2.2.2 pc k g, by
    have hm := ev_tl_mem g
    simp only [pg_t131, List.mem_cons, Prod.mk.injEq, List.not_mem_nil, or_false] at hm
    rcases hm with ⟨hp, hk⟩ | ⟨hp, hk⟩
    · obtain rfl : k = 0 := by omega
      subst hp
      exact pg_s131_18 hfl
    · omega⟩) (fun _ _ _ _ _ _ _ _ _ h hm => absurd hm List.not_mem_nil) pr_131 ih
theorem pg_e132 : ev_ends pg_y132 pg_t132 = true := by decide +kernel
theorem pg_m132 (hfl : l.flags = pinnedFlags ++ [noTraceFlag]) (ih : ∀ i z, pg_mt i = some z → z.2.2.2.2.2.1 + 1 ≤ pg_y132.2.2.2.2.2.1 → ev_Snd l pg_TB pg_cl pg_lay pg_F pg_mt i) : ev_Snd l pg_TB pg_cl pg_lay pg_F pg_mt 132 :=
  ev_meth (y := pg_y132) rfl (by decide +kernel) pg_w132 pg_tb pg_Cl (ev_tl pg_t132) (ev_ends_ok pg_e132).1 (ev_ends_ok pg_e132).2.1 (ev_ends_ok pg_e132).2.2.1 (fun pc k g => ⟨(ev_ends_ok pg_e132).2.2.2 pc k g, by
    have hm := ev_tl_mem g
    simp only [pg_t132, List.mem_cons, Prod.mk.injEq, List.not_mem_nil, or_false] at hm
    rcases hm with ⟨hp, hk⟩ | ⟨hp, hk⟩ | ⟨hp, hk⟩ | ⟨hp, hk⟩
    · obtain rfl : k = 0 := by omega
      subst hp
      exact pg_s132_11 hfl
    · obtain rfl : k = 1 := by omega
      subst hp
      exact pg_s132_31 hfl
    · omega
    · omega⟩) (fun _ _ _ _ _ _ _ _ _ h hm => absurd hm List.not_mem_nil) pr_132 ih
theorem pg_e133 : ev_ends pg_y133 pg_t133 = true := by decide +kernel
theorem pg_m133 (hfl : l.flags = pinnedFlags ++ [noTraceFlag]) (ih : ∀ i z, pg_mt i = some z → z.2.2.2.2.2.1 + 1 ≤ pg_y133.2.2.2.2.2.1 → ev_Snd l pg_TB pg_cl pg_lay pg_F pg_mt i) : ev_Snd l pg_TB pg_cl pg_lay pg_F pg_mt 133 :=
  ev_meth (y := pg_y133) rfl (by decide +kernel) pg_w133 pg_tb pg_Cl (ev_tl pg_t133) (ev_ends_ok pg_e133).1 (ev_ends_ok pg_e133).2.1 (ev_ends_ok pg_e133).2.2.1 (fun pc k g => ⟨(ev_ends_ok pg_e133).2.2.2 pc k g, by
    have hm := ev_tl_mem g
    simp only [pg_t133, List.mem_cons, Prod.mk.injEq, List.not_mem_nil, or_false] at hm
    rcases hm with ⟨hp, hk⟩ | ⟨hp, hk⟩ | ⟨hp, hk⟩ | ⟨hp, hk⟩ | ⟨hp, hk⟩
    · obtain rfl : k = 0 := by omega
      subst hp
      exact pg_s133_28 hfl
    · obtain rfl : k = 1 := by omega
      subst hp
      exact pg_s133_48 hfl
    · omega
    · omega
    · omega⟩) (fun _ _ _ _ _ _ _ _ _ h hm => absurd hm List.not_mem_nil) pr_133 ih
theorem pg_e134 : ev_ends pg_y134 pg_t134 = true := by decide +kernel
theorem pg_m134 (hfl : l.flags = pinnedFlags ++ [noTraceFlag]) (ih : ∀ i z, pg_mt i = some z → z.2.2.2.2.2.1 + 1 ≤ pg_y134.2.2.2.2.2.1 → ev_Snd l pg_TB pg_cl pg_lay pg_F pg_mt i) : ev_Snd l pg_TB pg_cl pg_lay pg_F pg_mt 134 :=
  ev_meth (y := pg_y134) rfl (by decide +kernel) pg_w134 pg_tb pg_Cl (ev_tl pg_t134) (ev_ends_ok pg_e134).1 (ev_ends_ok pg_e134).2.1 (ev_ends_ok pg_e134).2.2.1 (fun pc k g => ⟨(ev_ends_ok pg_e134).2.2.2 pc k g, by
    have hm := ev_tl_mem g
    simp only [pg_t134, List.mem_cons, Prod.mk.injEq, List.not_mem_nil, or_false] at hm
    rcases hm with ⟨hp, hk⟩ | ⟨hp, hk⟩
    · obtain rfl : k = 2 := by omega
      subst hp
      exact pg_s134_17 hfl
    · omega⟩) (fun _ _ _ _ _ _ _ _ _ h hm => absurd hm List.not_mem_nil) pr_134 ih
theorem pg_e135 : ev_ends pg_y135 pg_t135 = true := by decide +kernel
theorem pg_m135 (ih : ∀ i z, pg_mt i = some z → z.2.2.2.2.2.1 + 1 ≤ pg_y135.2.2.2.2.2.1 → ev_Snd l pg_TB pg_cl pg_lay pg_F pg_mt i) : ev_Snd l pg_TB pg_cl pg_lay pg_F pg_mt 135 :=
  ev_meth (y := pg_y135) rfl (by decide +kernel) pg_w135 pg_tb pg_Cl (ev_tl pg_t135) (ev_ends_ok pg_e135).1 (ev_ends_ok pg_e135).2.1 (ev_ends_ok pg_e135).2.2.1 (ev_nothr_ok (by decide)) (fun _ _ _ _ _ _ _ _ _ h hm => absurd hm List.not_mem_nil) pr_135 ih
theorem pg_e136 : ev_ends pg_y136 pg_t136 = true := by decide +kernel
theorem pg_m136 (ih : ∀ i z, pg_mt i = some z → z.2.2.2.2.2.1 + 1 ≤ pg_y136.2.2.2.2.2.1 → ev_Snd l pg_TB pg_cl pg_lay pg_F pg_mt i) : ev_Snd l pg_TB pg_cl pg_lay pg_F pg_mt 136 :=
  ev_meth (y := pg_y136) rfl (by decide +kernel) pg_w136 pg_tb pg_Cl (ev_tl pg_t136) (ev_ends_ok pg_e136).1 (ev_ends_ok pg_e136).2.1 (ev_ends_ok pg_e136).2.2.1 (ev_nothr_ok (by decide)) (fun e s m c args ha hown hts hex => pg_h136 e s m c args ha hown hts hex) pr_136 ih
theorem pg_e137 : ev_ends pg_y137 pg_t137 = true := by decide +kernel
theorem pg_m137 (ih : ∀ i z, pg_mt i = some z → z.2.2.2.2.2.1 + 1 ≤ pg_y137.2.2.2.2.2.1 → ev_Snd l pg_TB pg_cl pg_lay pg_F pg_mt i) : ev_Snd l pg_TB pg_cl pg_lay pg_F pg_mt 137 :=
  ev_meth (y := pg_y137) rfl (by decide +kernel) pg_w137 pg_tb pg_Cl (ev_tl pg_t137) (ev_ends_ok pg_e137).1 (ev_ends_ok pg_e137).2.1 (ev_ends_ok pg_e137).2.2.1 (ev_nothr_ok (by decide)) (fun e s m c args ha hown hts hex => pg_h137 e s m c args ha hown hts hex) pr_137 ih
theorem pg_e138 : ev_ends pg_y138 pg_t138 = true := by decide +kernel
theorem pg_m138 (ih : ∀ i z, pg_mt i = some z → z.2.2.2.2.2.1 + 1 ≤ pg_y138.2.2.2.2.2.1 → ev_Snd l pg_TB pg_cl pg_lay pg_F pg_mt i) : ev_Snd l pg_TB pg_cl pg_lay pg_F pg_mt 138 :=
  ev_meth (y := pg_y138) rfl (by decide +kernel) pg_w138 pg_tb pg_Cl (ev_tl pg_t138) (ev_ends_ok pg_e138).1 (ev_ends_ok pg_e138).2.1 (ev_ends_ok pg_e138).2.2.1 (ev_nothr_ok (by decide)) (fun e s m c args ha hown hts hex => pg_h138 e s m c args ha hown hts hex) pr_138 ih
theorem pg_e139 : ev_ends pg_y139 pg_t139 = true := by decide +kernel
theorem pg_m139 (ih : ∀ i z, pg_mt i = some z → z.2.2.2.2.2.1 + 1 ≤ pg_y139.2.2.2.2.2.1 → ev_Snd l pg_TB pg_cl pg_lay pg_F pg_mt i) : ev_Snd l pg_TB pg_cl pg_lay pg_F pg_mt 139 :=
  ev_meth (y := pg_y139) rfl (by decide +kernel) pg_w139 pg_tb pg_Cl (ev_tl pg_t139) (ev_ends_ok pg_e139).1 (ev_ends_ok pg_e139).2.1 (ev_ends_ok pg_e139).2.2.1 (ev_nothr_ok (by decide)) (fun e s m c args ha hown hts hex => pg_h139 e s m c args ha hown hts hex) pr_139 ih
theorem pg_e140 : ev_ends pg_y140 pg_t140 = true := by decide +kernel
theorem pg_m140 (ih : ∀ i z, pg_mt i = some z → z.2.2.2.2.2.1 + 1 ≤ pg_y140.2.2.2.2.2.1 → ev_Snd l pg_TB pg_cl pg_lay pg_F pg_mt i) : ev_Snd l pg_TB pg_cl pg_lay pg_F pg_mt 140 :=
  ev_meth (y := pg_y140) rfl (by decide +kernel) pg_w140 pg_tb pg_Cl (ev_tl pg_t140) (ev_ends_ok pg_e140).1 (ev_ends_ok pg_e140).2.1 (ev_ends_ok pg_e140).2.2.1 (ev_nothr_ok (by decide)) (fun e s m c args ha hown hts hex => pg_h140 e s m c args ha hown hts hex) pr_140 ih
theorem pg_e141 : ev_ends pg_y141 pg_t141 = true := by decide +kernel
theorem pg_m141 (ih : ∀ i z, pg_mt i = some z → z.2.2.2.2.2.1 + 1 ≤ pg_y141.2.2.2.2.2.1 → ev_Snd l pg_TB pg_cl pg_lay pg_F pg_mt i) : ev_Snd l pg_TB pg_cl pg_lay pg_F pg_mt 141 :=
  ev_meth (y := pg_y141) rfl (by decide +kernel) pg_w141 pg_tb pg_Cl (ev_tl pg_t141) (ev_ends_ok pg_e141).1 (ev_ends_ok pg_e141).2.1 (ev_ends_ok pg_e141).2.2.1 (ev_nothr_ok (by decide)) (fun e s m c args ha hown hts hex => pg_h141 e s m c args ha hown hts hex) pr_141 ih
theorem pg_e142 : ev_ends pg_y142 pg_t142 = true := by decide +kernel
theorem pg_m142 (ih : ∀ i z, pg_mt i = some z → z.2.2.2.2.2.1 + 1 ≤ pg_y142.2.2.2.2.2.1 → ev_Snd l pg_TB pg_cl pg_lay pg_F pg_mt i) : ev_Snd l pg_TB pg_cl pg_lay pg_F pg_mt 142 :=
  ev_meth (y := pg_y142) rfl (by decide +kernel) pg_w142 pg_tb pg_Cl (ev_tl pg_t142) (ev_ends_ok pg_e142).1 (ev_ends_ok pg_e142).2.1 (ev_ends_ok pg_e142).2.2.1 (ev_nothr_ok (by decide)) (fun e s m c args ha hown hts hex => pg_h142 e s m c args ha hown hts hex) pr_142 ih
theorem pg_e143 : ev_ends pg_y143 pg_t143 = true := by decide +kernel
theorem pg_m143 (ih : ∀ i z, pg_mt i = some z → z.2.2.2.2.2.1 + 1 ≤ pg_y143.2.2.2.2.2.1 → ev_Snd l pg_TB pg_cl pg_lay pg_F pg_mt i) : ev_Snd l pg_TB pg_cl pg_lay pg_F pg_mt 143 :=
  ev_meth (y := pg_y143) rfl (by decide +kernel) pg_w143 pg_tb pg_Cl (ev_tl pg_t143) (ev_ends_ok pg_e143).1 (ev_ends_ok pg_e143).2.1 (ev_ends_ok pg_e143).2.2.1 (ev_nothr_ok (by decide)) (fun e s m c args ha hown hts hex => pg_h143 e s m c args ha hown hts hex) pr_143 ih
theorem pg_e144 : ev_ends pg_y144 pg_t144 = true := by decide +kernel
theorem pg_m144 (ih : ∀ i z, pg_mt i = some z → z.2.2.2.2.2.1 + 1 ≤ pg_y144.2.2.2.2.2.1 → ev_Snd l pg_TB pg_cl pg_lay pg_F pg_mt i) : ev_Snd l pg_TB pg_cl pg_lay pg_F pg_mt 144 :=
  ev_meth (y := pg_y144) rfl (by decide +kernel) pg_w144 pg_tb pg_Cl (ev_tl pg_t144) (ev_ends_ok pg_e144).1 (ev_ends_ok pg_e144).2.1 (ev_ends_ok pg_e144).2.2.1 (ev_nothr_ok (by decide)) (fun e s m c args ha hown hts hex => pg_h144 e s m c args ha hown hts hex) pr_144 ih
set_option maxRecDepth 100000 in
theorem pg_all (hfl : l.flags = pinnedFlags ++ [noTraceFlag]) : ∀ n j y, pg_mt j = some y → y.2.2.2.2.2.1 < n → ev_Snd l pg_TB pg_cl pg_lay pg_F pg_mt j := by
  intro n
  induction n with
  | zero => intro j y _ h; omega
  | succ n ih =>
    have key : ∀ j ∈ [0, 1, 2, 3, 4, 5, 6, 7, 8, 9, 10, 11, 12, 13, 14, 15, 16, 17, 18, 19, 20, 21, 22, 23, 24, 25, 26, 27, 28, 29, 30, 31, 32, 33, 34, 35, 36, 37, 38, 39, 40, 41, 42, 43, 44, 45, 46, 47, 48, 49, 50, 51, 52, 53, 54, 55, 56, 57, 58, 59, 60, 61, 62, 63, 64, 65, 66, 67, 68, 69, 70, 71, 72, 73, 74, 75, 76, 77, 78, 79, 80, 81, 82, 83, 84, 85, 86, 87, 88, 89, 90, 91, 92, 93, 94, 95, 96, 97, 98, 99, 100, 101, 102, 103, 104, 105, 106, 107, 108, 109, 110, 111, 112, 113, 114, 115, 116, 117, 118, 119, 120, 121, 122, 123, 124, 125, 126, 127, 128, 129, 130, 131, 132, 133, 134, 135, 136, 137, 138, 139, 140, 141, 142, 143, 144], ∀ y, pg_mt j = some y → y.2.2.2.2.2.1 < n + 1 → ev_Snd l pg_TB pg_cl pg_lay pg_F pg_mt j := by
      refine List.forall_mem_cons.mpr ⟨fun y hy hl => ?_, List.forall_mem_cons.mpr ⟨fun y hy hl => ?_, List.forall_mem_cons.mpr ⟨fun y hy hl => ?_, List.forall_mem_cons.mpr ⟨fun y hy hl => ?_, List.forall_mem_cons.mpr ⟨fun y hy hl => ?_, List.forall_mem_cons.mpr ⟨fun y hy hl => ?_, List.forall_mem_cons.mpr ⟨fun y hy hl => ?_, List.forall_mem_cons.mpr ⟨fun y hy hl => ?_, List.forall_mem_cons.mpr ⟨fun y hy hl => ?_, List.forall_mem_cons.mpr ⟨fun y hy hl => ?_, List.forall_mem_cons.mpr ⟨fun y hy hl => ?_, List.forall_mem_cons.mpr ⟨fun y hy hl => ?_, List.forall_mem_cons.mpr ⟨fun y hy hl => ?_, List.forall_mem_cons.mpr ⟨fun y hy hl => ?_, List.forall_mem_cons.mpr ⟨fun y hy hl => ?_, List.forall_mem_cons.mpr ⟨fun y hy hl => ?_, List.forall_mem_cons.mpr ⟨fun y hy hl => ?_, List.forall_mem_cons.mpr ⟨fun y hy hl => ?_, List.forall_mem_cons.mpr ⟨fun y hy hl => ?_, List.forall_mem_cons.mpr ⟨fun y hy hl => ?_, List.forall_mem_cons.mpr ⟨fun y hy hl => ?_, List.forall_mem_cons.mpr ⟨fun y hy hl => ?_, List.forall_mem_cons.mpr ⟨fun y hy hl => ?_, List.forall_mem_cons.mpr ⟨fun y hy hl => ?_, List.forall_mem_cons.mpr ⟨fun y hy hl => ?_, List.forall_mem_cons.mpr ⟨fun y hy hl => ?_, List.forall_mem_cons.mpr ⟨fun y hy hl => ?_, List.forall_mem_cons.mpr ⟨fun y hy hl => ?_, List.forall_mem_cons.mpr ⟨fun y hy hl => ?_, List.forall_mem_cons.mpr ⟨fun y hy hl => ?_, List.forall_mem_cons.mpr ⟨fun y hy hl => ?_, List.forall_mem_cons.mpr ⟨fun y hy hl => ?_, List.forall_mem_cons.mpr ⟨fun y hy hl => ?_, List.forall_mem_cons.mpr ⟨fun y hy hl => ?_, List.forall_mem_cons.mpr ⟨fun y hy hl => ?_, List.forall_mem_cons.mpr ⟨fun y hy hl => ?_, List.forall_mem_cons.mpr ⟨fun y hy hl => ?_, List.forall_mem_cons.mpr ⟨fun y hy hl => ?_, List.forall_mem_cons.mpr ⟨fun y hy hl => ?_, List.forall_mem_cons.mpr ⟨fun y hy hl => ?_, List.forall_mem_cons.mpr ⟨fun y hy hl => ?_, List.forall_mem_cons.mpr ⟨fun y hy hl => ?_, List.forall_mem_cons.mpr ⟨fun y hy hl => ?_, List.forall_mem_cons.mpr ⟨fun y hy hl => ?_, List.forall_mem_cons.mpr ⟨fun y hy hl => ?_, List.forall_mem_cons.mpr ⟨fun y hy hl => ?_, List.forall_mem_cons.mpr ⟨fun y hy hl => ?_, List.forall_mem_cons.mpr ⟨fun y hy hl => ?_, List.forall_mem_cons.mpr ⟨fun y hy hl => ?_, List.forall_mem_cons.mpr ⟨fun y hy hl => ?_, List.forall_mem_cons.mpr ⟨fun y hy hl => ?_, List.forall_mem_cons.mpr ⟨fun y hy hl => ?_, List.forall_mem_cons.mpr ⟨fun y hy hl => ?_, List.forall_mem_cons.mpr ⟨fun y hy hl => ?_, List.forall_mem_cons.mpr ⟨fun y hy hl => ?_, List.forall_mem_cons.mpr ⟨fun y hy hl => ?_, List.forall_mem_cons.mpr ⟨fun y hy hl => ?_, List.forall_mem_cons.mpr ⟨fun y hy hl => ?_, List.forall_mem_cons.mpr ⟨fun y hy hl => ?_, List.forall_mem_cons.mpr ⟨fun y hy hl => ?_, List.forall_mem_cons.mpr ⟨fun y hy hl => ?_, List.forall_mem_cons.mpr ⟨fun y hy hl => ?_, List.forall_mem_cons.mpr ⟨fun y hy hl => ?_, List.forall_mem_cons.mpr ⟨fun y hy hl => ?_, List.forall_mem_cons.mpr ⟨fun y hy hl => ?_, List.forall_mem_cons.mpr ⟨fun y hy hl => ?_, List.forall_mem_cons.mpr ⟨fun y hy hl => ?_, List.forall_mem_cons.mpr ⟨fun y hy hl => ?_, List.forall_mem_cons.mpr ⟨fun y hy hl => ?_, List.forall_mem_cons.mpr ⟨fun y hy hl => ?_, List.forall_mem_cons.mpr ⟨fun y hy hl => ?_, List.forall_mem_cons.mpr ⟨fun y hy hl => ?_, List.forall_mem_cons.mpr ⟨fun y hy hl => ?_, List.forall_mem_cons.mpr ⟨fun y hy hl => ?_, List.forall_mem_cons.mpr ⟨fun y hy hl => ?_, List.forall_mem_cons.mpr ⟨fun y hy hl => ?_, List.forall_mem_cons.mpr ⟨fun y hy hl => ?_, List.forall_mem_cons.mpr ⟨fun y hy hl => ?_, List.forall_mem_cons.mpr ⟨fun y hy hl => ?_, List.forall_mem_cons.mpr ⟨fun y hy hl => ?_, List.forall_mem_cons.mpr ⟨fun y hy hl => ?_, List.forall_mem_cons.mpr ⟨fun y hy hl => ?_, List.forall_mem_cons.mpr ⟨fun y hy hl => ?_, List.forall_mem_cons.mpr ⟨fun y hy hl => ?_, List.forall_mem_cons.mpr ⟨fun y hy hl => ?_, List.forall_mem_cons.mpr ⟨fun y hy hl => ?_, List.forall_mem_cons.mpr ⟨fun y hy hl => ?_, List.forall_mem_cons.mpr ⟨fun y hy hl => ?_, List.forall_mem_cons.mpr ⟨fun y hy hl => ?_, List.forall_mem_cons.mpr ⟨fun y hy hl => ?_, List.forall_mem_cons.mpr ⟨fun y hy hl => ?_, List.forall_mem_cons.mpr ⟨fun y hy hl => ?_, List.forall_mem_cons.mpr ⟨fun y hy hl => ?_, List.forall_mem_cons.mpr ⟨fun y hy hl => ?_, List.forall_mem_cons.mpr ⟨fun y hy hl => ?_, List.forall_mem_cons.mpr ⟨fun y hy hl => ?_, List.forall_mem_cons.mpr ⟨fun y hy hl => ?_, List.forall_mem_cons.mpr ⟨fun y hy hl => ?_, List.forall_mem_cons.mpr ⟨fun y hy hl => ?_, List.forall_mem_cons.mpr ⟨fun y hy hl => ?_, List.forall_mem_cons.mpr ⟨fun y hy hl => ?_, List.forall_mem_cons.mpr ⟨fun y hy hl => ?_, List.forall_mem_cons.mpr ⟨fun y hy hl => ?_, List.forall_mem_cons.mpr ⟨fun y hy hl => ?_, List.forall_mem_cons.mpr ⟨fun y hy hl => ?_, List.forall_mem_cons.mpr ⟨fun y hy hl => ?_, List.forall_mem_cons.mpr ⟨fun y hy hl => ?_, List.forall_mem_cons.mpr ⟨fun y hy hl => ?_, List.forall_mem_cons.mpr ⟨fun y hy hl => ?_, List.forall_mem_cons.mpr ⟨fun y hy hl => ?_, List.forall_mem_cons.mpr ⟨fun y hy hl => ?_, List.forall_mem_cons.mpr ⟨fun y hy hl => ?_, List.forall_mem_cons.mpr ⟨fun y hy hl => ?_, List.forall_mem_cons.mpr ⟨fun y hy hl => ?_, List.forall_mem_cons.mpr ⟨fun y hy hl => ?_, List.forall_mem_cons.mpr ⟨fun y hy hl => ?_, List.forall_mem_cons.mpr ⟨fun y hy hl => ?_, List.forall_mem_cons.mpr ⟨fun y hy hl => ?_, List.forall_mem_cons.mpr ⟨fun y hy hl => ?_, List.forall_mem_cons.mpr ⟨fun y hy hl => ?_, List.forall_mem_cons.mpr ⟨fun y hy hl => ?_, List.forall_mem_cons.mpr ⟨fun y hy hl => ?_, List.forall_mem_cons.mpr ⟨fun y hy hl => ?_, List.forall_mem_cons.mpr ⟨fun y hy hl => ?_, List.forall_mem_cons.mpr ⟨fun y hy hl => ?_, List.forall_mem_cons.mpr ⟨fun y hy hl => ?_, List.forall_mem_cons.mpr ⟨fun y hy hl => ?_, List.forall_mem_cons.mpr ⟨fun y hy hl => ?_, List.forall_mem_cons.mpr ⟨fun y hy hl => ?_, List.forall_mem_cons.mpr ⟨fun y hy hl => ?_, List.forall_mem_cons.mpr ⟨fun y hy hl => ?_, List.forall_mem_cons.mpr ⟨fun y hy hl => ?_, List.forall_mem_cons.mpr ⟨fun y hy hl => ?_, List.forall_mem_cons.mpr ⟨fun y hy hl => ?_, List.forall_mem_cons.mpr ⟨fun y hy hl => ?_, List.forall_mem_cons.mpr ⟨fun y hy hl => ?_, List.forall_mem_cons.mpr ⟨fun y hy hl => ?_, List.forall_mem_cons.mpr ⟨fun y hy hl => ?_, List.forall_mem_cons.mpr ⟨fun y hy hl => ?_, List.forall_mem_cons.mpr ⟨fun y hy hl => ?_, List.forall_mem_cons.mpr ⟨fun y hy hl => ?_, List.forall_mem_cons.mpr ⟨fun y hy hl => ?_, List.forall_mem_cons.mpr ⟨fun y hy hl => ?_, List.forall_mem_cons.mpr ⟨fun y hy hl => ?_, List.forall_mem_cons.mpr ⟨fun y hy hl => ?_, fun _ h => absurd h List.not_mem_nil⟩⟩⟩⟩⟩⟩⟩⟩⟩⟩⟩⟩⟩⟩⟩⟩⟩⟩⟩⟩⟩⟩⟩⟩⟩⟩⟩⟩⟩⟩⟩⟩⟩⟩⟩⟩⟩⟩⟩⟩⟩⟩⟩⟩⟩⟩⟩⟩⟩⟩⟩⟩⟩⟩⟩⟩⟩⟩⟩⟩⟩⟩⟩⟩⟩⟩⟩⟩⟩⟩⟩⟩⟩⟩⟩⟩⟩⟩⟩⟩⟩⟩⟩⟩⟩⟩⟩⟩⟩⟩⟩⟩⟩⟩⟩⟩⟩⟩⟩⟩⟩⟩⟩⟩⟩⟩⟩⟩⟩⟩⟩⟩⟩⟩⟩⟩⟩⟩⟩⟩⟩⟩⟩⟩⟩⟩⟩⟩⟩⟩⟩⟩⟩⟩⟩⟩⟩⟩⟩⟩⟩⟩⟩⟩⟩
      · cases hy; exact pg_m0 (fun i z hi hz => ih i z hi (by omega))
      · cases hy; exact pg_m1 (fun i z hi hz => ih i z hi (by omega))
      · cases hy; exact pg_m2 (fun i z hi hz => ih i z hi (by omega))
      · cases hy; exact pg_m3 (fun i z hi hz => ih i z hi (by omega))
      · cases hy; exact pg_m4 (fun i z hi hz => ih i z hi (by omega))
      · cases hy; exact pg_m5 (fun i z hi hz => ih i z hi (by omega))
      · cases hy; exact pg_m6 (fun i z hi hz => ih i z hi (by omega))
      · cases hy; exact pg_m7 (fun i z hi hz => ih i z hi (by omega))
      · cases hy; exact pg_m8 (fun i z hi hz => ih i z hi (by omega))
      · cases hy; exact pg_m9 (fun i z hi hz => ih i z hi (by omega))
      · cases hy; exact pg_m10 (fun i z hi hz => ih i z hi (by omega))
      · cases hy; exact pg_m11 (fun i z hi hz => ih i z hi (by omega))
      · cases hy; exact pg_m12 (fun i z hi hz => ih i z hi (by omega))
      · cases hy; exact pg_m13 (fun i z hi hz => ih i z hi (by omega))
      · cases hy; exact pg_m14 (fun i z hi hz => ih i z hi (by omega))
      · cases hy; exact pg_m15 (fun i z hi hz => ih i z hi (by omega))
      · cases hy; exact pg_m16 (fun i z hi hz => ih i z hi (by omega))
      · cases hy; exact pg_m17 (fun i z hi hz => ih i z hi (by omega))
      · cases hy; exact pg_m18 (fun i z hi hz => ih i z hi (by omega))
      · cases hy; exact pg_m19 (fun i z hi hz => ih i z hi (by omega))
      · cases hy; exact pg_m20 (fun i z hi hz => ih i z hi (by omega))
      · cases hy; exact pg_m21 (fun i z hi hz => ih i z hi (by omega))
      · cases hy; exact pg_m22 (fun i z hi hz => ih i z hi (by omega))
      · cases hy; exact pg_m23 (fun i z hi hz => ih i z hi (by omega))
      · cases hy; exact pg_m24 (fun i z hi hz => ih i z hi (by omega))
      · cases hy; exact pg_m25 (fun i z hi hz => ih i z hi (by omega))
      · cases hy; exact pg_m26 (fun i z hi hz => ih i z hi (by omega))
      · cases hy; exact pg_m27 (fun i z hi hz => ih i z hi (by omega))
      · cases hy; exact pg_m28 (fun i z hi hz => ih i z hi (by omega))
      · cases hy; exact pg_m29 (fun i z hi hz => ih i z hi (by omega))
      · cases hy; exact pg_m30 (fun i z hi hz => ih i z hi (by omega))
      · cases hy; exact pg_m31 (fun i z hi hz => ih i z hi (by omega))
      · cases hy; exact pg_m32 (fun i z hi hz => ih i z hi (by omega))
      · cases hy; exact pg_m33 (fun i z hi hz => ih i z hi (by omega))
      · cases hy; exact pg_m34 (fun i z hi hz => ih i z hi (by omega))
      · cases hy; exact pg_m35 (fun i z hi hz => ih i z hi (by omega))
      · cases hy; exact pg_m36 (fun i z hi hz => ih i z hi (by omega))
      · cases hy; exact pg_m37 (fun i z hi hz => ih i z hi (by omega))
      · cases hy; exact pg_m38 (fun i z hi hz => ih i z hi (by omega))
      · cases hy; exact pg_m39 (fun i z hi hz => ih i z hi (by omega))
      · cases hy; exact pg_m40 (fun i z hi hz => ih i z hi (by omega))
      · cases hy; exact pg_m41 (fun i z hi hz => ih i z hi (by omega))
      · cases hy; exact pg_m42 (fun i z hi hz => ih i z hi (by omega))
      · cases hy; exact pg_m43 (fun i z hi hz => ih i z hi (by omega))
      · cases hy; exact pg_m44 (fun i z hi hz => ih i z hi (by omega))
      · cases hy; exact pg_m45 (fun i z hi hz => ih i z hi (by omega))
      · cases hy; exact pg_m46 (fun i z hi hz => ih i z hi (by omega))
      · cases hy; exact pg_m47 (fun i z hi hz => ih i z hi (by omega))
      · cases hy; exact pg_m48 (fun i z hi hz => ih i z hi (by omega))
      · cases hy; exact pg_m49 (fun i z hi hz => ih i z hi (by omega))
      · cases hy; exact pg_m50 (fun i z hi hz => ih i z hi (by omega))
      · cases hy; exact pg_m51 (fun i z hi hz => ih i z hi (by omega))
      · cases hy; exact pg_m52 (fun i z hi hz => ih i z hi (by omega))
      · cases hy; exact pg_m53 (fun i z hi hz => ih i z hi (by omega))
      · cases hy; exact pg_m54 (fun i z hi hz => ih i z hi (by omega))
      · cases hy; exact pg_m55 (fun i z hi hz => ih i z hi (by omega))
      · cases hy; exact pg_m56 (fun i z hi hz => ih i z hi (by omega))
      · cases hy; exact pg_m57 (fun i z hi hz => ih i z hi (by omega))
      · cases hy; exact pg_m58 (fun i z hi hz => ih i z hi (by omega))
      · cases hy; exact pg_m59 (fun i z hi hz => ih i z hi (by omega))
      · cases hy; exact pg_m60 (fun i z hi hz => ih i z hi (by omega))
      · cases hy; exact pg_m61 (fun i z hi hz => ih i z hi (by omega))
      · cases hy; exact pg_m62 (fun i z hi hz => ih i z hi (by omega))
      · cases hy; exact pg_m63 (fun i z hi hz => ih i z hi (by omega))
      · cases hy; exact pg_m64 (fun i z hi hz => ih i z hi (by omega))
      · cases hy; exact pg_m65 (fun i z hi hz => ih i z hi (by omega))
      · cases hy; exact pg_m66 (fun i z hi hz => ih i z hi (by omega))
      · cases hy; exact pg_m67 (fun i z hi hz => ih i z hi (by omega))
      · cases hy; exact pg_m68 (fun i z hi hz => ih i z hi (by omega))
      · cases hy; exact pg_m69 (fun i z hi hz => ih i z hi (by omega))
      · cases hy; exact pg_m70 (fun i z hi hz => ih i z hi (by omega))
      · cases hy; exact pg_m71 (fun i z hi hz => ih i z hi (by omega))
      · cases hy; exact pg_m72 (fun i z hi hz => ih i z hi (by omega))
      · cases hy; exact pg_m73 (fun i z hi hz => ih i z hi (by omega))
      · cases hy; exact pg_m74 (fun i z hi hz => ih i z hi (by omega))
      · cases hy; exact pg_m75 (fun i z hi hz => ih i z hi (by omega))
      · cases hy; exact pg_m76 (fun i z hi hz => ih i z hi (by omega))
      · cases hy; exact pg_m77 (fun i z hi hz => ih i z hi (by omega))
      · cases hy; exact pg_m78 (fun i z hi hz => ih i z hi (by omega))
      · cases hy; exact pg_m79 (fun i z hi hz => ih i z hi (by omega))
      · cases hy; exact pg_m80 (fun i z hi hz => ih i z hi (by omega))
      · cases hy; exact pg_m81 (fun i z hi hz => ih i z hi (by omega))
      · cases hy; exact pg_m82 (fun i z hi hz => ih i z hi (by omega))
      · cases hy; exact pg_m83 (fun i z hi hz => ih i z hi (by omega))
      · cases hy; exact pg_m84 (fun i z hi hz => ih i z hi (by omega))
      · cases hy; exact pg_m85 (fun i z hi hz => ih i z hi (by omega))
      · cases hy; exact pg_m86 (fun i z hi hz => ih i z hi (by omega))
      · cases hy; exact pg_m87 (fun i z hi hz => ih i z hi (by omega))
      · cases hy; exact pg_m88 (fun i z hi hz => ih i z hi (by omega))
      · cases hy; exact pg_m89 (fun i z hi hz => ih i z hi (by omega))
      · cases hy; exact pg_m90 (fun i z hi hz => ih i z hi (by omega))
      · cases hy; exact pg_m91 (fun i z hi hz => ih i z hi (by omega))
      · cases hy; exact pg_m92 (fun i z hi hz => ih i z hi (by omega))
      · cases hy; exact pg_m93 (fun i z hi hz => ih i z hi (by omega))
      · cases hy; exact pg_m94 (fun i z hi hz => ih i z hi (by omega))
      · cases hy; exact pg_m95 (fun i z hi hz => ih i z hi (by omega))
      · cases hy; exact pg_m96 (fun i z hi hz => ih i z hi (by omega))
      · cases hy; exact pg_m97 (fun i z hi hz => ih i z hi (by omega))
      · cases hy; exact pg_m98 (fun i z hi hz => ih i z hi (by omega))
      · cases hy; exact pg_m99 (fun i z hi hz => ih i z hi (by omega))
      · cases hy; exact pg_m100 (fun i z hi hz => ih i z hi (by omega))
      · cases hy; exact pg_m101 (fun i z hi hz => ih i z hi (by omega))
      · cases hy; exact pg_m102 (fun i z hi hz => ih i z hi (by omega))
      · cases hy; exact pg_m103 (fun i z hi hz => ih i z hi (by omega))
      · cases hy; exact pg_m104 (fun i z hi hz => ih i z hi (by omega))
      · cases hy; exact pg_m105 (fun i z hi hz => ih i z hi (by omega))
      · cases hy; exact pg_m106 (fun i z hi hz => ih i z hi (by omega))
      · cases hy; exact pg_m107 (fun i z hi hz => ih i z hi (by omega))
      · cases hy; exact pg_m108 (fun i z hi hz => ih i z hi (by omega))
      · cases hy; exact pg_m109 (fun i z hi hz => ih i z hi (by omega))
      · cases hy; exact pg_m110 (fun i z hi hz => ih i z hi (by omega))
      · cases hy; exact pg_m111 (fun i z hi hz => ih i z hi (by omega))
      · cases hy; exact pg_m112 (fun i z hi hz => ih i z hi (by omega))
      · cases hy; exact pg_m113 (fun i z hi hz => ih i z hi (by omega))
      · cases hy; exact pg_m114 (fun i z hi hz => ih i z hi (by omega))
      · cases hy; exact pg_m115 (fun i z hi hz => ih i z hi (by omega))
      · cases hy; exact pg_m116 (fun i z hi hz => ih i z hi (by omega))
      · cases hy; exact pg_m117 (fun i z hi hz => ih i z hi (by omega))
      · cases hy; exact pg_m118 (fun i z hi hz => ih i z hi (by omega))
      · cases hy; exact pg_m119 (fun i z hi hz => ih i z hi (by omega))
      · cases hy; exact pg_m120 (fun i z hi hz => ih i z hi (by omega))
      · cases hy; exact pg_m121 (fun i z hi hz => ih i z hi (by omega))
      · cases hy; exact pg_m122 (fun i z hi hz => ih i z hi (by omega))
      · cases hy; exact pg_m123 (fun i z hi hz => ih i z hi (by omega))
      · cases hy; exact pg_m124 (fun i z hi hz => ih i z hi (by omega))
      · cases hy; exact pg_m125 (fun i z hi hz => ih i z hi (by omega))
      · cases hy; exact pg_m126 hfl (fun i z hi hz => ih i z hi (by omega))
      · cases hy; exact pg_m127 hfl (fun i z hi hz => ih i z hi (by omega))
      · cases hy; exact pg_m128 hfl (fun i z hi hz => ih i z hi (by omega))
      · cases hy; exact pg_m129 hfl (fun i z hi hz => ih i z hi (by omega))
      · cases hy; exact pg_m130 hfl (fun i z hi hz => ih i z hi (by omega))
      · cases hy; exact pg_m131 hfl (fun i z hi hz => ih i z hi (by omega))
      · cases hy; exact pg_m132 hfl (fun i z hi hz => ih i z hi (by omega))
      · cases hy; exact pg_m133 hfl (fun i z hi hz => ih i z hi (by omega))
      · cases hy; exact pg_m134 hfl (fun i z hi hz => ih i z hi (by omega))
      · cases hy; exact pg_m135 (fun i z hi hz => ih i z hi (by omega))
      · cases hy; exact pg_m136 (fun i z hi hz => ih i z hi (by omega))
      · cases hy; exact pg_m137 (fun i z hi hz => ih i z hi (by omega))
      · cases hy; exact pg_m138 (fun i z hi hz => ih i z hi (by omega))
      · cases hy; exact pg_m139 (fun i z hi hz => ih i z hi (by omega))
      · cases hy; exact pg_m140 (fun i z hi hz => ih i z hi (by omega))
      · cases hy; exact pg_m141 (fun i z hi hz => ih i z hi (by omega))
      · cases hy; exact pg_m142 (fun i z hi hz => ih i z hi (by omega))
      · cases hy; exact pg_m143 (fun i z hi hz => ih i z hi (by omega))
      · cases hy; exact pg_m144 (fun i z hi hz => ih i z hi (by omega))
    intro j y hy hl
    refine key j ?_ y hy hl
    have hj : j < 145 := (List.getElem?_eq_some_iff.mp hy).1
    have : j ∈ List.range 145 := List.mem_range.mpr hj
    exact this
end PGA
