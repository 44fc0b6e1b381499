section
/-! OWN ROWS OVER THE MACHINE: a contract whose method may throw; a call of it; a catch; the ends of a method -/
section EVM
variable {p : Program} {l : Launch} {e : Env} {R : Room} {s : State} {m : MethodId} {args : Array Value} {below : List Frame} {meth : Method} {c : Code} {H : Heap} {locs : List Loc} {cells slots : Nat} {Q : State → Prop}
/-- how a method ends, by returning or by throwing -/
def ev_QE (Qc : Nat → Array Value → State → Outcome → State → Prop) (free : Addr → Prop) (a : Array Value) (st : State) (o : Outcome) (t : State) : Prop :=
  ∃ (k : Nat) (L : List Loc), Qc k a st o t ∧ st.WarmedH t.vm ∧ st.sameButNew ({ t with vm := st.vm } : State) L k (6 * k) ∧ ∀ q ∈ L, free q.base
def ev_Met (l : Launch) (y : MethodName) (cw : Jvm.Cond) (rm : Room) (Pc : Array Value → State → Prop) (Qc : Nat → Array Value → State → Outcome → State → Prop) (free : Addr → Prop) : Prop :=
  MetFree l y (headSpec [cw] rm) Pc (fun _ _ _ _ _ => True) (ev_QE Qc free)
def ev_MQ (below : List Frame) (Qc : Nat → Array Value → State → Outcome → State → Prop) (a : Array Value) (s : State) (free : Addr → Prop) : State → Prop := fun t =>
  ∃ o, t.status = .running ∧ Ended t below o ∧ ev_QE Qc free a s o t
theorem ev_mono {Q Q2 : State → Prop} {g : JFrame} (h : ∀ t, Q t → Q2 t) (k : W p l e R s m args below meth c H locs cells slots Q g) : W p l e R s m args below meth c H locs cells slots Q2 g := by
  intro T hT X
  obtain ⟨t, a, b⟩ := k T hT X
  exact ⟨t, a, h t b⟩
/-- a contract out of a walk of the body -/
theorem ev_ofW {y : MethodName} {cw : Jvm.Cond} {rm : Room} {Pc : Array Value → State → Prop} {Qc : Nat → Array Value → State → Outcome → State → Prop} {free : Addr → Prop} {cc : ByteArray} {maxL : Nat} {ret : Option FieldType}
    (hy : plainName y.cls = true) (hcw : cw = .code y cc maxL ret ∨ ∃ hh, cw = .codeWith y cc maxL ret hh)
    (body : ∀ p e s m args below meth c s₁, BodyLoose p l y (headSpec [cw] rm) cc maxL ret e s m args below meth c s₁ → c.maxLocals = maxL → Pc args s →
      W p l e rm s m args below meth c s.heap [] 0 0 (ev_MQ below Qc args s free) (entryFrame m args maxL)) : ev_Met l y cw rm Pc Qc free := by
  refine MetFree.of_bodyS (code := cc) (maxLocals := maxL) (ret := ret) hy ?_ ?_
  · intro args s m h hn
    have h1 : cw.before args s = true := atoms_spec (ws := [cw]) h _ List.mem_cons_self
    rcases hcw with rfl | ⟨hh, rfl⟩
    · obtain ⟨meth, c, h1, h2, h3, h4, h5, h6, -, -⟩ := Cond.code_spec hn h1
      exact ⟨meth, c, h1, h2, h3, h4, h5, h6⟩
    · obtain ⟨m', meth, c, hn', h1, h2, h3, h4, -, h5, h6, -⟩ := Cond.codeWith_spec h1
      cases hn.symm.trans hn'
      exact ⟨meth, c, h1, h2, h3, h4, h5, h6⟩
  · intro p e s m args below meth c s₁ B hml hP _
    have hh0 : s₁.heap = s.heap := by rw [B.state]; rfl
    obtain ⟨t, a1, o, b1, b2, b3⟩ := body p e s m args below meth c s₁ B hml hP s₁ hh0 (Stand.of_body B)
    exact ⟨t, o, a1, b1, b2, b3⟩
/-- a call: it comes back, or it throws -/
theorem ev_called {T : State} (X : Stand p l e R s m args below meth c T locs cells slots) {y : MethodName} {cw : Jvm.Cond} {rm : Room} {Pc : Array Value → State → Prop} {Qc : Nat → Array Value → State → Outcome → State → Prop} {maxL : Nat} {free : Addr → Prop} (hM : ev_Met l y cw rm Pc Qc free)
    (hframes : rm.frames + 1 ≤ R.frames) (hlocals : 8 + (maxL + 11) + rm.locals ≤ R.locals) (hcells : cells + rm.cells ≤ R.cells) (hslots : slots + rm.slots ≤ R.slots)
    {g : JFrame} (hg : g.method = m) (hsize : g.locals.size = c.maxLocals) {ig : Instr} {len : Nat} (hdg : decode c.code g.pc = .ok (ig, len)) (hw : 2 * g.monitorRoom + (g.stack.map fun v => v.category).sum ≤ 8)
    {mk : MethodId} {methY : Method} {cY : Code} {kY : Class} (hn : T.methodNamed? y = some mk) (hmY : T.vm.method? mk = some methY) (hcY : methY.code = some cY) (hlY : cY.maxLocals = maxL) (hkY : T.vm.classes[mk.cls]? = some kY) (hiY : kY.init = .initialized)
    {a : Array Value} (hcw : cw.before a T = true) (hPc : Pc a (T.calling g mk a)) :
    ∃ (o : Outcome) (t T' : State) (k : Nat) (L : List Loc), Qc k a (T.calling g mk a) o t ∧ T.WarmedH T'.vm ∧ (∀ q ∈ L, free q.base) ∧ Stand p l e R s m args below meth c T' (locs ++ L) (cells + k) (slots + 6 * k) ∧ T'.heap = t.heap ∧
      ((∃ v, o = .returned v ∧ Steps p.tables e below (doInvoke e (T.setTop g) [] mk a).1 (T'.setTop { g with pc := g.pc + len, stack := v.toList ++ g.stack })) ∨
       (∃ x, o = .threw x ∧ Steps p.tables e below (doInvoke e (T.setTop g) [] mk a).1 ((T'.setTop g).pushFrame (.throwing x)))) := by
  have h : At T g.method c below := by rw [hg]; exact X.here
  have happ : (headSpec [cw] rm).appliesLoose y e.platform (T.calling g mk a) = true :=
    Spec.appliesLoose_calling (g := g) h hdg hn hkY hiY
      (X.room_calling (g := g) (R' := rm) hsize hmY hcY hframes (by rw [hlY]; omega) hcells hslots) (atoms_intro fun w hw => by rw [List.mem_singleton.mp hw]; exact hcw)
  obtain ⟨mid, hmid⟩ := h.above
  have hfr : (T.setTop g).frames = (.java g :: mid) ++ below := by rw [State.frames_setTop' g h.top, hmid]; rfl
  obtain ⟨o, s₂, hsteps, -, hend, hq⟩ := Steps.callFree hM p X.admits X.cas X.clock (acts := []) hfr happ hPc trivial
  have hq' : ev_QE Qc free a (T.calling g mk a) o s₂ := hq
  obtain ⟨k, L, hqc, hWm, hsame, hL⟩ := hq'
  rw [State.frames_setTop' g h.top, X.tail] at hend
  cases o with
  | returned v =>
    obtain ⟨T', X', hW', -, e1⟩ := X.outOf hg hdg hend hWm hsame
    refine ⟨_, s₂, T', k, L, hqc, hW', hL, X', ?_, Or.inl ⟨v, rfl, ?_⟩⟩
    · rw [e1]; first | rfl | simp [State.setTop, State.modifyTopJava]
    · rw [e1] at hsteps; exact hsteps
  | threw x =>
    obtain ⟨T', X', hW', -, e1⟩ := X.outOfThrown hg hend hWm hsame
    refine ⟨_, s₂, T', k, L, hqc, hW', hL, X', ?_, Or.inr ⟨x, rfl, ?_⟩⟩
    · rw [e1]; first | rfl | simp [State.pushFrame, State.setFrames, State.setTop, State.modifyTopJava]
    · rw [e1] at hsteps; exact hsteps
/-- what a call gives back to the walk: behind a return, behind a throw -/
def ev_Kr (p : Program) (l : Launch) (e : Env) (R : Room) (s : State) (m : MethodId) (args : Array Value) (below : List Frame) (meth : Method) (c : Code) (H : Heap) (locs : List Loc) (cells slots : Nat) (Q : State → Prop) (a : Array Value) (Qc : Nat → Array Value → State → Outcome → State → Prop) (free : Addr → Prop) (g : Option Value → JFrame) : Prop :=
  ∀ (v : Option Value) (st t : State) (k : Nat) (L : List Loc), st.heap = H → s.WarmedH st.vm → Qc k a st (.returned v) t → (∀ q ∈ L, free q.base) → W p l e R s m args below meth c t.heap (locs ++ L) (cells + k) (slots + 6 * k) Q (g v)
def ev_Kt (p : Program) (l : Launch) (e : Env) (R : Room) (s : State) (m : MethodId) (args : Array Value) (below : List Frame) (meth : Method) (c : Code) (H : Heap) (locs : List Loc) (cells slots : Nat) (Q : State → Prop) (a : Array Value) (Qc : Nat → Array Value → State → Outcome → State → Prop) (free : Addr → Prop) (g : JFrame) : Prop :=
  ∀ (x : Addr) (st t T' : State) (k : Nat) (L : List Loc), st.heap = H → s.WarmedH st.vm → Qc k a st (.threw x) t → (∀ q ∈ L, free q.base) → T'.heap = t.heap → Stand p l e R s m args below meth c T' (locs ++ L) (cells + k) (slots + 6 * k) → ∃ t2, Steps p.tables e below ((T'.setTop g).pushFrame (.throwing x)) t2 ∧ Q t2
theorem ev_join {T : State} {vm₁ : Vm} (hT : T.heap = H) (X₁ : Stand p l e R s m args below meth c (T.setVm vm₁) locs cells slots) {pc : Nat} {ls : Array Slot} {st0 rest : List Value} {y : MethodName} {mk : MethodId} {a : Array Value}
    (hstep : ∀ target, (∀ acts, Steps p.tables e below (doInvoke e ((T.setVm vm₁).setTop (F0 m pc ls rest)) acts mk a).1 target) → Steps p.tables e below (T.setTop (F0 m pc ls st0)) target)
    {cw : Jvm.Cond} {rm : Room} {Pc : Array Value → State → Prop} {Qc : Nat → Array Value → State → Outcome → State → Prop} {maxL : Nat} {free : Addr → Prop} (hM : ev_Met l y cw rm Pc Qc free)
    (hframes : rm.frames + 1 ≤ R.frames) (hlocals : 8 + (maxL + 11) + rm.locals ≤ R.locals) (hcells : cells + rm.cells ≤ R.cells) (hslots : slots + rm.slots ≤ R.slots)
    (hsize : ls.size = c.maxLocals) {ig : Instr} {len : Nat} (hdg : decode c.code pc = .ok (ig, len)) (hw : (rest.map fun v => v.category).sum ≤ 8)
    {methY : Method} {cY : Code} {kY : Class} (hn : s.methodNamed? y = some mk) (hmY : s.vm.method? mk = some methY) (hcY : methY.code = some cY) (hlY : cY.maxLocals = maxL) (hkY : s.vm.classes[mk.cls]? = some kY) (hiY : kY.init = .initialized)
    (hcw : ∀ (a' : Array Value) (U : State), s.WarmedH U.vm → cw.before a' U = true) (hPc : ∀ U : State, U.heap = H → s.WarmedH U.vm → Pc a U)
    (kr : ev_Kr p l e R s m args below meth c H locs cells slots Q a Qc free (fun v => F0 m (pc + len) ls (v.toList ++ rest)))
    (kt : ev_Kt p l e R s m args below meth c H locs cells slots Q a Qc free (F0 m pc ls rest)) : ∃ t2, Steps p.tables e below (T.setTop (F0 m pc ls st0)) t2 ∧ Q t2 := by
  obtain ⟨kY', hkY', heY⟩ := X₁.warmed.alike.2.2 _ _ hkY
  obtain ⟨o, t, T', k, L, hq, hW', hL, X', ht, hr⟩ := ev_called X₁ (g := F0 m pc ls rest) (mk := mk) (maxL := maxL) (kY := kY') hM hframes hlocals hcells hslots rfl hsize hdg (by show 2 * 0 + (rest.map fun v => v.category).sum ≤ 8; omega) (X₁.named hn) (by rw [X₁.warmed.alike.method?]; exact hmY) hcY hlY hkY' (by rw [heY]; exact hiY) (hcw a _ X₁.warmed) (hPc _ hT X₁.warmed)
  rcases hr with ⟨v, rfl, hs⟩ | ⟨x, rfl, hs⟩
  · obtain ⟨t2, a1, b1⟩ := kr v ((T.setVm vm₁).calling (F0 m pc ls rest) mk a) t k L hT X₁.warmed hq hL T' ht X'
    exact ⟨t2, hstep _ fun acts => by rw [doInvoke_state]; exact hs.trans a1, b1⟩
  · obtain ⟨t2, a1, b1⟩ := kt x ((T.setVm vm₁).calling (F0 m pc ls rest) mk a) t T' k L hT X₁.warmed hq hL ht X'
    exact ⟨t2, hstep _ fun acts => by rw [doInvoke_state]; exact hs.trans a1, b1⟩
section EVC
variable {y : MethodName} {cw : Jvm.Cond} {rm : Room} {Pc : Array Value → State → Prop} {Qc : Nat → Array Value → State → Outcome → State → Prop} {maxL : Nat} {free : Addr → Prop} {own : String} {index pc : Nat} {ls : Array Slot} {As rest : List Value}
/-- invokevirtual of a method of the receiver's own class -/
theorem ev_callV (hx : p.tables.exec = Jvm.exec) (hown : s.vm.findClass own = some m.cls) (hlink : (Jvm.Cond.methodLink own index y).before args s = true ∨ ∃ host, (Jvm.Cond.methodLinkNest own index y host).before args s = true)
    (hinst : (Jvm.Cond.instanceMethod y).before args s = true) (hsel : (Jvm.Cond.selects y.cls y y).before args s = true) (hini : (Jvm.Cond.initialized y.cls).before args s = true) (hy : y.cls ≠ "java/lang/invoke/MethodHandle" ∧ y.cls ≠ "java/lang/invoke/VarHandle")
    {bytes : ByteArray} {ret : Option FieldType} (hcode : (Jvm.Cond.code y bytes maxL ret).before args s = true)
    (hM : ev_Met l y cw rm Pc Qc free) (hframes : rm.frames + 1 ≤ R.frames) (hlocals : 8 + (maxL + 11) + rm.locals ≤ R.locals) (hcells : cells + rm.cells ≤ R.cells) (hslots : slots + rm.slots ≤ R.slots)
    {b : Addr} (hcell : ∃ cellB : Cell, H[b]? = some cellB ∧ cellB.vm.isStatics = false ∧ s.vm.findClass y.cls = some cellB.cls)
    (hsize : ls.size = c.maxLocals) (hdg : decode c.code pc = .ok (.invokevirtual index, 3)) (hlen : ∀ sig, parseMethodDescriptor y.desc = some sig → As.length = sig.parameters.length) (hw : (rest.map fun v => v.category).sum ≤ 8)
    (hcw : ∀ (a' : Array Value) (U : State), s.WarmedH U.vm → cw.before a' U = true) (hPc : ∀ U : State, U.heap = H → s.WarmedH U.vm → Pc (Value.ref b :: As).toArray U)
    (kr : ev_Kr p l e R s m args below meth c H locs cells slots Q (Value.ref b :: As).toArray Qc free (fun v => F0 m (pc + 3) ls (v.toList ++ rest)))
    (kt : ev_Kt p l e R s m args below meth c H locs cells slots Q (Value.ref b :: As).toArray Qc free (F0 m pc ls rest)) :
    W p l e R s m args below meth c H locs cells slots Q (F0 m pc ls (As.reverse ++ .ref b :: rest)) := by
  intro T hT X
  obtain ⟨cellB, hcB, hoB, hclB⟩ := hcell
  obtain ⟨mk, methM, hnamed, hmethM, hstM, habM⟩ := Cond.instanceMethod_spec hinst
  obtain ⟨methM', cM, hmethM', hcM, -, hlM, -, -, -, hsigM⟩ := Cond.code_spec hnamed hcode
  cases hmethM.symm.trans hmethM'
  obtain ⟨c2, r2, m2, q1, q2, q3, q4, kP, hkP, hkPi⟩ := Cond.selects_spec hsel
  cases hclB.symm.trans q1
  cases (State.methodFound?_of_named hnamed hy).symm.trans q2
  cases hnamed.symm.trans q3
  have hselP : selectMethod e.platform s.vm cellB.cls mk = .method mk := by rw [Launch.admits_selectMethod X.admits]; exact q4
  have hkI : kP.init = .initialized := Cond.initialized_spec (findClass_of_methodNamed hnamed) hkP hini
  have hcB' : T.heap[b]? = some cellB := by rw [hT]; exact hcB
  have hob : ∀ z, cellB.vm ≠ .statics z := fun z h => by rw [h] at hoB; cases hoB
  rcases hlink with hlink | ⟨host, hlink⟩
  · obtain ⟨vm₁, X₁, hstep⟩ := X.invokevirtual hx hown hlink hnamed hmethM hstM hkP hkPi hy (a := b) (cell := cellB) hcB' hob hselP hmethM habM hkP hkPi (g := F0 m pc ls (As.reverse ++ .ref b :: rest)) rfl (argsL := As) (rest := rest) (hlen _ hsigM) rfl hdg
    exact ev_join hT X₁ hstep hM hframes hlocals hcells hslots hsize hdg hw hnamed hmethM hcM hlM hkP hkI hcw hPc kr kt
  · obtain ⟨vm₁, X₁, hstep⟩ := X.invokevirtualNest hx hown hlink hnamed hmethM hstM hkP hkPi hy (a := b) (cell := cellB) hcB' hob hselP hmethM habM hkP hkPi (g := F0 m pc ls (As.reverse ++ .ref b :: rest)) rfl (argsL := As) (rest := rest) (hlen _ hsigM) rfl hdg
    exact ev_join hT X₁ hstep hM hframes hlocals hcells hslots hsize hdg hw hnamed hmethM hcM hlM hkP hkI hcw hPc kr kt
/-- invokestatic -/
theorem ev_callS (hx : p.tables.exec = Jvm.exec) (hown : s.vm.findClass own = some m.cls) (hlink : (Jvm.Cond.methodLink own index y).before args s = true ∨ ∃ host, (Jvm.Cond.methodLinkNest own index y host).before args s = true)
    (hstat : (Jvm.Cond.static y).before args s = true) (hini : (Jvm.Cond.initialized y.cls).before args s = true) (hy : y.cls ≠ "java/lang/invoke/MethodHandle" ∧ y.cls ≠ "java/lang/invoke/VarHandle")
    (hcode : ∃ (mk : MethodId) (methM : Method) (cM : Code), s.methodNamed? y = some mk ∧ s.vm.method? mk = some methM ∧ methM.code = some cM ∧ cM.maxLocals = maxL ∧ parseMethodDescriptor y.desc = some methM.sig)
    (hM : ev_Met l y cw rm Pc Qc free) (hframes : rm.frames + 1 ≤ R.frames) (hlocals : 8 + (maxL + 11) + rm.locals ≤ R.locals) (hcells : cells + rm.cells ≤ R.cells) (hslots : slots + rm.slots ≤ R.slots)
    (hsize : ls.size = c.maxLocals) (hdg : decode c.code pc = .ok (.invokestatic index, 3)) (hlen : ∀ sig, parseMethodDescriptor y.desc = some sig → As.length = sig.parameters.length) (hw : (rest.map fun v => v.category).sum ≤ 8)
    (hcw : ∀ (a' : Array Value) (U : State), s.WarmedH U.vm → cw.before a' U = true) (hPc : ∀ U : State, U.heap = H → s.WarmedH U.vm → Pc As.toArray U)
    (kr : ev_Kr p l e R s m args below meth c H locs cells slots Q As.toArray Qc free (fun v => F0 m (pc + 3) ls (v.toList ++ rest)))
    (kt : ev_Kt p l e R s m args below meth c H locs cells slots Q As.toArray Qc free (F0 m pc ls rest)) :
    W p l e R s m args below meth c H locs cells slots Q (F0 m pc ls (As.reverse ++ rest)) := by
  intro T hT X
  obtain ⟨mk, methM, cM, hnamed, hmethM, hcM, hlM, hsigM⟩ := hcode
  have hstatic : methM.isStatic = true := Cond.static_spec hnamed hmethM hstat
  obtain ⟨kP, hkP, -⟩ := className_of_methodNamed hnamed
  have hkI : kP.init = .initialized := Cond.initialized_spec (findClass_of_methodNamed hnamed) hkP hini
  rcases hlink with hlink | ⟨host, hlink⟩
  · obtain ⟨vm₁, X₁, hstep⟩ := X.invokestatic hx hown hlink hnamed hmethM hstatic hkP hkI hy (g := F0 m pc ls (As.reverse ++ rest)) rfl (argsL := As) (rest := rest) (hlen _ hsigM) rfl hdg
    exact ev_join hT X₁ hstep hM hframes hlocals hcells hslots hsize hdg hw hnamed hmethM hcM hlM hkP hkI hcw hPc kr kt
  · obtain ⟨vm₁, X₁, hstep⟩ := X.invokestaticNest hx hown hlink hnamed hmethM hstatic hkP hkI hy (g := F0 m pc ls (As.reverse ++ rest)) rfl (argsL := As) (rest := rest) (hlen _ hsigM) rfl hdg
    exact ev_join hT X₁ hstep hM hframes hlocals hcells hslots hsize hdg hw hnamed hmethM hcM hlM hkP hkI hcw hPc kr kt
end EVC
/-! the ends -/
theorem ev_end {k : Nat} {Qc : Nat → Array Value → State → Outcome → State → Prop} {free : Addr → Prop} {g : JFrame} (h : W p l e R s m args below meth c H locs cells slots (MQ below (Qc k) args s k (6 * k) free) g) : W p l e R s m args below meth c H locs cells slots (ev_MQ below Qc args s free) g :=
  ev_mono (fun t ⟨o, h1, h2, h3, L, ⟨_, h5, h6⟩, h7⟩ => ⟨o, h1, h2, k, L, h3, h5, h6, h7⟩) h
/-! a catch: each row of the table covers the pc; the classes of the rows link -/
def ev_tk (e : Env) (s : State) (m : MethodId) (k : ClassId) (pc : Nat) : List ExceptionTableEntry → Nat → Prop
  | [], _ => False
  | x :: t, pc' => covers x pc = true ∧ x.catchType ≠ 0 ∧ ∃ kc : ClassId, s.vm.ClassLinks e.platform m.cls x.catchType kc ∧ ((s.vm.assignable k kc = true ∧ pc' = x.handlerPc) ∨ (s.vm.assignable k kc = false ∧ ev_tk e s m k pc t pc'))
theorem ev_row {S : State} {f : JFrame} {a : Addr} {x : ExceptionTableEntry} {t : List ExceptionTableEntry} {kc : ClassId} {cell : Cell} {Q : Handler → Pre} {E : CtlPost} {d : Bool} {acts : List Action} (hx : covers x f.pc = true) (h0 : x.catchType ≠ 0)
    (hl : S.vm.ClassLinks e.platform f.method.cls x.catchType kc) (hcell : S.heap[a]? = some cell) (hv : cell.vm = .none) (h1 : ∃ q, S.vm.classes[cell.cls]? = some q) (h2 : ∃ q, S.vm.classes[kc]? = some q) :
    wp (findHandler.go f a (x :: t)) Q E e d acts S ↔ (if S.vm.assignable cell.cls kc = true then Q (.found x.handlerPc) d acts (S.setVm (S.vm.noted f.method.cls x.catchType (.cls kc))) else wp (findHandler.go f a t) Q E e d acts (S.setVm (S.vm.noted f.method.cls x.catchType (.cls kc)))) := by
  simp only [covers] at hx
  obtain ⟨ha, ht⟩ := (resolveClass_links e.toSetting hl).op (op := VmOp.resolveClass f.method.cls x.catchType) rfl
  have hal : S.vm.Alike (S.vm.noted f.method.cls x.catchType (.cls kc)) := (Vm.Alike.refl S.vm).noted _ _ _
  obtain ⟨k1, hk1⟩ := h1
  obtain ⟨k2, hk2⟩ := h2
  obtain ⟨k1', hk1', -⟩ := hal.2.2 _ _ hk1
  obtain ⟨k2', hk2', -⟩ := hal.2.2 _ _ hk2
  have hobj : ∀ k, cell.vm ≠ .statics k := fun k h => by rw [hv] at h; cases h
  have has : (S.vm.noted f.method.cls x.catchType (.cls kc)).assignable cell.cls kc = S.vm.assignable cell.cls kc := hal.assignable _ _
  cases hf : S.vm.assignable cell.cls kc <;> simp [findHandler.go, hx, h0, ha, ht, hcell, hobj, hk1', hk2', has, hf, VmOp.dirties, VmOp.acts]
theorem ev_rows {f : JFrame} (hfm : f.method = m) {a : Addr} {cell : Cell} (hv : cell.vm = .none) (h1 : ∃ q, s.vm.classes[cell.cls]? = some q) {pc' : Nat} :
    ∀ (rows : List ExceptionTableEntry) (S : State), s.WarmedH S.vm → S.heap[a]? = some cell → ev_tk e s m cell.cls f.pc rows pc' →
      ∃ vm', s.WarmedH vm' ∧ ∀ (Q : Handler → Pre) (E : CtlPost) (d : Bool) (acts : List Action), wp (findHandler.go f a rows) Q E e d acts S ↔ Q (.found pc') d acts (S.setVm vm') := by
  obtain ⟨k0, hk0⟩ := h1
  intro rows
  induction rows with
  | nil => intro S _ _ h; exact h.elim
  | cons x t ih =>
    intro S hW hcell ⟨hx, h0, kc, hl, hh⟩
    subst hfm
    obtain ⟨dk, _, _, kt, hd, _, _, _, _, hkt, _, hopen⟩ := hl.here
    obtain ⟨k0', hk0', -⟩ := hW.alike.2.2 _ _ hk0
    obtain ⟨kt', hkt', -⟩ := hW.alike.2.2 _ _ hkt
    have hW2 := hW.noted hd hopen (State.rightAt_cls hl)
    rcases hh with ⟨hy, rfl⟩ | ⟨hno, hrest⟩
    · refine ⟨_, hW2, fun Q E d acts => ?_⟩
      rw [ev_row hx h0 (hW.classLinks hl) hcell hv ⟨k0', hk0'⟩ ⟨kt', hkt'⟩, if_pos (by rw [hW.alike.assignable]; exact hy)]
    · obtain ⟨vm', hW', hq⟩ := ih (S.setVm (S.vm.noted f.method.cls x.catchType (.cls kc))) hW2 hcell hrest
      refine ⟨vm', hW', fun Q E d acts => ?_⟩
      rw [ev_row hx h0 (hW.classLinks hl) hcell hv ⟨k0', hk0'⟩ ⟨kt', hkt'⟩, if_neg (by rw [hW.alike.assignable, hno]; decide)]
      exact hq Q E d acts
/-- the exception is caught in the walked method -/
theorem ev_catch {T : State} (X : Stand p l e R s m args below meth c T locs cells slots) {x : Addr} {g : JFrame} (hg : g.method = m) {cell : Cell} (hcell : T.heap[x]? = some cell) (hv : cell.vm = .none) (h1 : ∃ q, s.vm.classes[cell.cls]? = some q) {pc' : Nat}
    (htk : ev_tk e s m cell.cls g.pc c.exceptionTable.toList pc') :
    ∃ vm', Stand p l e R s m args below meth c (T.setVm vm') locs cells slots ∧
      ∀ target, Steps p.tables e below ((T.setVm vm').setTop { g with pc := pc', stack := [.ref x] }) target → Steps p.tables e below ((T.setTop g).pushFrame (.throwing x)) target := by
  have h : At T g.method c below := by rw [hg]; exact X.here
  have hvm : ((T.setTop g).pushFrame (.throwing x)).vm = T.vm := Stand.throwing_vm T g x
  have hhp : ((T.setTop g).pushFrame (.throwing x)).heap = T.heap := Stand.throwing_heap T g x
  obtain ⟨vm', hW', hq⟩ := ev_rows (e := e) (f := g) hg hv h1 c.exceptionTable.toList ((T.setTop g).pushFrame (.throwing x)) (by rw [hvm]; exact X.warmed) (by rw [hhp]; exact hcell) htk
  refine ⟨vm', X.noted hW', fun target hrest => ?_⟩
  obtain ⟨hgo, hw⟩ := h.throwing x
  have hfind : ∀ (Q : Handler → Pre) (E : CtlPost) (d : Bool) (acts : List Action), wp (findHandler g x) Q E e d acts ((T.setTop g).pushFrame (.throwing x)) ↔ Q (.found pc') d acts (((T.setTop g).pushFrame (.throwing x)).setVm vm') := fun Q E d acts => by
    rw [W.findHandler_eq (meth := meth) (code := c) (by rw [hvm, hg]; exact X.method') X.code]
    exact hq Q E d acts
  refine Steps.head hgo hw ?_
  rw [stepThread_throwing (frames_entered h.top _)]
  have hIs : ∀ r, (stepThrowing e ((T.setTop g).pushFrame (.throwing x)) x (.java g :: r)).1 = (((T.setTop g).pushFrame (.throwing x)).setVm vm').setFrames (.java { g with pc := pc', stack := [.ref x] } :: r) := by
    intro r
    simp only [stepThrowing, searchFrame, vmDo]
    generalize hr : Sem.go _ e false [] ((T.setTop g).pushFrame (.throwing x)) = res
    obtain ⟨as, rfl, ha⟩ := Sem.eq_ok_of hr (a := Handler.found pc') (s' := ((T.setTop g).pushFrame (.throwing x)).setVm vm') (acts' := []) (by simp [hfind _ _ _ _])
    rfl
  obtain ⟨g₀, hg0⟩ := Option.isSome_iff_exists.mp h.top
  obtain ⟨r, hr⟩ := State.topJava?_eq_some.mp hg0
  have hr' : (T.setVm vm').frames = .java g₀ :: r := hr
  have e2 : ∀ (u : State) (F G : List Frame), ((u.setFrames F).setVm vm').setFrames G = (u.setVm vm').setFrames G := fun u F G => by
    rw [show (u.setFrames F).setVm vm' = (u.setVm vm').setFrames F from rfl, State.setFrames_setFrames]
  rw [hr, List.tail_cons, hIs, State.pushFrame, e2, State.setTop_of_frames _ hr, e2]
  rw [State.setTop_of_frames _ hr'] at hrest
  exact hrest
end EVM
end
section
/-! THE EVALUATOR: what the instructions of a method do to a world of fixed shape, as a predicate to be computed; and that it is so of the machine -/
/-- a world: the ints of each cell (fields or elements), the longs of each cell, how many cells may still be made -/
abbrev ev_W : Type := (Nat → Nat → Int32) × (Nat → Nat → Int64) × Nat
/-- a cell's shape: an array (type, length), or an object (class number, its fields: none: an int, some k: the cell k) -/
abbrev ev_C : Type := (FieldType × Nat) ⊕ (Nat × List (Option Nat))
abbrev ev_V : Type := List (Option Value)
abbrev ev_K : Type := Nat → ev_V → List Value → ev_W → Prop
/-- what the methods do: number, arguments, world: where they may be called, what is known of what comes back (returned, or the kind that was thrown) and of the world behind it -/
abbrev ev_F : Type := Nat → List Value → ev_W → Option ((Option Value ⊕ Nat) → ev_W → Prop)
/-- an instruction, its length, two numbers, a constant, the roads of a switch -/
abbrev ev_I : Type := Instr × Nat × Nat × Nat × Int32 × List (Int32 × Nat)
def ev_tr (ad : Nat → Nat) (v : Value) : Value := match v with
  | .ref k => .ref (ad k)
  | v => v
def ev_up (σ : ev_W) (k j : Nat) (x : Int32) : ev_W := (fun q => if q = k then upd (σ.1 k) j x else σ.1 q, σ.2)
def ev_uL (σ : ev_W) (k j : Nat) (x : Int64) : ev_W := (σ.1, fun q => if q = k then vp_updL (σ.2.1 k) j x else σ.2.1 q, σ.2.2)
def ev_fv (ad : Nat → Nat) (σ : ev_W) (k j : Nat) (f : Option Nat) : Value := match f with
  | none => .int (σ.1 k j)
  | some r => .ref (ad r)
def ev_ce (ad : Nat → Nat) (ca : Nat → ClassId) (σ : ev_W) (k : Nat) (q : ev_C) : Nat × va_E := (ad k, match q with
  | .inl (.long, n) => .inl (ca k, n, .inr (.inl (σ.2.1 k)))
  | .inl (_, n) => .inl (ca k, n, .inl (σ.1 k))
  | .inr (ci, fs) => .inr (ci, fs.mapIdx (fun j f => ev_fv ad σ k j f)))
def ev_ws (ad : Nat → Nat) (ca : Nat → ClassId) (lay : List ev_C) (σ : ev_W) : va_W := lay.mapIdx (fun k q => ev_ce ad ca σ k q)
/-! the instructions -/
def ev_b2 (f : Int32 → Int32 → Int32) (pc : Nat) (ls : ev_V) (st : List Value) (σ : ev_W) (K : ev_K) : Prop := match st with
  | .int y :: .int x :: r => K (pc + 1) ls (.int (f x y) :: r) σ
  | _ => False
def ev_dv (f : Int32 → Int32 → Int32) (pc : Nat) (ls : ev_V) (st : List Value) (σ : ev_W) (K : ev_K) : Prop := match st with
  | .int y :: .int x :: r => if y = 0 then False else K (pc + 1) ls (.int (f x y) :: r) σ
  | _ => False
def ev_c1 (P : Int32 → Prop) (t1 t2 : Nat) (ls : ev_V) (st : List Value) (σ : ev_W) (K : ev_K) : Prop := match st with
  | .int x :: r => (P x → K t1 ls r σ) ∧ (¬ P x → K t2 ls r σ)
  | _ => False
def ev_c2 (P : Int32 → Int32 → Prop) (t1 t2 : Nat) (ls : ev_V) (st : List Value) (σ : ev_W) (K : ev_K) : Prop := match st with
  | .int y :: .int x :: r => (P x y → K t1 ls r σ) ∧ (¬ P x y → K t2 ls r σ)
  | _ => False
def ev_li (pc' i : Nat) (ls : ev_V) (st : List Value) (σ : ev_W) (K : ev_K) : Prop := match ls[i]? with
  | some (some (.int x)) => K pc' ls (.int x :: st) σ
  | _ => False
def ev_la (pc' i : Nat) (ls : ev_V) (st : List Value) (σ : ev_W) (K : ev_K) : Prop := match ls[i]? with
  | some (some (.ref x)) => K pc' ls (.ref x :: st) σ
  | _ => False
def ev_si (pc' i : Nat) (ls : ev_V) (st : List Value) (σ : ev_W) (K : ev_K) : Prop := match st with
  | .int x :: r => K pc' (ls.set i (some (.int x))) r σ
  | _ => False
def ev_sa (pc' i : Nat) (ls : ev_V) (st : List Value) (σ : ev_W) (K : ev_K) : Prop := match st with
  | .ref x :: r => K pc' (ls.set i (some (.ref x))) r σ
  | _ => False
def ev_sw (x : Int32) (K : Nat → Prop) (d : Nat) : List (Int32 × Nat) → Prop
  | [] => K d
  | (v, t) :: r => (x = v → K t) ∧ (¬ x = v → ev_sw x K d r)
def ev_gf (lay : List ev_C) (ci k pc : Nat) (ls : ev_V) (st : List Value) (σ : ev_W) (K : ev_K) : Prop := match st with
  | .ref a :: r => match lay[a]? with
    | some (.inr (cj, fs)) => if cj = ci then match fs[k]? with
      | some none => K (pc + 3) ls (.int (σ.1 a k) :: r) σ
      | some (some b) => K (pc + 3) ls (.ref b :: r) σ
      | none => False else False
    | _ => False
  | _ => False
def ev_pf (lay : List ev_C) (ci k : Nat) (z : Int32) (pc : Nat) (ls : ev_V) (st : List Value) (σ : ev_W) (K : ev_K) : Prop := match st with
  | .int x :: .ref a :: r => match lay[a]? with
    | some (.inr (cj, fs)) => if cj = ci then match fs[k]? with
      | some none => if z = 0 then K (pc + 3) ls r (ev_up σ a k x) else (x = 0 ∨ x = 1) ∧ K (pc + 3) ls r (ev_up σ a k x)
      | _ => False else False
    | _ => False
  | _ => False
def ev_ia (lay : List ev_C) (xo : Option (Nat × (Nat → Int32))) (pc : Nat) (ls : ev_V) (st : List Value) (σ : ev_W) (K : ev_K) : Prop := match st with
  | .int i :: .ref a :: r => match lay[a]? with
    | some (.inl (.int, n)) => vp_in i n ∧ K (pc + 1) ls (.int (σ.1 a i.toNatClampNeg) :: r) σ
    | none => match xo with
      | some (L, xs) => if a = 999 then vp_in i L ∧ K (pc + 1) ls (.int (xs i.toNatClampNeg) :: r) σ else False
      | none => False
    | _ => False
  | _ => False
def ev_za (lay : List ev_C) (pc : Nat) (ls : ev_V) (st : List Value) (σ : ev_W) (K : ev_K) : Prop := match st with
  | .int i :: .ref a :: r => match lay[a]? with
    | some (.inl (.boolean, n)) => vp_in i n ∧ K (pc + 1) ls (.int (σ.1 a i.toNatClampNeg) :: r) σ
    | _ => False
  | _ => False
def ev_ja (lay : List ev_C) (pc : Nat) (ls : ev_V) (st : List Value) (σ : ev_W) (K : ev_K) : Prop := match st with
  | .int i :: .ref a :: r => match lay[a]? with
    | some (.inl (.long, n)) => vp_in i n ∧ K (pc + 1) ls (.long (σ.2.1 a i.toNatClampNeg) :: r) σ
    | _ => False
  | _ => False
def ev_is (lay : List ev_C) (pc : Nat) (ls : ev_V) (st : List Value) (σ : ev_W) (K : ev_K) : Prop := match st with
  | .int x :: .int i :: .ref a :: r => match lay[a]? with
    | some (.inl (.int, n)) => vp_in i n ∧ K (pc + 1) ls r (ev_up σ a i.toNatClampNeg x)
    | _ => False
  | _ => False
def ev_zs (lay : List ev_C) (pc : Nat) (ls : ev_V) (st : List Value) (σ : ev_W) (K : ev_K) : Prop := match st with
  | .int x :: .int i :: .ref a :: r => match lay[a]? with
    | some (.inl (.boolean, n)) => vp_in i n ∧ K (pc + 1) ls r (ev_up σ a i.toNatClampNeg (vp_nar .boolean x))
    | _ => False
  | _ => False
def ev_js (lay : List ev_C) (pc : Nat) (ls : ev_V) (st : List Value) (σ : ev_W) (K : ev_K) : Prop := match st with
  | .long x :: .int i :: .ref a :: r => match lay[a]? with
    | some (.inl (.long, n)) => vp_in i n ∧ K (pc + 1) ls r (ev_uL σ a i.toNatClampNeg x)
    | _ => False
  | _ => False
def ev_al (lay : List ev_C) (xo : Option (Nat × (Nat → Int32))) (pc : Nat) (ls : ev_V) (st : List Value) (σ : ev_W) (K : ev_K) : Prop := match st with
  | .ref a :: r => match lay[a]? with
    | some (.inl (_, n)) => K (pc + 1) ls (.int (Int32.ofNat n) :: r) σ
    | none => match xo with
      | some (L, _) => if a = 999 then K (pc + 1) ls (.int (Int32.ofNat L) :: r) σ else False
      | none => False
    | _ => False
  | _ => False
def ev_ca (F : ev_F) (hd : List (Nat × Nat × Nat × Nat)) (i n pc : Nat) (ls : ev_V) (st : List Value) (σ : ev_W) (K : ev_K) : Prop :=
  if n ≤ st.length ∧ st.length ≤ n + 4 then match F i (st.take n).reverse σ with
    | some P => ∀ (o : Option Value ⊕ Nat) (σ' : ev_W), P o σ' → match o with
      | .inl v => K (pc + 3) ls (v.toList ++ st.drop n) σ'
      | .inr k => match hd.find? (fun q => q.1 == pc && q.2.1 == k) with
        | some q => K q.2.2.1 (ls.set q.2.2.2 none) [] σ'
        | none => False
    | none => False else False
/-- one instruction -/
def ev_st (F : ev_F) (lay : List ev_C) (xo : Option (Nat × (Nat → Int32))) (hd : List (Nat × Nat × Nat × Nat)) (q : ev_I) (pc : Nat) (ls : ev_V) (st : List Value) (σ : ev_W) (K : ev_K) : Prop :=
  match q.1 with
  | .iconst _ => K (pc + 1) ls (.int q.2.2.2.2.1 :: st) σ
  | .bipush _ => K (pc + 2) ls (.int q.2.2.2.2.1 :: st) σ
  | .sipush _ => K (pc + 3) ls (.int q.2.2.2.2.1 :: st) σ
  | .ldc _ => K (pc + 2) ls (.int q.2.2.2.2.1 :: st) σ
  | .ldc_w _ => K (pc + 3) ls (.int q.2.2.2.2.1 :: st) σ
  | .lconst n => K (pc + 1) ls (.long (Int64.ofNat n) :: st) σ
  | .iload _ => ev_li (pc + 2) q.2.2.1 ls st σ K
  | .iload_n _ => ev_li (pc + 1) q.2.2.1 ls st σ K
  | .aload _ => ev_la (pc + 2) q.2.2.1 ls st σ K
  | .aload_n _ => ev_la (pc + 1) q.2.2.1 ls st σ K
  | .istore _ => ev_si (pc + 2) q.2.2.1 ls st σ K
  | .istore_n _ => ev_si (pc + 1) q.2.2.1 ls st σ K
  | .astore _ => ev_sa (pc + 2) q.2.2.1 ls st σ K
  | .astore_n _ => ev_sa (pc + 1) q.2.2.1 ls st σ K
  | .iinc _ _ => match ls[q.2.2.1]? with
    | some (some (.int x)) => K (pc + 3) (ls.set q.2.2.1 (some (.int (x + q.2.2.2.2.1)))) st σ
    | _ => False
  | .iadd => ev_b2 (fun x y => x + y) pc ls st σ K
  | .isub => ev_b2 (fun x y => x - y) pc ls st σ K
  | .imul => ev_b2 (fun x y => x * y) pc ls st σ K
  | .iand => ev_b2 (fun x y => x &&& y) pc ls st σ K
  | .ior => ev_b2 (fun x y => x ||| y) pc ls st σ K
  | .ixor => ev_b2 (fun x y => x ^^^ y) pc ls st σ K
  | .ishl => ev_b2 (fun x y => x <<< (y &&& 31)) pc ls st σ K
  | .ishr => ev_b2 (fun x y => x >>> (y &&& 31)) pc ls st σ K
  | .iushr => ev_b2 (fun x y => (x.toUInt32 >>> (y.toUInt32 &&& Int32.toUInt32 31)).toInt32) pc ls st σ K
  | .idiv => ev_dv (fun x y => x / y) pc ls st σ K
  | .irem => ev_dv (fun x y => x - x / y * y) pc ls st σ K
  | .i2l => match st with
    | .int x :: r => K (pc + 1) ls (.long x.toInt64 :: r) σ
    | _ => False
  | .lcmp => match st with
    | .long y :: .long x :: r => K (pc + 1) ls (.int (lg_cmp x y) :: r) σ
    | _ => False
  | .dup => match st with
    | .int x :: r => K (pc + 1) ls (.int x :: .int x :: r) σ
    | .ref x :: r => K (pc + 1) ls (.ref x :: .ref x :: r) σ
    | _ => False
  | .dup2 => match st with
    | .int i :: .ref a :: r => K (pc + 1) ls (.int i :: .ref a :: .int i :: .ref a :: r) σ
    | _ => False
  | .pop => match st with
    | .int _ :: r => K (pc + 1) ls r σ
    | .ref _ :: r => K (pc + 1) ls r σ
    | _ => False
  | .ifCond .eq _ => ev_c1 (fun x => x = 0) q.2.2.1 (pc + 3) ls st σ K
  | .ifCond .ne _ => ev_c1 (fun x => x = 0) (pc + 3) q.2.2.1 ls st σ K
  | .ifCond .lt _ => ev_c1 (fun x => x < 0) q.2.2.1 (pc + 3) ls st σ K
  | .ifCond .ge _ => ev_c1 (fun x => 0 ≤ x) q.2.2.1 (pc + 3) ls st σ K
  | .ifCond .gt _ => ev_c1 (fun x => 0 < x) q.2.2.1 (pc + 3) ls st σ K
  | .ifCond .le _ => ev_c1 (fun x => x ≤ 0) q.2.2.1 (pc + 3) ls st σ K
  | .if_icmp .eq _ => ev_c2 (fun x y => x = y) q.2.2.1 (pc + 3) ls st σ K
  | .if_icmp .ne _ => ev_c2 (fun x y => x = y) (pc + 3) q.2.2.1 ls st σ K
  | .if_icmp .lt _ => ev_c2 (fun x y => x < y) q.2.2.1 (pc + 3) ls st σ K
  | .if_icmp .ge _ => ev_c2 (fun x y => y ≤ x) q.2.2.1 (pc + 3) ls st σ K
  | .if_icmp .gt _ => ev_c2 (fun x y => y < x) q.2.2.1 (pc + 3) ls st σ K
  | .if_icmp .le _ => ev_c2 (fun x y => x ≤ y) q.2.2.1 (pc + 3) ls st σ K
  | .goto _ => K q.2.2.1 ls st σ
  | .tableswitch _ _ _ _ => match st with
    | .int x :: r => ev_sw x (fun t => K t ls r σ) q.2.2.1 q.2.2.2.2.2
    | _ => False
  | .lookupswitch _ _ => match st with
    | .int x :: r => ev_sw x (fun t => K t ls r σ) q.2.2.1 q.2.2.2.2.2
    | _ => False
  | .getfield _ => ev_gf lay q.2.2.1 q.2.2.2.1 pc ls st σ K
  | .putfield _ => ev_pf lay q.2.2.1 q.2.2.2.1 q.2.2.2.2.1 pc ls st σ K
  | .iaload => ev_ia lay xo pc ls st σ K
  | .baload => ev_za lay pc ls st σ K
  | .laload => ev_ja lay pc ls st σ K
  | .iastore => ev_is lay pc ls st σ K
  | .bastore => ev_zs lay pc ls st σ K
  | .lastore => ev_js lay pc ls st σ K
  | .arraylength => ev_al lay xo pc ls st σ K
  | .invokevirtual _ => ev_ca F hd q.2.2.1 q.2.2.2.1 pc ls st σ K
  | .invokestatic _ => ev_ca F hd q.2.2.1 q.2.2.2.1 pc ls st σ K
  | _ => False
/-- many instructions: as far as the table cd goes, or to a place where one stops -/
def ev_wp (F : ev_F) (lay : List ev_C) (xo : Option (Nat × (Nat → Int32))) (hd : List (Nat × Nat × Nat × Nat)) (cd : Nat → Option ev_I) (stp : Nat → Bool) (Q : ev_K) : Nat → ev_K
  | 0 => fun _ _ _ _ => False
  | n + 1 => fun pc ls st σ => match cd pc with
    | none => Q pc ls st σ
    | some q => ev_st F lay xo hd q pc ls st σ (fun pc' ls' st' σ' => match stp pc' with
      | true => Q pc' ls' st' σ'
      | false => ev_wp F lay xo hd cd stp Q n pc' ls' st' σ')
/-- a table of a method's instructions, and how it is read -/
def ev_lu : List (Nat × ev_I) → Nat → Option ev_I
  | [], _ => none
  | (k, q) :: t, pc => match Nat.beq k pc with
    | true => some q
    | false => ev_lu t pc
def ev_tl : List (Nat × Nat) → Nat → Option Nat
  | [], _ => none
  | (k, q) :: t, pc => match Nat.beq k pc with
    | true => some q
    | false => ev_tl t pc
theorem ev_lu_mem : ∀ {l : List (Nat × ev_I)} {pc : Nat} {q : ev_I}, ev_lu l pc = some q → (pc, q) ∈ l
  | [], _, _, h => by cases h
  | (k, z) :: t, pc, q, h => by
    unfold ev_lu at h
    split at h
    · rename_i hb
      have : k = pc := Nat.eq_of_beq_eq_true hb
      subst this
      cases h
      exact List.mem_cons_self
    · exact List.mem_cons_of_mem _ (ev_lu_mem h)
theorem ev_tl_mem : ∀ {l : List (Nat × Nat)} {pc q : Nat}, ev_tl l pc = some q → (pc, q) ∈ l
  | [], _, _, h => by cases h
  | (k, z) :: t, pc, q, h => by
    unfold ev_tl at h
    split at h
    · rename_i hb
      have : k = pc := Nat.eq_of_beq_eq_true hb
      subst this
      cases h
      exact List.mem_cons_self
    · exact List.mem_cons_of_mem _ (ev_tl_mem h)
end
section
/-! THE EVALUATOR IS RIGHT: lists, locals, switches -/
section EVL
variable {ad : Nat → Nat} {ca : Nat → ClassId} {lay : List ev_C} {σ σ' : ev_W}
theorem ev_ws_at {k : Nat} {q : ev_C} (h : lay[k]? = some q) : (ev_ws ad ca lay σ)[k]? = some (ev_ce ad ca σ k q) := by
  simp [ev_ws, h]
theorem ev_ws_get {k : Nat} {z : Nat × va_E} (h : (ev_ws ad ca lay σ)[k]? = some z) : ∃ q, lay[k]? = some q ∧ z = ev_ce ad ca σ k q := by
  simp only [ev_ws, List.getElem?_mapIdx] at h
  cases hq : lay[k]? with
  | none => rw [hq] at h; cases h
  | some q => rw [hq] at h; exact ⟨q, rfl, (Option.some.inj h).symm⟩
theorem ev_ce_congr {i : Nat} (q : ev_C) (h1 : σ'.1 i = σ.1 i) (h2 : σ'.2.1 i = σ.2.1 i) : ev_ce ad ca σ' i q = ev_ce ad ca σ i q := by
  have h3 : (fun j f => ev_fv ad σ' i j f) = (fun j f => ev_fv ad σ i j f) := by
    funext j f
    cases f <;> simp [ev_fv, h1]
  rcases q with ⟨ty, n⟩ | ⟨ci, fs⟩
  · cases ty <;> simp [ev_ce, h1, h2]
  · simp only [ev_ce, h3]
theorem ev_ws_set {k : Nat} {q : ev_C} (h : lay[k]? = some q) (hs : ∀ i, i ≠ k → σ'.1 i = σ.1 i ∧ σ'.2.1 i = σ.2.1 i) : (ev_ws ad ca lay σ).set k (ev_ce ad ca σ' k q) = ev_ws ad ca lay σ' := by
  have hl : k < (ev_ws ad ca lay σ).length := (List.getElem?_eq_some_iff.mp (ev_ws_at h)).1
  apply List.ext_getElem?
  intro i
  by_cases hi : k = i
  · subst hi
    rw [List.getElem?_set_self hl, ev_ws_at h]
  · rw [List.getElem?_set_ne hi]
    simp only [ev_ws, List.getElem?_mapIdx]
    cases hq : lay[i]? with
    | none => rfl
    | some c =>
      obtain ⟨e1, e2⟩ := hs i (Ne.symm hi)
      exact congrArg some (ev_ce_congr c e1 e2).symm
theorem ev_ws_bud {n : Nat} : ev_ws ad ca lay (σ.1, σ.2.1, n) = ev_ws ad ca lay σ := by
  rfl
theorem ev_up_other {k j : Nat} {x : Int32} : ∀ i, i ≠ k → (ev_up σ k j x).1 i = σ.1 i ∧ (ev_up σ k j x).2.1 i = σ.2.1 i := fun i hi => ⟨by simp [ev_up, hi], rfl⟩
theorem ev_uL_other {k j : Nat} {x : Int64} : ∀ i, i ≠ k → (ev_uL σ k j x).1 i = σ.1 i ∧ (ev_uL σ k j x).2.1 i = σ.2.1 i := fun i hi => ⟨rfl, by simp [ev_uL, hi]⟩
theorem ev_up_self {k j : Nat} {x : Int32} : (ev_up σ k j x).1 k = upd (σ.1 k) j x := by simp [ev_up]
theorem ev_uL_self {k j : Nat} {x : Int64} : (ev_uL σ k j x).2.1 k = vp_updL (σ.2.1 k) j x := by simp [ev_uL]
theorem ev_ws_field {k ci j : Nat} {fs : List (Option Nat)} {x : Int32} (h : lay[k]? = some (.inr (ci, fs))) (hj : fs[j]? = some none) : (ev_ws ad ca lay σ).set k (ad k, .inr (ci, (fs.mapIdx (fun j f => ev_fv ad σ k j f)).set j (.int x))) = ev_ws ad ca lay (ev_up σ k j x) := by
  rw [← ev_ws_set (σ := σ) (σ' := ev_up σ k j x) h ev_up_other]
  congr 1
  show (ad k, _) = (ad k, _)
  congr 3
  apply List.ext_getElem?
  intro i
  have hl : j < (fs.mapIdx (fun j f => ev_fv ad σ k j f)).length := by
    have := (List.getElem?_eq_some_iff.mp hj).1
    simpa using this
  by_cases hi : j = i
  · subst hi
    rw [List.getElem?_set_self hl]
    simp [hj, ev_fv, ev_up, upd]
  · rw [List.getElem?_set_ne hi]
    simp only [List.getElem?_mapIdx]
    cases hq : fs[i]? with
    | none => rfl
    | some f => cases f <;> simp [ev_fv, ev_up, upd, Ne.symm hi]
/-! locals -/
def ev_pl (ad : Nat → Nat) (ls : ev_V) : List (Nat × Value) := ls.zipIdx.filterMap (fun q => q.1.map (fun v => (q.2, ev_tr ad v)))
theorem ev_pl_mem {ls : ev_V} {i : Nat} {w : Value} : (i, w) ∈ ev_pl ad ls ↔ ∃ v, ls[i]? = some (some v) ∧ w = ev_tr ad v := by
  simp only [ev_pl, List.mem_filterMap]
  constructor
  · rintro ⟨⟨o, j⟩, hj, ho⟩
    rw [List.mk_mem_zipIdx_iff_getElem?] at hj
    cases o with
    | none => cases ho
    | some v => cases ho; exact ⟨v, hj, rfl⟩
  · rintro ⟨v, h, rfl⟩
    exact ⟨(some v, i), List.mk_mem_zipIdx_iff_getElem?.mpr h, rfl⟩
theorem ev_tr_cat (v : Value) : (ev_tr ad v).category = v.category := by cases v <;> rfl
def ev_L (lsA : Array Slot) (nL : Nat) (ad : Nat → Nat) (ls : ev_V) : Prop := lv_has lsA nL (ev_pl ad ls) ∧ ∀ (i : Nat) (v : Value), ls[i]? = some (some v) → v.category = 1
variable {lsA ls2 : Array Slot} {nL : Nat} {ls : ev_V}
theorem ev_L.get (h : ev_L lsA nL ad ls) {i : Nat} {v : Value} (hi : ls[i]? = some (some v)) : lsA[i]? = some (.val (ev_tr ad v)) := h.1.2.2 (i, ev_tr ad v) (ev_pl_mem.mpr ⟨v, hi, rfl⟩)
theorem ev_set_get {ls : ev_V} {i j : Nat} {o : Option Value} {u : Value} (h : (ls.set i o)[j]? = some (some u)) : (j = i ∧ o = some u) ∨ (j ≠ i ∧ ls[j]? = some (some u)) := by
  by_cases hj : i = j
  · subst hj
    left
    by_cases hl : i < ls.length
    · rw [List.getElem?_set_self hl] at h
      exact ⟨rfl, Option.some.inj h⟩
    · rw [List.getElem?_eq_none (by simpa using hl)] at h
      cases h
  · rw [List.getElem?_set_ne hj] at h
    exact Or.inr ⟨Ne.symm hj, h⟩
theorem ev_L.kept (h : ev_L lsA nL ad ls) {i j : Nat} {w u : Value} (h2 : lv_has ls2 nL ((i, w) :: (ev_pl ad ls).filter (fun q => !(q.1 == i) && !(q.1 + 1 == i && q.2.category == 2)))) (hj : j ≠ i) (hu : ls[j]? = some (some u)) : ls2[j]? = some (.val (ev_tr ad u)) := by
  refine h2.2.2 (j, ev_tr ad u) (List.mem_cons_of_mem _ (List.mem_filter.mpr ⟨ev_pl_mem.mpr ⟨u, hu, rfl⟩, ?_⟩))
  have hc := h.2 j u hu
  simp [hj, ev_tr_cat, hc]
theorem ev_L.set (h : ev_L lsA nL ad ls) {i : Nat} {v : Value} (hv : v.category = 1) (h2 : lv_has ls2 nL ((i, ev_tr ad v) :: (ev_pl ad ls).filter (fun q => !(q.1 == i) && !(q.1 + 1 == i && q.2.category == 2)))) : ev_L ls2 nL ad (ls.set i (some v)) := by
  refine ⟨⟨h2.1, h2.2.1, fun q hq => ?_⟩, fun j u hu => ?_⟩
  · obtain ⟨j, w⟩ := q
    obtain ⟨u, hu, rfl⟩ := ev_pl_mem.mp hq
    rcases ev_set_get hu with ⟨rfl, hx⟩ | ⟨hj, hu⟩
    · cases hx
      exact h2.2.2 _ List.mem_cons_self
    · exact h.kept h2 hj hu
  · rcases ev_set_get hu with ⟨rfl, hx⟩ | ⟨hj, hu⟩
    · cases hx
      exact hv
    · exact h.2 j u hu
theorem ev_L.unset (h : ev_L lsA nL ad ls) {i : Nat} {w : Value} (h2 : lv_has ls2 nL ((i, w) :: (ev_pl ad ls).filter (fun q => !(q.1 == i) && !(q.1 + 1 == i && q.2.category == 2)))) : ev_L ls2 nL ad (ls.set i none) := by
  refine ⟨⟨h2.1, h2.2.1, fun q hq => ?_⟩, fun j u hu => ?_⟩
  · obtain ⟨j, w⟩ := q
    obtain ⟨u, hu, rfl⟩ := ev_pl_mem.mp hq
    rcases ev_set_get hu with ⟨rfl, hx⟩ | ⟨hj, hu⟩
    · cases hx
    · exact h.kept h2 hj hu
  · rcases ev_set_get hu with ⟨rfl, hx⟩ | ⟨hj, hu⟩
    · cases hx
    · exact h.2 j u hu
theorem ev_args_mem : ∀ (vs : List Value) (k i : Nat) (v : Value), (∀ u ∈ vs, u.category = 1) → vs[i]? = some v → (k + i, v) ∈ lv_args k vs := by
  intro vs
  induction vs with
  | nil => intro k i v _ h; simp at h
  | cons u t ih =>
    intro k i v hc h
    have hu : u.category = 1 := hc u List.mem_cons_self
    have e1 : lv_args k (u :: t) = (k, u) :: lv_args (k + 1) t := by simp [lv_args, hu]
    rw [e1]
    cases i with
    | zero =>
      rw [List.getElem?_cons_zero] at h
      cases h
      exact List.mem_cons_self
    | succ i =>
      rw [List.getElem?_cons_succ] at h
      have := ih (k + 1) i v (fun w hw => hc w (List.mem_cons_of_mem _ hw)) h
      rw [show k + (i + 1) = k + 1 + i by omega]
      exact List.mem_cons_of_mem _ this
theorem ev_sl_len : ∀ (vs : List Value), (∀ u ∈ vs, u.category = 1) → (lg_sl vs).length = vs.length := by
  intro vs
  induction vs with
  | nil => intro _; rfl
  | cons u t ih =>
    intro hc
    have hu : u.category = 1 := hc u List.mem_cons_self
    have := ih (fun w hw => hc w (List.mem_cons_of_mem _ hw))
    simp only [lg_sl, List.flatMap_cons, hu] at this ⊢
    simp [this]
/-- the locals at a method's entry -/
def ev_ent (vs : List Value) (nL : Nat) : ev_V := vs.map some ++ List.replicate (nL - vs.length) none
theorem ev_entry (vs : List Value) (nL : Nat) (hc : ∀ u ∈ vs, u.category = 1) (hn : vs.length ≤ nL) : ev_L ((lg_sl (vs.map (ev_tr ad)) ++ List.replicate (nL - (lg_sl (vs.map (ev_tr ad))).length) Slot.unset).toArray) nL ad (ev_ent vs nL) := by
  have hc2 : ∀ u ∈ vs.map (ev_tr ad), u.category = 1 := by
    intro u hu
    obtain ⟨w, hw, rfl⟩ := List.mem_map.mp hu
    rw [ev_tr_cat]
    exact hc w hw
  have key : ∀ (i : Nat) (v : Value), (ev_ent vs nL)[i]? = some (some v) → vs[i]? = some v := by
    intro i v h
    unfold ev_ent at h
    by_cases hl : i < vs.length
    · rw [List.getElem?_append_left (by simpa using hl), List.getElem?_map] at h
      cases hq : vs[i]? with
      | none => rw [hq] at h; cases h
      | some w => rw [hq] at h; cases h; rfl
    · rw [List.getElem?_append_right (by simpa using hl), List.getElem?_replicate] at h
      split at h <;> cases h
  have he := lv_entry (vs.map (ev_tr ad)) (n := nL) (by rw [ev_sl_len _ hc2]; simpa using hn)
  refine ⟨⟨he.1, he.2.1, fun q hq => ?_⟩, fun i v h => hc v (List.mem_of_getElem? (key i v h))⟩
  obtain ⟨i, w⟩ := q
  obtain ⟨v, hv, rfl⟩ := ev_pl_mem.mp hq
  have h1 := ev_args_mem (vs.map (ev_tr ad)) 0 i (ev_tr ad v) hc2 (by rw [List.getElem?_map, key i v hv]; rfl)
  rw [Nat.zero_add] at h1
  exact he.2.2 _ h1
end EVL
/-! switches -/
theorem ev_lk {x : Int32} {K : Nat → Prop} {pc d : Nat} {dflt : Int} (hd : (pc : Int) + dflt = (d : Int)) : ∀ (ps : List (Int × Int)) (sw : List (Int32 × Nat)), ps.map (fun q => (q.1, (pc : Int) + q.2)) = sw.map (fun q => (q.1.toInt, (q.2 : Int))) → ev_sw x K d sw →
    ∃ (off : Int) (t : Nat), Op.lookupswitch.offset ps dflt x.toInt = off ∧ (pc : Int) + off = (t : Int) ∧ K t := by
  intro ps
  induction ps with
  | nil =>
    intro sw h hs
    cases sw with
    | nil => exact ⟨dflt, d, Op.lookupswitch.offset_nil _ _, hd, hs⟩
    | cons _ _ => cases h
  | cons q ps ih =>
    intro sw h hs
    obtain ⟨a, o⟩ := q
    cases sw with
    | nil => cases h
    | cons z sw =>
      obtain ⟨v, t⟩ := z
      simp only [List.map_cons, List.cons.injEq, Prod.mk.injEq] at h
      obtain ⟨⟨ha, ho⟩, hr⟩ := h
      obtain ⟨h1, h2⟩ := hs
      by_cases hx : x = v
      · refine ⟨o, t, ?_, ho, h1 hx⟩
        rw [Op.lookupswitch.offset_cons, if_pos]
        rw [hx, ha]
      · obtain ⟨off, t', e1, e2, e3⟩ := ih sw hr (h2 hx)
        exact ⟨off, t', by rw [lv_osw hx ha.symm]; exact e1, e2, e3⟩
def ev_tok (pc : Nat) : Int → List Int → List (Int32 × Nat) → Bool
  | _, [], [] => true
  | b, o :: os, (v, t) :: sw => decide (v.toInt = b) && decide ((pc : Int) + o = (t : Int)) && ev_tok pc (b + 1) os sw
  | _, _, _ => false
theorem ev_tb {x : Int32} {K : Nat → Prop} {pc d : Nat} : ∀ (os : List Int) (sw : List (Int32 × Nat)) (b : Int), ev_tok pc b os sw = true → ev_sw x K d sw →
    (∃ (i t : Nat) (off : Int), os[i]? = some off ∧ x.toInt = b + i ∧ (pc : Int) + off = (t : Int) ∧ K t) ∨ (K d ∧ (x.toInt < b ∨ b + os.length ≤ x.toInt)) := by
  intro os
  induction os with
  | nil =>
    intro sw b h hs
    cases sw with
    | nil =>
      right
      refine ⟨hs, ?_⟩
      simp only [List.length_nil]
      omega
    | cons _ _ => cases h
  | cons o os ih =>
    intro sw b h hs
    cases sw with
    | nil => cases h
    | cons z sw =>
      obtain ⟨v, t⟩ := z
      simp only [ev_tok, Bool.and_eq_true, decide_eq_true_eq] at h
      obtain ⟨⟨hv, ho⟩, hr⟩ := h
      obtain ⟨h1, h2⟩ := hs
      by_cases hx : x = v
      · left
        exact ⟨0, t, o, rfl, by rw [hx, hv]; simp, ho, h1 hx⟩
      · have hne : x.toInt ≠ b := fun z => hx (Int32.toInt_inj.mp (by rw [z, hv]))
        rcases ih sw (b + 1) hr (h2 hx) with ⟨i, t', off, e1, e2, e3, e4⟩ | ⟨e1, e2⟩
        · left
          exact ⟨i + 1, t', off, by rw [List.getElem?_cons_succ]; exact e1, by rw [e2]; omega, e3, e4⟩
        · right
          refine ⟨e1, ?_⟩
          simp only [List.length_cons]
          omega
end
section
/-! THE EVALUATOR IS RIGHT: one instruction, many instructions -/
/-- the class tables of the world: fields laid, their types, their names apart -/
def ev_Cl (TB : List Jvm.Cond) (cl : List vw_C) : Prop := ∀ (ci : Nat) (C : String) (T : u_T) (N : Nat), cl[ci]? = some (C, T, N) → (∀ w ∈ u_ws C T N, w ∈ TB) ∧ (∃ ty : Nat → FieldType, ∀ k, k < N → parseFieldDescriptor (T k).2.2.1 = some (ty k)) ∧ (∀ a, a < N → ∀ b, b < N → a ≠ b → (T a).2.1 ≠ (T b).2.1)
/-- words that only the tables say: they hold in every later state, whatever the arguments -/
def ev_Tb (TB : List Jvm.Cond) : Prop := ∀ w ∈ TB, ∀ (a a' : Array Value) (u U : State), u.WarmedH U.vm → w.before a u = true → w.before a' U = true
/-- the two statics that a new exception reads -/
def ev_ZA : List Jvm.Cond := [.laysStatic "java/lang/Throwable" "UNASSIGNED_STACK" "[Ljava/lang/StackTraceElement;", .laysStatic "java/lang/Throwable" "SUPPRESSED_SENTINEL" "Ljava/util/List;", .isRef (.static "java/lang/Throwable" "UNASSIGNED_STACK" "[Ljava/lang/StackTraceElement;"), .isRef (.static "java/lang/Throwable" "SUPPRESSED_SENTINEL" "Ljava/util/List;")]
def ev_Z (A : Nat → Prop) (U : State) (H : Heap) : Prop := ∀ U' : State, U.vm.Alike U'.vm → (∀ a : Nat, a < H.size → ¬ A a → U'.heap[a]? = H[a]?) → ∀ w ∈ ev_ZA, ∀ a : Array Value, w.before a U' = true
theorem ev_Z.moved {A : Nat → Prop} {u U : State} {H : Heap} (hz : ev_Z A u H) (h : u.vm.Alike U.vm) : ev_Z A U H := fun U' h1 h2 => hz U' (h.trans h1) h2
theorem ev_Z.kept {A : Nat → Prop} {U : State} {H H1 : Heap} (hz : ev_Z A U H) (hs : H.size ≤ H1.size) (hq : ∀ a : Nat, a < H.size → ¬ A a → H1[a]? = H[a]?) : ev_Z A U H1 := fun U' h1 h2 => hz U' h1 (fun a l n => (h2 a (Nat.lt_of_lt_of_le l hs) n).trans (hq a l n))
theorem ev_Z.narrow {A B : Nat → Prop} {U : State} {H : Heap} (hz : ev_Z A U H) (hAB : ∀ q, B q → A q) : ev_Z B U H := fun U' h1 h2 => hz U' h1 (fun a l n => h2 a l (fun z => n (hAB a z)))
theorem ev_Z.here {A : Nat → Prop} {U : State} (hz : ev_Z A U U.heap) : ∀ w ∈ ev_ZA, ∀ a : Array Value, w.before a U = true := hz U (Vm.Alike.refl _) (fun _ _ _ => rfl)
theorem ev_Z_lays {s U : State} {A A' : Array Value} {C n d : String} (hvm : s.vm.Alike U.vm) (hh : ∀ a : Nat, a < s.heap.size → U.heap[a]? = s.heap[a]?) (h : (Jvm.Cond.laysStatic C n d).before A s = true) : (Jvm.Cond.laysStatic C n d).before A' U = true := by
  obtain ⟨c, k, i, f, a, cell, hc, hi, hst, ha, hcell, hs, hcls, hlt, hty⟩ := Cond.laysStatic_spec h
  obtain ⟨k', hi', he⟩ := State.fieldFound?_setVm hvm hi
  have hi' : U.fieldFound? C n d = some (c, k', i, f) := hi'
  have hcell' : U.heap[a]? = some cell := by rw [hh a (Array.getElem?_eq_some_iff.mp hcell).1]; exact hcell
  have hc' : U.vm.findClass C = some c := by rw [hvm.findClass]; exact hc
  have ha' : k'.statics = some a := by rw [he]; exact ha
  have hty' : k'.staticTypes[f.slot]? = some f.type := by rw [he]; exact hty
  simp [Jvm.Cond.before, Jvm.Cond.holds, Jvm.Cond.value, hc', hi', ha', hcell', hst, hs, hcls, hlt, hty']
theorem ev_Z_ref {s U : State} {A A' : Array Value} {C n d : String} (hvm : s.vm.Alike U.vm) (hh : ∀ a : Nat, a < s.heap.size → U.heap[a]? = s.heap[a]?) (hl : (Jvm.Cond.laysStatic C n d).before A s = true) (h : (Jvm.Cond.isRef (.static C n d)).before A s = true) : (Jvm.Cond.isRef (.static C n d)).before A' U = true := by
  obtain ⟨c, k, i, f, a, cell, hc, hi, hst, ha, hcell, hs, hcls, hlt, hty⟩ := Cond.laysStatic_spec hl
  obtain ⟨k', hi', he⟩ := State.fieldFound?_setVm hvm hi
  have hi' : U.fieldFound? C n d = some (c, k', i, f) := hi'
  have hcell' : U.heap[a]? = some cell := by rw [hh a (Array.getElem?_eq_some_iff.mp hcell).1]; exact hcell
  have ha' : k'.statics = some a := by rw [he]; exact ha
  simp only [Jvm.Cond.before, Jvm.Cond.holds, Jvm.Cond.value, Jvm.Term.eval, State.fieldNamed?, hi, hi', hst, ha, ha', hcell, hcell', hs] at h ⊢
  simpa [hst, ha', hcell', hs, ha, hcell] using h
theorem ev_Z.of {A : Nat → Prop} {s : State} {a : Array Value} (hA : ∀ q : Nat, q < s.heap.size → ¬ A q) (h : ∀ w ∈ ev_ZA, w.before a s = true) : ev_Z A s s.heap := by
  intro U' hvm hh w hw a'
  have hh2 : ∀ q : Nat, q < s.heap.size → U'.heap[q]? = s.heap[q]? := fun q hq => hh q hq (hA q hq)
  have l1 := h _ (List.mem_cons_self : _ ∈ ev_ZA)
  have l2 := h _ (List.mem_cons_of_mem _ List.mem_cons_self : _ ∈ ev_ZA)
  have l3 := h _ (List.mem_cons_of_mem _ (List.mem_cons_of_mem _ List.mem_cons_self) : _ ∈ ev_ZA)
  have l4 := h _ (List.mem_cons_of_mem _ (List.mem_cons_of_mem _ (List.mem_cons_of_mem _ List.mem_cons_self)) : _ ∈ ev_ZA)
  rcases List.mem_cons.mp hw with rfl | hw
  · exact ev_Z_lays hvm hh2 l1
  rcases List.mem_cons.mp hw with rfl | hw
  · exact ev_Z_lays hvm hh2 l2
  rcases List.mem_cons.mp hw with rfl | hw
  · exact ev_Z_ref hvm hh2 l1 l3
  rcases List.mem_cons.mp hw with rfl | hw
  · exact ev_Z_ref hvm hh2 l2 l4
  · cases hw
/-- the kinds of exception -/
def ev_xn (k : Nat) : String := match k with
  | 0 => "java/lang/IllegalArgumentException"
  | 1 => "java/lang/IllegalStateException"
  | _ => "java/lang/IndexOutOfBoundsException"
/-- a method: name, bytes, locals, what it returns, its handlers, frames and words of room -/
abbrev ev_M : Type := MethodName × ByteArray × Nat × Option FieldType × List (Nat × Nat × Nat × Nat) × Nat × Nat
def ev_cw (q : ev_M) : Jvm.Cond := match q.2.2.2.2.1 with
  | [] => .code q.1 q.2.1 q.2.2.1 q.2.2.2.1
  | hh => .codeWith q.1 q.2.1 q.2.2.1 q.2.2.2.1 hh
def ev_rm (q : ev_M) (b : Nat) : Room := { frames := q.2.2.2.2.2.1, locals := q.2.2.2.2.2.2, cells := b, slots := 6 * b }
def ev_Ty (lay : List ev_C) (ca : Nat → ClassId) (tys : List (ClassId × FieldType)) : Prop := ∀ (k n : Nat) (ty : FieldType), lay[k]? = some (.inl (ty, n)) → ∃ t0 : Nat, tys[t0]? = some (ca k, ty)
def ev_Pc (TB : List Jvm.Cond) (cl : List vw_C) (lay : List ev_C) (D : va_G) (ad : Nat → Nat) (ca : Nat → ClassId) (tys : List (ClassId × FieldType)) (vs : List Value) (σ : ev_W) (sz : Nat) : Array Value → State → Prop := fun a U =>
  a = (vs.map (ev_tr ad)).toArray ∧ U.heap.size = sz ∧ va_P D cl (ev_ws ad ca lay σ) U.heap ∧ va_K D cl tys U ∧ va_D (fun _ => True) (ev_ws ad ca lay σ) ∧ (∀ w ∈ TB, w.before #[] U = true) ∧ ev_Z (va_A (ev_ws ad ca lay σ) sz) U U.heap
def ev_Qc (cl : List vw_C) (lay : List ev_C) (D : va_G) (ad : Nat → Nat) (ca : Nat → ClassId) (σ : ev_W) (sz : Nat) (P : (Option Value ⊕ Nat) → ev_W → Prop) : Nat → Array Value → State → Outcome → State → Prop := fun k _ st oc t =>
  ∃ (o : Option Value ⊕ Nat) (σ' : ev_W), P o σ' ∧ k + σ'.2.2 ≤ σ.2.2 ∧ va_F (va_A (ev_ws ad ca lay σ) sz) st t ∧ va_P D cl (ev_ws ad ca lay σ') t.heap ∧ (match o with
    | .inl v => oc = .returned (v.map (ev_tr ad))
    | .inr k => ∃ (x : Addr) (ce : Cell), oc = .threw x ∧ t.heap[x]? = some ce ∧ st.vm.findClass (ev_xn k) = some ce.cls ∧ ce.vm = .none)
/-- a method does what F says -/
def ev_Snd (l : Launch) (TB : List Jvm.Cond) (cl : List vw_C) (lay : List ev_C) (F : ev_F) (mt : Nat → Option ev_M) (j : Nat) : Prop :=
  ∀ (q : ev_M) (D : va_G) (ad : Nat → Nat) (ca : Nat → ClassId) (tys : List (ClassId × FieldType)) (vs : List Value) (σ : ev_W) (P : (Option Value ⊕ Nat) → ev_W → Prop) (sz : Nat), mt j = some q → ev_Ty lay ca tys → F j vs σ = some P →
    ev_Met l q.1 (ev_cw q) (ev_rm q σ.2.2) (ev_Pc TB cl lay D ad ca tys vs σ sz) (ev_Qc cl lay D ad ca σ sz P) (va_A (ev_ws ad ca lay σ) sz)
/-- what F takes as the object whose method is called -/
def ev_Rc (cl : List vw_C) (lay : List ev_C) (F : ev_F) (mt : Nat → Option ev_M) (j : Nat) : Prop :=
  ∀ (q : ev_M) (vs : List Value) (σ : ev_W) (r : (Option Value ⊕ Nat) → ev_W → Prop), mt j = some q → F j vs σ = some r → ∃ (b : Nat) (t : List Value) (ci : Nat) (fs : List (Option Nat)) (T : u_T) (N : Nat), vs = .ref b :: t ∧ lay[b]? = some (.inr (ci, fs)) ∧ cl[ci]? = some (q.1.cls, T, N)
/-- the row of a method's table says what stands in its bytes -/
def ev_ok (hs : Jvm.Cond → Bool) (cl : List vw_C) (mt : Nat → Option ev_M) (own host : String) (cc : ByteArray) (nL fr lo : Nat) (pc : Nat) (q : ev_I) : Bool :=
  decide (decode cc pc = .ok (q.1, q.2.1)) && match q.1 with
  | .iconst n => decide (q.2.1 = 1) && decide (Int32.ofInt n = q.2.2.2.2.1)
  | .bipush n => decide (q.2.1 = 2) && decide ((Int8.ofInt n).toInt32 = q.2.2.2.2.1)
  | .sipush n => decide (q.2.1 = 3) && decide ((Int16.ofInt n).toInt32 = q.2.2.2.2.1)
  | .ldc i => decide (q.2.1 = 2) && hs (.constant own i q.2.2.2.2.1)
  | .ldc_w i => decide (q.2.1 = 3) && hs (.constant own i q.2.2.2.2.1)
  | .lconst _ => decide (q.2.1 = 1)
  | .iload i => decide (q.2.1 = 2) && decide (i = q.2.2.1)
  | .iload_n i => decide (q.2.1 = 1) && decide ((i : Nat) = q.2.2.1)
  | .aload i => decide (q.2.1 = 2) && decide (i = q.2.2.1)
  | .aload_n i => decide (q.2.1 = 1) && decide ((i : Nat) = q.2.2.1)
  | .istore i => decide (q.2.1 = 2) && decide (i = q.2.2.1) && decide (q.2.2.1 < nL)
  | .istore_n i => decide (q.2.1 = 1) && decide ((i : Nat) = q.2.2.1) && decide (q.2.2.1 < nL)
  | .astore i => decide (q.2.1 = 2) && decide (i = q.2.2.1) && decide (q.2.2.1 < nL)
  | .astore_n i => decide (q.2.1 = 1) && decide ((i : Nat) = q.2.2.1) && decide (q.2.2.1 < nL)
  | .iinc i n => decide (q.2.1 = 3) && decide (i = q.2.2.1) && decide (Int32.ofInt n = q.2.2.2.2.1) && decide (q.2.2.1 < nL)
  | .ifCond _ off => decide (q.2.1 = 3) && decide ((pc : Int) + off = (q.2.2.1 : Int))
  | .if_icmp _ off => decide (q.2.1 = 3) && decide ((pc : Int) + off = (q.2.2.1 : Int))
  | .goto off => decide (q.2.1 = 3) && decide ((pc : Int) + off = (q.2.2.1 : Int))
  | .tableswitch d lo hi offs => decide ((pc : Int) + d = (q.2.2.1 : Int)) && ev_tok pc lo offs.toList q.2.2.2.2.2 && decide (hi + 1 = lo + offs.toList.length)
  | .lookupswitch d ps => decide ((pc : Int) + d = (q.2.2.1 : Int)) && decide (ps.toList.map (fun z => (z.1, (pc : Int) + z.2)) = q.2.2.2.2.2.map (fun z => (z.1.toInt, (z.2 : Int)))) && (ps.toList.zip (ps.toList.drop 1)).all (fun (a, next) => a.1 < next.1)
  | .getfield i => decide (q.2.1 = 3) && match cl[q.2.2.1]? with
    | some (_, T, N) => decide (q.2.2.2.1 < N) && (hs (.fieldLink own i (T q.2.2.2.1).1 (T q.2.2.2.1).2.1 (T q.2.2.2.1).2.2.1) || hs (.fieldLinkNest own i (T q.2.2.2.1).1 (T q.2.2.2.1).2.1 (T q.2.2.2.1).2.2.1 host))
    | none => false
  | .putfield i => decide (q.2.1 = 3) && match cl[q.2.2.1]? with
    | some (_, T, N) => decide (q.2.2.2.1 < N) && decide ((T q.2.2.2.1).2.2.2 = false) && decide (parseFieldDescriptor (T q.2.2.2.1).2.2.1 = some (if q.2.2.2.2.1 = 0 then .int else .boolean)) && (hs (.fieldLink own i (T q.2.2.2.1).1 (T q.2.2.2.1).2.1 (T q.2.2.2.1).2.2.1) || hs (.fieldLinkNest own i (T q.2.2.2.1).1 (T q.2.2.2.1).2.1 (T q.2.2.2.1).2.2.1 host))
    | none => false
  | .invokevirtual i => decide (q.2.1 = 3) && match mt q.2.2.1 with
    | some y => hs (.instanceMethod y.1) && hs (.selects y.1.cls y.1 y.1) && hs (.initialized y.1.cls) && decide (y.1.cls ≠ "java/lang/invoke/MethodHandle" ∧ y.1.cls ≠ "java/lang/invoke/VarHandle") && decide ((parseMethodDescriptor y.1.desc).map (fun d => d.parameters.length + 1) = some q.2.2.2.1) && decide (y.2.2.2.2.1 = []) && decide (y.2.2.2.2.2.1 + 1 ≤ fr) && decide (8 + (y.2.2.1 + 11) + y.2.2.2.2.2.2 ≤ lo) && (hs (.methodLink own i y.1) || hs (.methodLinkNest own i y.1 host))
    | none => false
  | .invokestatic i => decide (q.2.1 = 3) && match mt q.2.2.1 with
    | some y => hs (.static y.1) && hs (.initialized y.1.cls) && decide (y.1.cls ≠ "java/lang/invoke/MethodHandle" ∧ y.1.cls ≠ "java/lang/invoke/VarHandle") && decide ((parseMethodDescriptor y.1.desc).map (fun d => d.parameters.length) = some q.2.2.2.1) && decide (y.2.2.2.2.2.1 + 1 ≤ fr) && decide (8 + (y.2.2.1 + 11) + y.2.2.2.2.2.2 ≤ lo) && (hs (.methodLink own i y.1) || hs (.methodLinkNest own i y.1 host))
    | none => false
  | _ => decide (q.2.1 = 1)
section EVT
variable {p : Program} {l : Launch} {e : Env} {R : Room} {s : State} {m : MethodId} {args : Array Value} {below : List Frame} {meth : Method} {c : Code} {Q : State → Prop}
variable {TB : List Jvm.Cond} {cl : List vw_C} {lay : List ev_C} {xo : Option (Nat × (Nat → Int32))} {F : ev_F} {mt : Nat → Option ev_M} {hd : List (Nat × Nat × Nat × Nat)} {own host : String} {cc : ByteArray} {nL : Nat} {D : va_G} {ad : Nat → Nat} {ca : Nat → ClassId} {tys : List (ClassId × FieldType)} {A : Nat → Prop}
theorem ev_D_any {σ σ' : ev_W} (h : va_D A (ev_ws ad ca lay σ)) : va_D A (ev_ws ad ca lay σ') := by
  have key : ∀ (k : Nat) (z : Nat × va_E), (ev_ws ad ca lay σ')[k]? = some z → ∃ z0, (ev_ws ad ca lay σ)[k]? = some z0 ∧ z0.1 = z.1 := by
    intro k z hz
    obtain ⟨q, hq, rfl⟩ := ev_ws_get hz
    exact ⟨_, ev_ws_at hq, rfl⟩
  refine ⟨fun i j x y hi hj hxy => ?_, fun k q hk => ?_⟩
  · obtain ⟨x0, h1, h2⟩ := key i x hi
    obtain ⟨y0, h3, h4⟩ := key j y hj
    exact h.1 i j x0 y0 h1 h3 (h2.trans (hxy.trans h4.symm))
  · obtain ⟨q0, h1, h2⟩ := key k q hk
    rw [← h2]
    exact h.2 k q0 h1
/-- where the machine stands: the world, its frame, the room -/
def ev_I0 (R : Room) (s : State) (cl : List vw_C) (lay : List ev_C) (D : va_G) (ad : Nat → Nat) (ca : Nat → ClassId) (A : Nat → Prop) (σ : ev_W) (H : Heap) (locs : List Loc) (cells slots : Nat) : Prop :=
  va_P D cl (ev_ws ad ca lay σ) H ∧ va_D A (ev_ws ad ca lay σ) ∧ va_S A s.heap H locs ∧ cells + σ.2.2 ≤ R.cells ∧ slots + 6 * σ.2.2 ≤ R.slots
/-- what is known of the invocation -/
def ev_X (p : Program) (l : Launch) (s : State) (m : MethodId) (args : Array Value) (c : Code) (TB : List Jvm.Cond) (cl : List vw_C) (lay : List ev_C) (xo : Option (Nat × (Nat → Int32))) (F : ev_F) (mt : Nat → Option ev_M) (own : String) (cc : ByteArray) (nL : Nat) (D : va_G) (ad : Nat → Nat) (ca : Nat → ClassId) (tys : List (ClassId × FieldType)) (A : Nat → Prop) : Prop :=
  p.tables.exec = Jvm.exec ∧ c.code = cc ∧ c.maxLocals = nL ∧ s.vm.findClass own = some m.cls ∧ (∀ w ∈ TB, w.before args s = true) ∧ ev_Tb TB ∧ ev_Cl TB cl ∧ va_K D cl tys s ∧ ev_Ty lay ca tys ∧ (∀ q, s.heap.size ≤ q → A q) ∧ ev_Z A s s.heap ∧
    (∀ (L : Nat) (xs : Nat → Int32), xo = some (L, xs) → va_X (ad 999) L xs s s.heap ∧ ad 999 < s.heap.size ∧ ¬ A (ad 999))
/-- the goal at a place -/
def ev_G (p : Program) (l : Launch) (e : Env) (R : Room) (s : State) (m : MethodId) (args : Array Value) (below : List Frame) (meth : Method) (c : Code) (Q : State → Prop) (cl : List vw_C) (lay : List ev_C) (nL : Nat) (D : va_G) (ad : Nat → Nat) (ca : Nat → ClassId) (A : Nat → Prop) : ev_K := fun pc ls st σ =>
  ∀ (H : Heap) (locs : List Loc) (cells slots : Nat) (lsA : Array Slot), ev_I0 R s cl lay D ad ca A σ H locs cells slots → ev_L lsA nL ad ls → W p l e R s m args below meth c H locs cells slots Q (F0 m pc lsA (st.map (ev_tr ad)))
variable {K : ev_K} {pc : Nat} {ls : ev_V} {st : List Value} {σ : ev_W} {H : Heap} {locs : List Loc} {cells slots : Nat} {lsA : Array Slot}
theorem ev_b2_s {f : Int32 → Int32 → Int32} (row : ∀ {x y : Int32} {rest : List Value}, W p l e R s m args below meth c H locs cells slots Q (F0 m (pc + 1) lsA (.int (f x y) :: rest)) → W p l e R s m args below meth c H locs cells slots Q (F0 m pc lsA (.int y :: .int x :: rest)))
    (hK : ∀ pc ls st σ, K pc ls st σ → ev_G p l e R s m args below meth c Q cl lay nL D ad ca A pc ls st σ) (hI : ev_I0 R s cl lay D ad ca A σ H locs cells slots) (hL : ev_L lsA nL ad ls) (h : ev_b2 f pc ls st σ K) : W p l e R s m args below meth c H locs cells slots Q (F0 m pc lsA (st.map (ev_tr ad))) := by
  unfold ev_b2 at h
  split at h
  · exact row (hK _ _ _ _ h H locs cells slots lsA hI hL)
  · exact h.elim
theorem ev_dv_s {f : Int32 → Int32 → Int32} (row : ∀ {x y : Int32} {rest : List Value}, ¬ y = 0 → W p l e R s m args below meth c H locs cells slots Q (F0 m (pc + 1) lsA (.int (f x y) :: rest)) → W p l e R s m args below meth c H locs cells slots Q (F0 m pc lsA (.int y :: .int x :: rest)))
    (hK : ∀ pc ls st σ, K pc ls st σ → ev_G p l e R s m args below meth c Q cl lay nL D ad ca A pc ls st σ) (hI : ev_I0 R s cl lay D ad ca A σ H locs cells slots) (hL : ev_L lsA nL ad ls) (h : ev_dv f pc ls st σ K) : W p l e R s m args below meth c H locs cells slots Q (F0 m pc lsA (st.map (ev_tr ad))) := by
  unfold ev_dv at h
  split at h
  · split at h
    · exact h.elim
    · rename_i hne
      exact row hne (hK _ _ _ _ h H locs cells slots lsA hI hL)
  · exact h.elim
theorem ev_c1_s {P : Int32 → Prop} {t1 t2 : Nat} (row : ∀ {x : Int32} {rest : List Value}, (P x → W p l e R s m args below meth c H locs cells slots Q (F0 m t1 lsA rest)) → (¬ P x → W p l e R s m args below meth c H locs cells slots Q (F0 m t2 lsA rest)) → W p l e R s m args below meth c H locs cells slots Q (F0 m pc lsA (.int x :: rest)))
    (hK : ∀ pc ls st σ, K pc ls st σ → ev_G p l e R s m args below meth c Q cl lay nL D ad ca A pc ls st σ) (hI : ev_I0 R s cl lay D ad ca A σ H locs cells slots) (hL : ev_L lsA nL ad ls) (h : ev_c1 P t1 t2 ls st σ K) : W p l e R s m args below meth c H locs cells slots Q (F0 m pc lsA (st.map (ev_tr ad))) := by
  unfold ev_c1 at h
  split at h
  · exact row (fun z => hK _ _ _ _ (h.1 z) H locs cells slots lsA hI hL) (fun z => hK _ _ _ _ (h.2 z) H locs cells slots lsA hI hL)
  · exact h.elim
theorem ev_c2_s {P : Int32 → Int32 → Prop} {t1 t2 : Nat} (row : ∀ {x y : Int32} {rest : List Value}, (P x y → W p l e R s m args below meth c H locs cells slots Q (F0 m t1 lsA rest)) → (¬ P x y → W p l e R s m args below meth c H locs cells slots Q (F0 m t2 lsA rest)) → W p l e R s m args below meth c H locs cells slots Q (F0 m pc lsA (.int y :: .int x :: rest)))
    (hK : ∀ pc ls st σ, K pc ls st σ → ev_G p l e R s m args below meth c Q cl lay nL D ad ca A pc ls st σ) (hI : ev_I0 R s cl lay D ad ca A σ H locs cells slots) (hL : ev_L lsA nL ad ls) (h : ev_c2 P t1 t2 ls st σ K) : W p l e R s m args below meth c H locs cells slots Q (F0 m pc lsA (st.map (ev_tr ad))) := by
  unfold ev_c2 at h
  split at h
  · exact row (fun z => hK _ _ _ _ (h.1 z) H locs cells slots lsA hI hL) (fun z => hK _ _ _ _ (h.2 z) H locs cells slots lsA hI hL)
  · exact h.elim
theorem ev_li_s {t i : Nat} (row : ∀ {x : Int32} {rest : List Value}, lsA[i]? = some (.val (.int x)) → W p l e R s m args below meth c H locs cells slots Q (F0 m t lsA (.int x :: rest)) → W p l e R s m args below meth c H locs cells slots Q (F0 m pc lsA rest))
    (hK : ∀ pc ls st σ, K pc ls st σ → ev_G p l e R s m args below meth c Q cl lay nL D ad ca A pc ls st σ) (hI : ev_I0 R s cl lay D ad ca A σ H locs cells slots) (hL : ev_L lsA nL ad ls) (h : ev_li t i ls st σ K) : W p l e R s m args below meth c H locs cells slots Q (F0 m pc lsA (st.map (ev_tr ad))) := by
  unfold ev_li at h
  split at h
  · rename_i x hx
    exact row (hL.get hx) (hK _ _ _ _ h H locs cells slots lsA hI hL)
  · exact h.elim
theorem ev_la_s {t i : Nat} (row : ∀ {x : Nat} {rest : List Value}, lsA[i]? = some (.val (.ref x)) → W p l e R s m args below meth c H locs cells slots Q (F0 m t lsA (.ref x :: rest)) → W p l e R s m args below meth c H locs cells slots Q (F0 m pc lsA rest))
    (hK : ∀ pc ls st σ, K pc ls st σ → ev_G p l e R s m args below meth c Q cl lay nL D ad ca A pc ls st σ) (hI : ev_I0 R s cl lay D ad ca A σ H locs cells slots) (hL : ev_L lsA nL ad ls) (h : ev_la t i ls st σ K) : W p l e R s m args below meth c H locs cells slots Q (F0 m pc lsA (st.map (ev_tr ad))) := by
  unfold ev_la at h
  split at h
  · rename_i x hx
    exact row (hL.get hx) (hK _ _ _ _ h H locs cells slots lsA hI hL)
  · exact h.elim
theorem ev_si_s {t i : Nat} (row : ∀ {x : Int32} {rest : List Value}, (∀ ls2 : Array Slot, lv_has ls2 nL ((i, Value.int x) :: (ev_pl ad ls).filter (fun q => !(q.1 == i) && !(q.1 + 1 == i && q.2.category == 2))) → W p l e R s m args below meth c H locs cells slots Q (F0 m t ls2 rest)) → W p l e R s m args below meth c H locs cells slots Q (F0 m pc lsA (.int x :: rest)))
    (hK : ∀ pc ls st σ, K pc ls st σ → ev_G p l e R s m args below meth c Q cl lay nL D ad ca A pc ls st σ) (hI : ev_I0 R s cl lay D ad ca A σ H locs cells slots) (hL : ev_L lsA nL ad ls) (h : ev_si t i ls st σ K) : W p l e R s m args below meth c H locs cells slots Q (F0 m pc lsA (st.map (ev_tr ad))) := by
  unfold ev_si at h
  split at h
  · rename_i x r
    exact row (fun ls2 h2 => hK _ _ _ _ h H locs cells slots ls2 hI (hL.set (v := .int x) rfl h2))
  · exact h.elim
theorem ev_sa_s {t i : Nat} (row : ∀ {x : Nat} {rest : List Value}, (∀ ls2 : Array Slot, lv_has ls2 nL ((i, Value.ref x) :: (ev_pl ad ls).filter (fun q => !(q.1 == i) && !(q.1 + 1 == i && q.2.category == 2))) → W p l e R s m args below meth c H locs cells slots Q (F0 m t ls2 rest)) → W p l e R s m args below meth c H locs cells slots Q (F0 m pc lsA (.ref x :: rest)))
    (hK : ∀ pc ls st σ, K pc ls st σ → ev_G p l e R s m args below meth c Q cl lay nL D ad ca A pc ls st σ) (hI : ev_I0 R s cl lay D ad ca A σ H locs cells slots) (hL : ev_L lsA nL ad ls) (h : ev_sa t i ls st σ K) : W p l e R s m args below meth c H locs cells slots Q (F0 m pc lsA (st.map (ev_tr ad))) := by
  unfold ev_sa at h
  split at h
  · rename_i x r
    exact row (fun ls2 h2 => hK _ _ _ _ h H locs cells slots ls2 hI (hL.set (v := .ref x) rfl h2))
  · exact h.elim
end EVT
end
section
/-! THE EVALUATOR IS RIGHT: fields and arrays -/
section EVU
variable {p : Program} {l : Launch} {e : Env} {R : Room} {s : State} {m : MethodId} {args : Array Value} {below : List Frame} {meth : Method} {c : Code} {Q : State → Prop}
variable {TB : List Jvm.Cond} {cl : List vw_C} {lay : List ev_C} {xo : Option (Nat × (Nat → Int32))} {F : ev_F} {mt : Nat → Option ev_M} {hd : List (Nat × Nat × Nat × Nat)} {own host : String} {cc : ByteArray} {nL : Nat} {D : va_G} {ad : Nat → Nat} {ca : Nat → ClassId} {tys : List (ClassId × FieldType)} {A : Nat → Prop}
variable {K : ev_K} {pc : Nat} {ls : ev_V} {st : List Value} {σ : ev_W} {H : Heap} {locs : List Loc} {cells slots : Nat} {lsA : Array Slot}
theorem ev_gf_s (hX : ev_X p l s m args c TB cl lay xo F mt own cc nL D ad ca tys A) {ci k i N : Nat} {C : String} {T : u_T} (hc : cl[ci]? = some (C, T, N)) (hk : k < N) (hlk : .fieldLink own i (T k).1 (T k).2.1 (T k).2.2.1 ∈ TB ∨ .fieldLinkNest own i (T k).1 (T k).2.1 (T k).2.2.1 host ∈ TB) (hdg : decode cc pc = .ok (.getfield i, 3))
    (hK : ∀ pc ls st σ, K pc ls st σ → ev_G p l e R s m args below meth c Q cl lay nL D ad ca A pc ls st σ) (hI : ev_I0 R s cl lay D ad ca A σ H locs cells slots) (hL : ev_L lsA nL ad ls) (h : ev_gf lay ci k pc ls st σ K) : W p l e R s m args below meth c H locs cells slots Q (F0 m pc lsA (st.map (ev_tr ad))) := by
  obtain ⟨hx, hb, hml, hown, hts, htb, hCl, hKs, hTy, hA, hZ, hXo⟩ := hX
  have hP := hI.1
  unfold ev_gf at h
  split at h
  · rename_i a r
    split at h
    · rename_i cj fs hq
      split at h
      · rename_i hcj
        subst hcj
        have he : (ev_ws ad ca lay σ)[a]? = some (ad a, .inr (cj, fs.mapIdx (fun j f => ev_fv ad σ a j f))) := ev_ws_at hq
        split at h
        · rename_i hf
          have hv : (fs.mapIdx (fun j f => ev_fv ad σ a j f))[k]? = some (.int (σ.1 a k)) := by simp [hf, ev_fv]
          rcases hlk with hl | hl
          · exact va_get (D := D) (ci := cj) (v := .int (σ.1 a k)) (C := C) (T := T) (N := N) hx hb hts (hCl _ _ _ _ hc).1 hown hKs hP a he hc k hk (hts _ hl) (fun _ h9 => h9) hv hdg (hK _ _ _ _ h H locs cells slots lsA hI hL)
          · exact va_getN (D := D) (ci := cj) (v := .int (σ.1 a k)) (C := C) (T := T) (N := N) hx hb hts (hCl _ _ _ _ hc).1 hown hKs hP a he hc k hk (hts _ hl) (fun _ h9 => h9) hv hdg (hK _ _ _ _ h H locs cells slots lsA hI hL)
        · rename_i b hf
          have hv : (fs.mapIdx (fun j f => ev_fv ad σ a j f))[k]? = some (.ref (ad b)) := by simp [hf, ev_fv]
          rcases hlk with hl | hl
          · exact va_get (D := D) (ci := cj) (v := .ref (ad b)) (C := C) (T := T) (N := N) hx hb hts (hCl _ _ _ _ hc).1 hown hKs hP a he hc k hk (hts _ hl) (fun _ h9 => h9) hv hdg (hK _ _ _ _ h H locs cells slots lsA hI hL)
          · exact va_getN (D := D) (ci := cj) (v := .ref (ad b)) (C := C) (T := T) (N := N) hx hb hts (hCl _ _ _ _ hc).1 hown hKs hP a he hc k hk (hts _ hl) (fun _ h9 => h9) hv hdg (hK _ _ _ _ h H locs cells slots lsA hI hL)
        · exact h.elim
      · exact h.elim
    · exact h.elim
  · exact h.elim
theorem ev_pf_s (hX : ev_X p l s m args c TB cl lay xo F mt own cc nL D ad ca tys A) {ci k i N : Nat} {C : String} {T : u_T} {z : Int32} (hc : cl[ci]? = some (C, T, N)) (hk : k < N) (hfin : (T k).2.2.2 = false) (hpd : parseFieldDescriptor (T k).2.2.1 = some (if z = 0 then .int else .boolean)) (hlk : .fieldLink own i (T k).1 (T k).2.1 (T k).2.2.1 ∈ TB ∨ .fieldLinkNest own i (T k).1 (T k).2.1 (T k).2.2.1 host ∈ TB) (hdg : decode cc pc = .ok (.putfield i, 3))
    (hK : ∀ pc ls st σ, K pc ls st σ → ev_G p l e R s m args below meth c Q cl lay nL D ad ca A pc ls st σ) (hI : ev_I0 R s cl lay D ad ca A σ H locs cells slots) (hL : ev_L lsA nL ad ls) (h : ev_pf lay ci k z pc ls st σ K) : W p l e R s m args below meth c H locs cells slots Q (F0 m pc lsA (st.map (ev_tr ad))) := by
  obtain ⟨hx, hb, hml, hown, hts, htb, hCl, hKs, hTy, hA, hZ, hXo⟩ := hX
  obtain ⟨hP, hD, hS, hr1, hr2⟩ := hI
  obtain ⟨hin, ⟨ty0, hty⟩, hnm⟩ := hCl _ _ _ _ hc
  unfold ev_pf at h
  split at h
  · rename_i x a r
    split at h
    · rename_i cj fs hq
      split at h
      · rename_i hcj
        subst hcj
        have he : (ev_ws ad ca lay σ)[a]? = some (ad a, .inr (cj, fs.mapIdx (fun j f => ev_fv ad σ a j f))) := ev_ws_at hq
        split at h
        · rename_i hf
          have hlen : k < (fs.mapIdx (fun j f => ev_fv ad σ a j f)).length := by
            have := (List.getElem?_eq_some_iff.mp hf).1
            simpa using this
          have go : ∀ ty : FieldType, parseFieldDescriptor (T k).2.2.1 = some ty → narrow ty (.int x) = .int x → fits ty (.int x) = true → K (pc + 3) ls r (ev_up σ a k x) → W p l e R s m args below meth c H locs cells slots Q (F0 m pc lsA (.int x :: .ref (ad a) :: r.map (ev_tr ad))) := by
            intro ty h1 h2 h3 h4
            have kk : ∀ (H1 : Heap) (locs1 : List Loc), va_P D cl ((ev_ws ad ca lay σ).set a (ad a, .inr (cj, (fs.mapIdx (fun j f => ev_fv ad σ a j f)).set k (.int x)))) H1 → va_D A ((ev_ws ad ca lay σ).set a (ad a, .inr (cj, (fs.mapIdx (fun j f => ev_fv ad σ a j f)).set k (.int x)))) → va_S A s.heap H1 locs1 → W p l e R s m args below meth c H1 locs1 cells slots Q (F0 m (pc + 3) lsA (r.map (ev_tr ad))) := by
              intro H1 locs1 g1 g2 g3
              rw [ev_ws_field hq hf] at g1 g2
              exact hK _ _ _ _ h4 H1 locs1 cells slots lsA ⟨g1, g2, g3, hr1, hr2⟩ hL
            rcases hlk with hl | hl
            · exact va_put (D := D) (ci := cj) (v := .int x) (ty := ty) (C := C) (T := T) (N := N) hx hb hts hin ty0 hty hnm hown hKs hP hD hS a he hc k hk (hts _ hl) (fun _ h9 => h9) hfin h1 h2 h3 hlen hdg kk
            · exact va_putN (D := D) (ci := cj) (v := .int x) (ty := ty) (C := C) (T := T) (N := N) hx hb hts hin ty0 hty hnm hown hKs hP hD hS a he hc k hk (hts _ hl) (fun _ h9 => h9) hfin h1 h2 h3 hlen hdg kk
          split at h
          · rename_i hz
            rw [if_pos hz] at hpd
            exact go .int hpd rfl rfl h
          · rename_i hz
            rw [if_neg hz] at hpd
            obtain ⟨hx01, h⟩ := h
            rcases hx01 with rfl | rfl
            · exact go .boolean hpd (by decide +kernel) (by decide +kernel) h
            · exact go .boolean hpd (by decide +kernel) (by decide +kernel) h
        · exact h.elim
      · exact h.elim
    · exact h.elim
  · exact h.elim
theorem ev_ia_s (hX : ev_X p l s m args c TB cl lay xo F mt own cc nL D ad ca tys A) (hdg : decode cc pc = .ok (.iaload, 1))
    (hK : ∀ pc ls st σ, K pc ls st σ → ev_G p l e R s m args below meth c Q cl lay nL D ad ca A pc ls st σ) (hI : ev_I0 R s cl lay D ad ca A σ H locs cells slots) (hL : ev_L lsA nL ad ls) (h : ev_ia lay xo pc ls st σ K) : W p l e R s m args below meth c H locs cells slots Q (F0 m pc lsA (st.map (ev_tr ad))) := by
  obtain ⟨hx, hb, hml, hown, hts, htb, hCl, hKs, hTy, hA, hZ, hXo⟩ := hX
  unfold ev_ia at h
  split at h
  · rename_i i a r
    split at h
    · rename_i n hq
      obtain ⟨t0, ht⟩ := hTy _ _ _ hq
      exact va_iald hx hb hKs hI.1 a t0 (ev_ws_at hq) ht h.1 hdg (hK _ _ _ _ h.2 H locs cells slots lsA hI hL)
    · split at h
      · rename_i L xs
        obtain ⟨h1, h2, h3⟩ := hXo _ _ rfl
        split at h
        · rename_i ha
          subst ha
          exact va_sld hx hb h1 h2 h3 hI.2.2.1 h.1 hdg (hK _ _ _ _ h.2 H locs cells slots lsA hI hL)
        · exact h.elim
      · exact h.elim
    · exact h.elim
  · exact h.elim
theorem ev_za_s (hX : ev_X p l s m args c TB cl lay xo F mt own cc nL D ad ca tys A) (hdg : decode cc pc = .ok (.baload, 1))
    (hK : ∀ pc ls st σ, K pc ls st σ → ev_G p l e R s m args below meth c Q cl lay nL D ad ca A pc ls st σ) (hI : ev_I0 R s cl lay D ad ca A σ H locs cells slots) (hL : ev_L lsA nL ad ls) (h : ev_za lay pc ls st σ K) : W p l e R s m args below meth c H locs cells slots Q (F0 m pc lsA (st.map (ev_tr ad))) := by
  obtain ⟨hx, hb, hml, hown, hts, htb, hCl, hKs, hTy, hA, hZ, hXo⟩ := hX
  unfold ev_za at h
  split at h
  · rename_i i a r
    split at h
    · rename_i n hq
      obtain ⟨t0, ht⟩ := hTy _ _ _ hq
      exact va_zald hx hb hKs hI.1 a t0 (ev_ws_at hq) ht h.1 hdg (hK _ _ _ _ h.2 H locs cells slots lsA hI hL)
    · exact h.elim
  · exact h.elim
theorem ev_ja_s (hX : ev_X p l s m args c TB cl lay xo F mt own cc nL D ad ca tys A) (hdg : decode cc pc = .ok (.laload, 1))
    (hK : ∀ pc ls st σ, K pc ls st σ → ev_G p l e R s m args below meth c Q cl lay nL D ad ca A pc ls st σ) (hI : ev_I0 R s cl lay D ad ca A σ H locs cells slots) (hL : ev_L lsA nL ad ls) (h : ev_ja lay pc ls st σ K) : W p l e R s m args below meth c H locs cells slots Q (F0 m pc lsA (st.map (ev_tr ad))) := by
  obtain ⟨hx, hb, hml, hown, hts, htb, hCl, hKs, hTy, hA, hZ, hXo⟩ := hX
  unfold ev_ja at h
  split at h
  · rename_i i a r
    split at h
    · rename_i n hq
      obtain ⟨t0, ht⟩ := hTy _ _ _ hq
      exact va_lald hx hb hKs hI.1 a t0 (ev_ws_at hq) ht h.1 hdg (hK _ _ _ _ h.2 H locs cells slots lsA hI hL)
    · exact h.elim
  · exact h.elim
theorem ev_is_s (hX : ev_X p l s m args c TB cl lay xo F mt own cc nL D ad ca tys A) (hdg : decode cc pc = .ok (.iastore, 1))
    (hK : ∀ pc ls st σ, K pc ls st σ → ev_G p l e R s m args below meth c Q cl lay nL D ad ca A pc ls st σ) (hI : ev_I0 R s cl lay D ad ca A σ H locs cells slots) (hL : ev_L lsA nL ad ls) (h : ev_is lay pc ls st σ K) : W p l e R s m args below meth c H locs cells slots Q (F0 m pc lsA (st.map (ev_tr ad))) := by
  obtain ⟨hx, hb, hml, hown, hts, htb, hCl, hKs, hTy, hA, hZ, hXo⟩ := hX
  obtain ⟨hP, hD, hS, hr1, hr2⟩ := hI
  unfold ev_is at h
  split at h
  · rename_i x i a r
    split at h
    · rename_i n hq
      obtain ⟨t0, ht⟩ := hTy _ _ _ hq
      refine va_iast hx hb hKs hP hD hS a t0 (ev_ws_at hq) ht h.1 hdg (fun H1 locs1 g1 g2 g3 => ?_)
      have e1 : (ev_ws ad ca lay σ).set a (ad a, .inl (ca a, n, .inl (upd (σ.1 a) i.toNatClampNeg x))) = ev_ws ad ca lay (ev_up σ a i.toNatClampNeg x) := by
        rw [← ev_ws_set (σ := σ) (σ' := ev_up σ a i.toNatClampNeg x) hq ev_up_other]
        simp [ev_ce, ev_up]
      have g1 : va_P D cl ((ev_ws ad ca lay σ).set a (ad a, .inl (ca a, n, .inl (upd (σ.1 a) i.toNatClampNeg x)))) H1 := g1
      have g2 : va_D A ((ev_ws ad ca lay σ).set a (ad a, .inl (ca a, n, .inl (upd (σ.1 a) i.toNatClampNeg x)))) := g2
      rw [e1] at g1 g2
      exact hK _ _ _ _ h.2 H1 locs1 cells slots lsA ⟨g1, g2, g3, hr1, hr2⟩ hL
    · exact h.elim
  · exact h.elim
theorem ev_zs_s (hX : ev_X p l s m args c TB cl lay xo F mt own cc nL D ad ca tys A) (hdg : decode cc pc = .ok (.bastore, 1))
    (hK : ∀ pc ls st σ, K pc ls st σ → ev_G p l e R s m args below meth c Q cl lay nL D ad ca A pc ls st σ) (hI : ev_I0 R s cl lay D ad ca A σ H locs cells slots) (hL : ev_L lsA nL ad ls) (h : ev_zs lay pc ls st σ K) : W p l e R s m args below meth c H locs cells slots Q (F0 m pc lsA (st.map (ev_tr ad))) := by
  obtain ⟨hx, hb, hml, hown, hts, htb, hCl, hKs, hTy, hA, hZ, hXo⟩ := hX
  obtain ⟨hP, hD, hS, hr1, hr2⟩ := hI
  unfold ev_zs at h
  split at h
  · rename_i x i a r
    split at h
    · rename_i n hq
      obtain ⟨t0, ht⟩ := hTy _ _ _ hq
      refine va_zast hx hb hKs hP hD hS a t0 (ev_ws_at hq) ht h.1 hdg (fun H1 locs1 g1 g2 g3 => ?_)
      have e1 : (ev_ws ad ca lay σ).set a (ad a, .inl (ca a, n, .inl (upd (σ.1 a) i.toNatClampNeg (vp_nar .boolean x)))) = ev_ws ad ca lay (ev_up σ a i.toNatClampNeg (vp_nar .boolean x)) := by
        rw [← ev_ws_set (σ := σ) (σ' := ev_up σ a i.toNatClampNeg (vp_nar .boolean x)) hq ev_up_other]
        simp [ev_ce, ev_up]
      have g1 : va_P D cl ((ev_ws ad ca lay σ).set a (ad a, .inl (ca a, n, .inl (upd (σ.1 a) i.toNatClampNeg (vp_nar .boolean x))))) H1 := g1
      have g2 : va_D A ((ev_ws ad ca lay σ).set a (ad a, .inl (ca a, n, .inl (upd (σ.1 a) i.toNatClampNeg (vp_nar .boolean x))))) := g2
      rw [e1] at g1 g2
      exact hK _ _ _ _ h.2 H1 locs1 cells slots lsA ⟨g1, g2, g3, hr1, hr2⟩ hL
    · exact h.elim
  · exact h.elim
theorem ev_js_s (hX : ev_X p l s m args c TB cl lay xo F mt own cc nL D ad ca tys A) (hdg : decode cc pc = .ok (.lastore, 1))
    (hK : ∀ pc ls st σ, K pc ls st σ → ev_G p l e R s m args below meth c Q cl lay nL D ad ca A pc ls st σ) (hI : ev_I0 R s cl lay D ad ca A σ H locs cells slots) (hL : ev_L lsA nL ad ls) (h : ev_js lay pc ls st σ K) : W p l e R s m args below meth c H locs cells slots Q (F0 m pc lsA (st.map (ev_tr ad))) := by
  obtain ⟨hx, hb, hml, hown, hts, htb, hCl, hKs, hTy, hA, hZ, hXo⟩ := hX
  obtain ⟨hP, hD, hS, hr1, hr2⟩ := hI
  unfold ev_js at h
  split at h
  · rename_i x i a r
    split at h
    · rename_i n hq
      obtain ⟨t0, ht⟩ := hTy _ _ _ hq
      refine va_last hx hb hKs hP hD hS a t0 (ev_ws_at hq) ht h.1 hdg (fun H1 locs1 g1 g2 g3 => ?_)
      have e1 : (ev_ws ad ca lay σ).set a (ad a, .inl (ca a, n, .inr (.inl (vp_updL (σ.2.1 a) i.toNatClampNeg x)))) = ev_ws ad ca lay (ev_uL σ a i.toNatClampNeg x) := by
        rw [← ev_ws_set (σ := σ) (σ' := ev_uL σ a i.toNatClampNeg x) hq ev_uL_other]
        simp [ev_ce, ev_uL]
      have g1 : va_P D cl ((ev_ws ad ca lay σ).set a (ad a, .inl (ca a, n, .inr (.inl (vp_updL (σ.2.1 a) i.toNatClampNeg x))))) H1 := g1
      have g2 : va_D A ((ev_ws ad ca lay σ).set a (ad a, .inl (ca a, n, .inr (.inl (vp_updL (σ.2.1 a) i.toNatClampNeg x))))) := g2
      rw [e1] at g1 g2
      exact hK _ _ _ _ h.2 H1 locs1 cells slots lsA ⟨g1, g2, g3, hr1, hr2⟩ hL
    · exact h.elim
  · exact h.elim
theorem ev_al_s (hX : ev_X p l s m args c TB cl lay xo F mt own cc nL D ad ca tys A) (hdg : decode cc pc = .ok (.arraylength, 1))
    (hK : ∀ pc ls st σ, K pc ls st σ → ev_G p l e R s m args below meth c Q cl lay nL D ad ca A pc ls st σ) (hI : ev_I0 R s cl lay D ad ca A σ H locs cells slots) (hL : ev_L lsA nL ad ls) (h : ev_al lay xo pc ls st σ K) : W p l e R s m args below meth c H locs cells slots Q (F0 m pc lsA (st.map (ev_tr ad))) := by
  obtain ⟨hx, hb, hml, hown, hts, htb, hCl, hKs, hTy, hA, hZ, hXo⟩ := hX
  unfold ev_al at h
  split at h
  · rename_i a r
    split at h
    · rename_i ty n hq
      obtain ⟨t0, ht⟩ := hTy _ _ _ hq
      have ha : ∃ x : vp_A, (ev_ws ad ca lay σ)[a]? = some (ad a, .inl (ca a, x)) ∧ x.1 = n := by
        cases ty <;> exact ⟨_, ev_ws_at hq, rfl⟩
      obtain ⟨x, ha, rfl⟩ := ha
      exact va_alen hx hb hKs hI.1 a t0 ha ht rfl hdg (hK _ _ _ _ h H locs cells slots lsA hI hL)
    · split at h
      · rename_i L xs
        obtain ⟨h1, h2, h3⟩ := hXo _ _ rfl
        split at h
        · rename_i ha
          subst ha
          exact va_slen hx hb h1 h2 h3 hI.2.2.1 hdg (hK _ _ _ _ h H locs cells slots lsA hI hL)
        · exact h.elim
      · exact h.elim
    · exact h.elim
  · exact h.elim
end EVU
end
section
/-! THE EVALUATOR IS RIGHT: calls, and all instructions -/
section EVQ
variable {p : Program} {l : Launch} {e : Env} {R : Room} {s : State} {m : MethodId} {args : Array Value} {below : List Frame} {meth : Method} {c : Code} {Q : State → Prop}
variable {TB : List Jvm.Cond} {cl : List vw_C} {lay : List ev_C} {xo : Option (Nat × (Nat → Int32))} {F : ev_F} {mt : Nat → Option ev_M} {hd : List (Nat × Nat × Nat × Nat)} {own host : String} {cc : ByteArray} {nL : Nat} {D : va_G} {ad : Nat → Nat} {ca : Nat → ClassId} {tys : List (ClassId × FieldType)} {A : Nat → Prop}
variable {K : ev_K} {pc : Nat} {ls : ev_V} {st : List Value} {σ σ' : ev_W} {H : Heap} {locs : List Loc} {cells slots : Nat} {lsA : Array Slot}
theorem ev_cw_spec {q : ev_M} (h : (ev_cw q).before args s = true) : ∃ (mk : MethodId) (methM : Method) (cM : Code), s.methodNamed? q.1 = some mk ∧ s.vm.method? mk = some methM ∧ methM.code = some cM ∧ cM.maxLocals = q.2.2.1 ∧ parseMethodDescriptor q.1.desc = some methM.sig := by
  unfold ev_cw at h
  split at h
  · obtain ⟨mk, hn⟩ := Cond.code_named h
    obtain ⟨methM, cM, h1, h2, -, h4, -, -, -, h8⟩ := Cond.code_spec hn h
    exact ⟨mk, methM, cM, hn, h1, h2, h4, h8⟩
  · obtain ⟨mk, methM, cM, hn, h1, h2, -, h4, -, -, -, h8⟩ := Cond.codeWith_spec h
    exact ⟨mk, methM, cM, hn, h1, h2, h4, h8⟩
/-- the handlers of the walked method -/
def ev_Hd (e : Env) (s : State) (m : MethodId) (c : Code) (cc : ByteArray) (nL : Nat) (hd : List (Nat × Nat × Nat × Nat)) : Prop :=
  ∀ h ∈ hd, ∀ kc : ClassId, s.vm.findClass (ev_xn h.2.1) = some kc → ∃ hp : Nat, ev_tk e s m kc h.1 c.exceptionTable.toList hp ∧ h.2.2.2 < nL ∧ ((∃ i : Fin 4, (i : Nat) = h.2.2.2 ∧ decode cc hp = .ok (.astore_n i, 1) ∧ h.2.2.1 = hp + 1) ∨ (decode cc hp = .ok (.astore h.2.2.2, 2) ∧ h.2.2.1 = hp + 2))
theorem ev_Ain (hD : va_D A (ev_ws ad ca lay σ)) (hS : va_S A s.heap H locs) (hA : ∀ q, s.heap.size ≤ q → A q) : ∀ q, va_A (ev_ws ad ca lay σ) H.size q → A q := by
  intro q h
  rcases h with ⟨k, e, h⟩ | h
  · exact hD.2 k (q, e) h
  · exact hA q (Nat.le_trans hS.1 h)
theorem ev_behind (hI : ev_I0 R s cl lay D ad ca A σ H locs cells slots) (hA : ∀ q, s.heap.size ≤ q → A q) {k : Nat} (hle : k + σ'.2.2 ≤ σ.2.2) {st0 t : State} (h0 : st0.heap = H) (hF : va_F (va_A (ev_ws ad ca lay σ) H.size) st0 t) (hP1 : va_P D cl (ev_ws ad ca lay σ') t.heap) {Lx : List Loc} (hLx : ∀ q ∈ Lx, va_A (ev_ws ad ca lay σ) H.size q.base) :
    ev_I0 R s cl lay D ad ca A σ' t.heap (locs ++ Lx) (cells + k) (slots + 6 * k) := by
  obtain ⟨hP, hD, hS, hr1, hr2⟩ := hI
  have hFc := ev_Ain hD hS hA
  obtain ⟨f1, f2⟩ := hF
  rw [h0] at f1 f2
  refine ⟨hP1, ev_D_any hD, ⟨Nat.le_trans hS.1 f1, fun q h1 h2 => ?_, fun q hq => ?_⟩, by omega, by omega⟩
  · rw [f2 q (Nat.lt_of_lt_of_le h1 hS.1) (fun z => h2 (hFc q z))]
    exact hS.2.1 q h1 h2
  · rcases List.mem_append.mp hq with h | h
    · exact hS.2.2 q h
    · exact hFc _ (hLx q h)
theorem ev_kr (hA : ∀ q, s.heap.size ≤ q → A q) (hK : ∀ pc ls st σ, K pc ls st σ → ev_G p l e R s m args below meth c Q cl lay nL D ad ca A pc ls st σ) (hI : ev_I0 R s cl lay D ad ca A σ H locs cells slots) (hL : ev_L lsA nL ad ls) {P : (Option Value ⊕ Nat) → ev_W → Prop} {a : Array Value} {rest : List Value}
    (hk : ∀ v σ', P (.inl v) σ' → K (pc + 3) ls (v.toList ++ rest) σ') : ev_Kr p l e R s m args below meth c H locs cells slots Q a (ev_Qc cl lay D ad ca σ H.size P) (va_A (ev_ws ad ca lay σ) H.size) (fun v => F0 m (pc + 3) lsA (v.toList ++ rest.map (ev_tr ad))) := by
  intro v st0 t k Lx h0 hW hq hLx
  obtain ⟨o, σ1, hPo, hle, hF, hP1, ho⟩ := hq
  cases o with
  | inl w =>
    have hv : v = w.map (ev_tr ad) := by
      have ho : Outcome.returned v = .returned (w.map (ev_tr ad)) := ho
      cases ho
      rfl
    have hg := hK _ _ _ _ (hk w σ1 hPo) t.heap (locs ++ Lx) _ _ lsA (ev_behind hI hA hle h0 hF hP1 hLx) hL
    have e1 : (w.toList ++ rest).map (ev_tr ad) = v.toList ++ rest.map (ev_tr ad) := by
      rw [hv]
      cases w <;> rfl
    rw [e1] at hg
    exact hg
  | inr k =>
    obtain ⟨x, ce, hx, -⟩ := ho
    cases hx
theorem ev_kt (hA : ∀ q, s.heap.size ≤ q → A q) (hx : p.tables.exec = Jvm.exec) (hb : c.code = cc) (hH : ev_Hd e s m c cc nL hd) (hK : ∀ pc ls st σ, K pc ls st σ → ev_G p l e R s m args below meth c Q cl lay nL D ad ca A pc ls st σ) (hI : ev_I0 R s cl lay D ad ca A σ H locs cells slots) (hL : ev_L lsA nL ad ls) {P : (Option Value ⊕ Nat) → ev_W → Prop} {a : Array Value} {rest : List Value}
    (hk : ∀ k σ', P (.inr k) σ' → ∃ h ∈ hd, h.1 = pc ∧ h.2.1 = k ∧ K h.2.2.1 (ls.set h.2.2.2 none) [] σ') : ev_Kt p l e R s m args below meth c H locs cells slots Q a (ev_Qc cl lay D ad ca σ H.size P) (va_A (ev_ws ad ca lay σ) H.size) (F0 m pc lsA (rest.map (ev_tr ad))) := by
  intro x st0 t T' kn Lx h0 hW hq hLx hT' X'
  obtain ⟨o, σ1, hPo, hle, hF, hP1, ho⟩ := hq
  cases o with
  | inl w => cases (show Outcome.threw x = .returned (w.map (ev_tr ad)) from ho)
  | inr k =>
    obtain ⟨x', ce, hx', hce, hfc, hcv⟩ := ho
    cases hx'
    rw [hW.alike.findClass] at hfc
    obtain ⟨h, hm, rfl, rfl, hKk⟩ := hk k σ1 hPo
    obtain ⟨hp, htk, hn, hst⟩ := hH h hm _ hfc
    obtain ⟨vm', X'', step⟩ := ev_catch X' (x := x) (g := F0 m h.1 lsA (rest.map (ev_tr ad))) rfl (by rw [hT']; exact hce) hcv (Vm.classAt_of_findClass hfc) htk
    have hg : ∀ ls2 : Array Slot, lv_has ls2 nL ((h.2.2.2, Value.ref x) :: (ev_pl ad ls).filter (fun q => !(q.1 == h.2.2.2) && !(q.1 + 1 == h.2.2.2 && q.2.category == 2))) → W p l e R s m args below meth c t.heap (locs ++ Lx) (cells + kn) (slots + 6 * kn) Q (F0 m h.2.2.1 ls2 []) := fun ls2 h2 =>
      hK _ _ _ _ hKk t.heap (locs ++ Lx) _ _ ls2 (ev_behind hI hA hle h0 hF hP1 hLx) (hL.unset h2)
    have hW2 : W p l e R s m args below meth c t.heap (locs ++ Lx) (cells + kn) (slots + 6 * kn) Q (F0 m hp lsA [.ref x]) := by
      rcases hst with ⟨i, hi, hd1, hpc⟩ | ⟨hd1, hpc⟩
      · exact lv_astore_n hx hb hd1 hi hL.1 hn rfl (fun ls2 h2 => by rw [← hpc]; exact hg ls2 h2)
      · exact lv_astore hx hb hd1 hL.1 hn rfl (fun ls2 h2 => by rw [← hpc]; exact hg ls2 h2)
    obtain ⟨t2, a1, b1⟩ := hW2 (T'.setVm vm') hT' X''
    exact ⟨t2, step _ a1, b1⟩
theorem ev_pc_at (hX : ev_X p l s m args c TB cl lay xo F mt own cc nL D ad ca tys A) (hI : ev_I0 R s cl lay D ad ca A σ H locs cells slots) (vs : List Value) : ∀ U : State, U.heap = H → s.WarmedH U.vm → ev_Pc TB cl lay D ad ca tys vs σ H.size (vs.map (ev_tr ad)).toArray U := by
  obtain ⟨hx, hb, hml, hown, hts, htb, hCl, hKs, hTy, hA, hZ, hXo⟩ := hX
  obtain ⟨hP, hD, hS, hr1, hr2⟩ := hI
  intro U hU hW
  have hFc := ev_Ain hD hS hA
  refine ⟨rfl, by rw [hU], by rw [hU]; exact hP, va_K.moved hW.alike hKs, hD.weaken (fun _ _ _ _ => trivial), fun w hw => htb w hw _ _ s U hW (hts w hw), ?_⟩
  rw [hU]
  exact ((hZ.kept hS.1 hS.2.1).moved hW.alike).narrow hFc
theorem ev_weigh {r : List Value} (h : r.length ≤ 4) : ((r.map (ev_tr ad)).map fun v => v.category).sum ≤ 8 := by
  have key : ∀ r : List Value, ((r.map (ev_tr ad)).map fun v => v.category).sum ≤ 2 * r.length := by
    intro r
    induction r with
    | nil => simp
    | cons v t ih =>
      have := lv_cat (ev_tr ad v)
      simp only [List.map_cons, List.sum_cons, List.length_cons]
      omega
  have := key r
  omega
theorem ev_ca_split {i n : Nat} (h : ev_ca F hd i n pc ls st σ K) : n ≤ st.length ∧ st.length ≤ n + 4 ∧ ∃ P, F i (st.take n).reverse σ = some P ∧ (∀ v σ', P (.inl v) σ' → K (pc + 3) ls (v.toList ++ st.drop n) σ') ∧ (∀ k σ', P (.inr k) σ' → ∃ q ∈ hd, q.1 = pc ∧ q.2.1 = k ∧ K q.2.2.1 (ls.set q.2.2.2 none) [] σ') := by
  unfold ev_ca at h
  split at h
  · rename_i hl
    refine ⟨hl.1, hl.2, ?_⟩
    split at h
    · rename_i P hF
      refine ⟨P, hF, fun v σ' hP => h (.inl v) σ' hP, fun k σ' hP => ?_⟩
      have h := h (.inr k) σ' hP
      dsimp only at h
      split at h
      · rename_i q hq
        have hp := List.find?_some hq
        simp only [Bool.and_eq_true, beq_iff_eq] at hp
        exact ⟨q, List.mem_of_find?_eq_some hq, hp.1, hp.2, h⟩
      · exact h.elim
    · exact h.elim
  · exact h.elim
theorem ev_cV_s (hX : ev_X p l s m args c TB cl lay xo F mt own cc nL D ad ca tys A) (hH : ev_Hd e s m c cc nL hd) (hCd : ∀ j y, mt j = some y → ev_cw y ∈ TB) {i n ix : Nat} (hSn : ev_Snd l TB cl lay F mt i) (hRc : ev_Rc cl lay F mt i) {y : ev_M} (hy : mt i = some y) (hdg : decode cc pc = .ok (.invokevirtual ix, 3))
    (h1 : .instanceMethod y.1 ∈ TB) (h2 : .selects y.1.cls y.1 y.1 ∈ TB) (h3 : .initialized y.1.cls ∈ TB) (h4 : y.1.cls ≠ "java/lang/invoke/MethodHandle" ∧ y.1.cls ≠ "java/lang/invoke/VarHandle") (h5 : (parseMethodDescriptor y.1.desc).map (fun d => d.parameters.length + 1) = some n) (h6 : y.2.2.2.2.1 = []) (h7 : y.2.2.2.2.2.1 + 1 ≤ R.frames) (h8 : 8 + (y.2.2.1 + 11) + y.2.2.2.2.2.2 ≤ R.locals) (h9 : .methodLink own ix y.1 ∈ TB ∨ .methodLinkNest own ix y.1 host ∈ TB)
    (hK : ∀ pc ls st σ, K pc ls st σ → ev_G p l e R s m args below meth c Q cl lay nL D ad ca A pc ls st σ) (hI : ev_I0 R s cl lay D ad ca A σ H locs cells slots) (hL : ev_L lsA nL ad ls) (h : ev_ca F hd i n pc ls st σ K) : W p l e R s m args below meth c H locs cells slots Q (F0 m pc lsA (st.map (ev_tr ad))) := by
  obtain ⟨g1, g2, P, hF, hk1, hk2⟩ := ev_ca_split h
  obtain ⟨hx, hb, hml, hown, hts, htb, hCl, hKs, hTy, hA, hZ, hXo⟩ := id hX
  obtain ⟨b, t, ci, fs, T, N, hvs, hlb, hcl⟩ := hRc y _ σ _ hy hF
  have hM := hSn y D ad ca tys _ σ P H.size hy hTy hF
  have hst : st.map (ev_tr ad) = (t.map (ev_tr ad)).reverse ++ .ref (ad b) :: (st.drop n).map (ev_tr ad) := by
    have e1 : st.take n = t.reverse ++ [.ref b] := by
      have := congrArg List.reverse hvs
      rw [List.reverse_reverse, List.reverse_cons] at this
      exact this
    conv => lhs; rw [← List.take_append_drop n st, e1]
    simp [ev_tr]
  have htl : t.length + 1 = n := by
    have := congrArg List.length hvs
    rw [List.length_reverse, List.length_take, List.length_cons] at this
    omega
  have hcw := hCd i y hy
  have hcode : (Jvm.Cond.code y.1 y.2.1 y.2.2.1 y.2.2.2.1).before args s = true := by
    have := hts _ hcw
    unfold ev_cw at this
    rw [h6] at this
    exact this
  have hrecv : ∃ cellB : Cell, H[ad b]? = some cellB ∧ cellB.vm.isStatics = false ∧ s.vm.findClass y.1.cls = some cellB.cls :=
    va_recv hKs hI.1 (ci := ci) (q0 := b) hcl (ev_ws_at hlb)
  have hpc := ev_pc_at hX hI (st.take n).reverse
  rw [hvs] at hpc hM
  rw [hst]
  subst hb
  exact ev_callV hx hown (h9.elim (fun z => Or.inl (hts _ z)) (fun z => Or.inr ⟨host, hts _ z⟩)) (hts _ h1) (hts _ h2) (hts _ h3) h4 hcode hM h7 h8 hI.2.2.2.1 hI.2.2.2.2 hrecv (hL.1.1.trans hml.symm) hdg
    (fun sig hs => by rw [hs] at h5; have h5 : sig.parameters.length + 1 = n := Option.some.inj h5; simp only [List.length_map]; omega) (ev_weigh (by rw [List.length_drop]; omega))
    (fun a' U hW => htb _ hcw _ a' s U hW (hts _ hcw)) hpc (ev_kr hA hK hI hL hk1) (ev_kt hA hx rfl hH hK hI hL hk2)
theorem ev_cS_s (hX : ev_X p l s m args c TB cl lay xo F mt own cc nL D ad ca tys A) (hH : ev_Hd e s m c cc nL hd) (hCd : ∀ j y, mt j = some y → ev_cw y ∈ TB) {i n ix : Nat} (hSn : ev_Snd l TB cl lay F mt i) {y : ev_M} (hy : mt i = some y) (hdg : decode cc pc = .ok (.invokestatic ix, 3))
    (h1 : .static y.1 ∈ TB) (h3 : .initialized y.1.cls ∈ TB) (h4 : y.1.cls ≠ "java/lang/invoke/MethodHandle" ∧ y.1.cls ≠ "java/lang/invoke/VarHandle") (h5 : (parseMethodDescriptor y.1.desc).map (fun d => d.parameters.length) = some n) (h7 : y.2.2.2.2.2.1 + 1 ≤ R.frames) (h8 : 8 + (y.2.2.1 + 11) + y.2.2.2.2.2.2 ≤ R.locals) (h9 : .methodLink own ix y.1 ∈ TB ∨ .methodLinkNest own ix y.1 host ∈ TB)
    (hK : ∀ pc ls st σ, K pc ls st σ → ev_G p l e R s m args below meth c Q cl lay nL D ad ca A pc ls st σ) (hI : ev_I0 R s cl lay D ad ca A σ H locs cells slots) (hL : ev_L lsA nL ad ls) (h : ev_ca F hd i n pc ls st σ K) : W p l e R s m args below meth c H locs cells slots Q (F0 m pc lsA (st.map (ev_tr ad))) := by
  obtain ⟨g1, g2, P, hF, hk1, hk2⟩ := ev_ca_split h
  obtain ⟨hx, hb, hml, hown, hts, htb, hCl, hKs, hTy, hA, hZ, hXo⟩ := id hX
  have hM := hSn y D ad ca tys _ σ P H.size hy hTy hF
  have hst : st.map (ev_tr ad) = ((st.take n).reverse.map (ev_tr ad)).reverse ++ (st.drop n).map (ev_tr ad) := by
    rw [List.map_reverse, List.reverse_reverse, ← List.map_append, List.take_append_drop]
  have hcw := hCd i y hy
  rw [hst]
  subst hb
  exact ev_callS hx hown (h9.elim (fun z => Or.inl (hts _ z)) (fun z => Or.inr ⟨host, hts _ z⟩)) (hts _ h1) (hts _ h3) h4 (ev_cw_spec (hts _ hcw)) hM h7 h8 hI.2.2.2.1 hI.2.2.2.2 (hL.1.1.trans hml.symm) hdg
    (fun sig hs => by rw [hs] at h5; have h5 : sig.parameters.length = n := Option.some.inj h5; simp only [List.length_map, List.length_reverse, List.length_take]; omega) (ev_weigh (by rw [List.length_drop]; omega))
    (fun a' U hW => htb _ hcw _ a' s U hW (hts _ hcw)) (ev_pc_at hX hI (st.take n).reverse) (ev_kr hA hK hI hL hk1) (ev_kt hA hx rfl hH hK hI hL hk2)
theorem ev_has_or {hs : Jvm.Cond → Bool} (hhs : ∀ w, hs w = true → w ∈ TB) {w w2 : Jvm.Cond} (h : (hs w || hs w2) = true) : w ∈ TB ∨ w2 ∈ TB := by
  rcases Bool.or_eq_true_iff.mp h with h | h
  · exact Or.inl (hhs _ h)
  · exact Or.inr (hhs _ h)
set_option maxHeartbeats 4000000 in
/-- ONE INSTRUCTION -/
theorem ev_step {hs : Jvm.Cond → Bool} (hhs : ∀ w, hs w = true → w ∈ TB) (hX : ev_X p l s m args c TB cl lay xo F mt own cc nL D ad ca tys A) (hH : ev_Hd e s m c cc nL hd) (hCd : ∀ j y, mt j = some y → ev_cw y ∈ TB) (hSn : ∀ j y, mt j = some y → y.2.2.2.2.2.1 + 1 ≤ R.frames → ev_Snd l TB cl lay F mt j) (hRc : ∀ j, ev_Rc cl lay F mt j) {q : ev_I} (hok : ev_ok hs cl mt own host cc nL R.frames R.locals pc q = true)
    (hK : ∀ pc ls st σ, K pc ls st σ → ev_G p l e R s m args below meth c Q cl lay nL D ad ca A pc ls st σ) (h : ev_st F lay xo hd q pc ls st σ K) : ev_G p l e R s m args below meth c Q cl lay nL D ad ca A pc ls st σ := by
  intro H locs cells slots lsA hI hL
  obtain ⟨ins, len, a1, a2, an, sw⟩ := q
  have hX' := hX
  obtain ⟨hx, hb, hml, hown, hts, -⟩ := hX'
  simp only [ev_ok, Bool.and_eq_true, decide_eq_true_eq] at hok
  obtain ⟨hdg, hok⟩ := hok
  cases ins
  all_goals first | exact h.elim | skip
  all_goals (try simp only [Bool.and_eq_true, decide_eq_true_eq] at hok)
  case iconst n => obtain ⟨rfl, hv⟩ := hok; exact lv_iconst hx hb hdg hv (hK _ _ _ _ h H locs cells slots lsA hI hL)
  case bipush n => obtain ⟨rfl, hv⟩ := hok; exact lv_bipush hx hb hdg hv (hK _ _ _ _ h H locs cells slots lsA hI hL)
  case sipush n => obtain ⟨rfl, hv⟩ := hok; exact lv_sipush hx hb hdg hv (hK _ _ _ _ h H locs cells slots lsA hI hL)
  case ldc i => obtain ⟨rfl, hv⟩ := hok; exact lv_ldc hx hb hown (hts _ (hhs _ hv)) hdg (hK _ _ _ _ h H locs cells slots lsA hI hL)
  case ldc_w i => obtain ⟨rfl, hv⟩ := hok; exact lv_ldcw hx hb hown (hts _ (hhs _ hv)) hdg (hK _ _ _ _ h H locs cells slots lsA hI hL)
  case lconst n => obtain rfl := hok; exact lv_lconst hx hb hdg rfl (hK _ _ _ _ h H locs cells slots lsA hI hL)
  case iload i => obtain ⟨rfl, rfl⟩ := hok; exact ev_li_s (fun hl k => lv_iload hx hb hdg hl k) hK hI hL h
  case iload_n i => obtain ⟨rfl, hv⟩ := hok; exact ev_li_s (fun hl k => lv_iload_n hx hb hdg hv hl k) hK hI hL h
  case aload i => obtain ⟨rfl, rfl⟩ := hok; exact ev_la_s (fun hl k => lv_aload hx hb hdg hl k) hK hI hL h
  case aload_n i => obtain ⟨rfl, hv⟩ := hok; exact ev_la_s (fun hl k => lv_aload_n hx hb hdg hv hl k) hK hI hL h
  case istore i => obtain ⟨⟨rfl, rfl⟩, hn⟩ := hok; exact ev_si_s (fun k => lv_istore hx hb hdg hL.1 hn rfl k) hK hI hL h
  case istore_n i => obtain ⟨⟨rfl, hv⟩, hn⟩ := hok; exact ev_si_s (fun k => lv_istore_n hx hb hdg hv hL.1 hn rfl k) hK hI hL h
  case astore i => obtain ⟨⟨rfl, rfl⟩, hn⟩ := hok; exact ev_sa_s (fun k => lv_astore hx hb hdg hL.1 hn rfl k) hK hI hL h
  case astore_n i => obtain ⟨⟨rfl, hv⟩, hn⟩ := hok; exact ev_sa_s (fun k => lv_astore_n hx hb hdg hv hL.1 hn rfl k) hK hI hL h
  case iinc i n =>
    obtain ⟨⟨⟨rfl, rfl⟩, hv⟩, hn⟩ := hok
    have h : (match ls[i]? with | some (some (.int x)) => K (pc + 3) (ls.set i (some (.int (x + an)))) st σ | _ => False) := h
    split at h
    · rename_i x hx1
      obtain ⟨k0, hk0⟩ := List.getElem?_of_mem (ev_pl_mem (ad := ad).mpr ⟨_, hx1, rfl⟩)
      exact lv_iinc hx hb hdg hL.1 (k := k0) (x := x) hk0 (by rw [hv]) hn rfl (fun ls2 h2 => hK _ _ _ _ h H locs cells slots ls2 hI (hL.set (v := .int (x + an)) rfl h2))
    · exact h.elim
  case iadd => obtain rfl := hok; exact ev_b2_s (fun k => lv_iadd hx hb hdg k) hK hI hL h
  case isub => obtain rfl := hok; exact ev_b2_s (fun k => lv_isub hx hb hdg k) hK hI hL h
  case imul => obtain rfl := hok; exact ev_b2_s (fun k => lv_imul hx hb hdg k) hK hI hL h
  case iand => obtain rfl := hok; exact ev_b2_s (fun k => lv_iand hx hb hdg k) hK hI hL h
  case ior => obtain rfl := hok; exact ev_b2_s (fun k => lv_ior hx hb hdg k) hK hI hL h
  case ixor => obtain rfl := hok; exact ev_b2_s (fun k => lv_ixor hx hb hdg k) hK hI hL h
  case ishl => obtain rfl := hok; exact ev_b2_s (fun k => lv_ishl hx hb hdg k) hK hI hL h
  case ishr => obtain rfl := hok; exact ev_b2_s (fun k => lv_ishr hx hb hdg k) hK hI hL h
  case iushr => obtain rfl := hok; exact ev_b2_s (fun k => lv_iushr hx hb hdg rfl k) hK hI hL h
  case idiv => obtain rfl := hok; exact ev_dv_s (fun hne k => lv_idiv hx hb hdg hne k) hK hI hL h
  case irem => obtain rfl := hok; exact ev_dv_s (fun hne k => lv_irem hx hb hdg hne k) hK hI hL h
  case i2l =>
    obtain rfl := hok
    simp only [ev_st] at h
    split at h
    · exact lv_i2l hx hb hdg rfl (hK _ _ _ _ h H locs cells slots lsA hI hL)
    · exact h.elim
  case lcmp =>
    obtain rfl := hok
    simp only [ev_st] at h
    split at h
    · exact W.lcmp hx hb hdg (hK _ _ _ _ h H locs cells slots lsA hI hL)
    · exact h.elim
  case dup =>
    obtain rfl := hok
    simp only [ev_st] at h
    split at h
    · exact lv_dup hx hb hdg rfl (hK _ _ _ _ h H locs cells slots lsA hI hL)
    · exact lv_dup hx hb hdg rfl (hK _ _ _ _ h H locs cells slots lsA hI hL)
    · exact h.elim
  case dup2 =>
    obtain rfl := hok
    simp only [ev_st] at h
    split at h
    · exact lv_dup2_11 hx hb hdg rfl rfl (hK _ _ _ _ h H locs cells slots lsA hI hL)
    · exact h.elim
  case pop =>
    obtain rfl := hok
    simp only [ev_st] at h
    split at h
    · exact lv_pop hx hb hdg rfl (hK _ _ _ _ h H locs cells slots lsA hI hL)
    · exact lv_pop hx hb hdg rfl (hK _ _ _ _ h H locs cells slots lsA hI hL)
    · exact h.elim
  case ifCond cnd off =>
    obtain ⟨rfl, ht⟩ := hok
    cases cnd
    · exact ev_c1_s (fun k1 k2 => lv_if_eq hx hb hdg ht k1 k2) hK hI hL h
    · exact ev_c1_s (P := fun x => x = 0) (fun k1 k2 => lv_if_ne hx hb hdg ht k2 k1) hK hI hL h
    · exact ev_c1_s (fun k1 k2 => lv_if_lt hx hb hdg ht k1 k2) hK hI hL h
    · exact ev_c1_s (fun k1 k2 => lv_if_ge hx hb hdg ht k1 k2) hK hI hL h
    · exact ev_c1_s (fun k1 k2 => lv_if_gt hx hb hdg ht k1 k2) hK hI hL h
    · exact ev_c1_s (fun k1 k2 => lv_if_le hx hb hdg ht k1 k2) hK hI hL h
  case if_icmp cnd off =>
    obtain ⟨rfl, ht⟩ := hok
    cases cnd
    · exact ev_c2_s (fun k1 k2 => lv_icmp_eq hx hb hdg ht k1 k2) hK hI hL h
    · exact ev_c2_s (P := fun x y => x = y) (fun k1 k2 => lv_icmp_ne hx hb hdg ht k2 k1) hK hI hL h
    · exact ev_c2_s (fun k1 k2 => lv_icmp_lt hx hb hdg ht k1 k2) hK hI hL h
    · exact ev_c2_s (fun k1 k2 => lv_icmp_ge hx hb hdg ht k1 k2) hK hI hL h
    · exact ev_c2_s (fun k1 k2 => lv_icmp_gt hx hb hdg ht k1 k2) hK hI hL h
    · exact ev_c2_s (fun k1 k2 => lv_icmp_le hx hb hdg ht k1 k2) hK hI hL h
  case goto off => obtain ⟨rfl, ht⟩ := hok; exact lv_goto hx hb hdg ht (hK _ _ _ _ h H locs cells slots lsA hI hL)
  case tableswitch d lo hi offs =>
    obtain ⟨⟨hd0, htk⟩, hhi⟩ := hok
    simp only [ev_st] at h
    split at h
    · rename_i x r
      rcases ev_tb _ _ _ htk h with ⟨i, t, off, e1, e2, e3, e4⟩ | ⟨e1, e2⟩
      · have hil : i < offs.toList.length := (List.getElem?_eq_some_iff.mp e1).1
        refine lv_tableIn hx hb hdg (by omega) (by omega) (off := off) ?_ e3 (hK _ _ _ _ e4 H locs cells slots lsA hI hL)
        rw [show (x.toInt - lo).toNat = i by omega, ← Array.getElem?_toList]
        exact e1
      · exact lv_tableOut hx hb hdg (by omega) hd0 (hK _ _ _ _ e1 H locs cells slots lsA hI hL)
    · exact h.elim
  case lookupswitch d ps =>
    obtain ⟨⟨hd0, hmp⟩, hsrt⟩ := hok
    simp only [ev_st] at h
    split at h
    · rename_i x r
      obtain ⟨off, t, e1, e2, e3⟩ := ev_lk hd0 _ _ hmp h
      exact lv_lookup hx hb hdg hsrt e1 e2 (hK _ _ _ _ e3 H locs cells slots lsA hI hL)
    · exact h.elim
  case getfield i =>
    obtain ⟨rfl, hok⟩ := hok
    split at hok
    · rename_i C T N hc
      simp only [Bool.and_eq_true, decide_eq_true_eq] at hok
      exact ev_gf_s hX hc hok.1 (ev_has_or hhs hok.2) hdg hK hI hL h
    · cases hok
  case putfield i =>
    obtain ⟨rfl, hok⟩ := hok
    split at hok
    · rename_i C T N hc
      simp only [Bool.and_eq_true, decide_eq_true_eq] at hok
      exact ev_pf_s hX hc hok.1.1.1 hok.1.1.2 hok.1.2 (ev_has_or hhs hok.2) hdg hK hI hL h
    · cases hok
  case iaload => obtain rfl := hok; exact ev_ia_s hX hdg hK hI hL h
  case baload => obtain rfl := hok; exact ev_za_s hX hdg hK hI hL h
  case laload => obtain rfl := hok; exact ev_ja_s hX hdg hK hI hL h
  case iastore => obtain rfl := hok; exact ev_is_s hX hdg hK hI hL h
  case bastore => obtain rfl := hok; exact ev_zs_s hX hdg hK hI hL h
  case lastore => obtain rfl := hok; exact ev_js_s hX hdg hK hI hL h
  case arraylength => obtain rfl := hok; exact ev_al_s hX hdg hK hI hL h
  case invokevirtual i =>
    obtain ⟨rfl, hok⟩ := hok
    split at hok
    · rename_i y hy
      simp only [Bool.and_eq_true, decide_eq_true_eq] at hok
      obtain ⟨⟨⟨⟨⟨⟨⟨⟨h1, h2⟩, h3⟩, h4⟩, h5⟩, h6⟩, h7⟩, h8⟩, h9⟩ := hok
      exact ev_cV_s hX hH hCd (hSn _ y hy h7) (hRc _) hy hdg (hhs _ h1) (hhs _ h2) (hhs _ h3) h4 h5 h6 h7 h8 (ev_has_or hhs h9) hK hI hL h
    · cases hok
  case invokestatic i =>
    obtain ⟨rfl, hok⟩ := hok
    split at hok
    · rename_i y hy
      simp only [Bool.and_eq_true, decide_eq_true_eq] at hok
      obtain ⟨⟨⟨⟨⟨⟨h1, h3⟩, h4⟩, h5⟩, h7⟩, h8⟩, h9⟩ := hok
      exact ev_cS_s hX hH hCd (hSn _ y hy h7) hy hdg (hhs _ h1) (hhs _ h3) h4 h5 h7 h8 (ev_has_or hhs h9) hK hI hL h
    · cases hok
/-- MANY INSTRUCTIONS -/
theorem ev_many {hs : Jvm.Cond → Bool} (hhs : ∀ w, hs w = true → w ∈ TB) (hX : ev_X p l s m args c TB cl lay xo F mt own cc nL D ad ca tys A) (hH : ev_Hd e s m c cc nL hd) (hCd : ∀ j y, mt j = some y → ev_cw y ∈ TB) (hSn : ∀ j y, mt j = some y → y.2.2.2.2.2.1 + 1 ≤ R.frames → ev_Snd l TB cl lay F mt j) (hRc : ∀ j, ev_Rc cl lay F mt j) {cd : Nat → Option ev_I} (hok : ∀ pc q, cd pc = some q → ev_ok hs cl mt own host cc nL R.frames R.locals pc q = true) {stp : Nat → Bool} {Qf : ev_K}
    (hQ : ∀ pc ls st σ, Qf pc ls st σ → ev_G p l e R s m args below meth c Q cl lay nL D ad ca A pc ls st σ) : ∀ (n pc : Nat) (ls : ev_V) (st : List Value) (σ : ev_W), ev_wp F lay xo hd cd stp Qf n pc ls st σ → ev_G p l e R s m args below meth c Q cl lay nL D ad ca A pc ls st σ := by
  intro n
  induction n with
  | zero => intro pc ls st σ h; exact h.elim
  | succ n ih =>
    intro pc ls st σ h
    have h : (match cd pc with | none => Qf pc ls st σ | some q => ev_st F lay xo hd q pc ls st σ (fun pc' ls' st' σ' => match stp pc' with | true => Qf pc' ls' st' σ' | false => ev_wp F lay xo hd cd stp Qf n pc' ls' st' σ')) := h
    split at h
    · exact hQ _ _ _ _ h
    · rename_i q hq
      refine ev_step hhs hX hH hCd hSn hRc (hok _ _ hq) (fun pc' ls' st' σ' h' => ?_) h
      have h' : (match stp pc' with | true => Qf pc' ls' st' σ' | false => ev_wp F lay xo hd cd stp Qf n pc' ls' st' σ') := h'
      split at h'
      · exact hQ _ _ _ _ h'
      · exact ih _ _ _ _ h'
end EVQ
/-- a run inside a method, whatever the machine's state: from here one comes to a place with Qf -/
def ev_Run (TB : List Jvm.Cond) (cl : List vw_C) (lay : List ev_C) (xo : Option (Nat × (Nat → Int32))) (F : ev_F) (mt : Nat → Option ev_M) (hd : List (Nat × Nat × Nat × Nat)) (own : String) (cc : ByteArray) (nL fr lo : Nat) (Qf : ev_K) : ev_K := fun pc ls st σ =>
  ∀ (p : Program) (l : Launch) (e : Env) (R : Room) (s : State) (m : MethodId) (args : Array Value) (below : List Frame) (meth : Method) (c : Code) (Q : State → Prop) (D : va_G) (ad : Nat → Nat) (ca : Nat → ClassId) (tys : List (ClassId × FieldType)) (A : Nat → Prop),
    ev_X p l s m args c TB cl lay xo F mt own cc nL D ad ca tys A → ev_Hd e s m c cc nL hd → (∀ j y, mt j = some y → y.2.2.2.2.2.1 + 1 ≤ R.frames → ev_Snd l TB cl lay F mt j) → R.frames = fr → R.locals = lo →
    (∀ pc ls st σ, Qf pc ls st σ → ev_G p l e R s m args below meth c Q cl lay nL D ad ca A pc ls st σ) → ev_G p l e R s m args below meth c Q cl lay nL D ad ca A pc ls st σ
section EVR
variable {TB : List Jvm.Cond} {cl : List vw_C} {lay : List ev_C} {xo : Option (Nat × (Nat → Int32))} {F : ev_F} {mt : Nat → Option ev_M} {hd : List (Nat × Nat × Nat × Nat)} {own host : String} {cc : ByteArray} {nL fr lo : Nat} {Qf Q1 : ev_K} {pc : Nat} {ls : ev_V} {st : List Value} {σ : ev_W}
theorem ev_fin (h : Qf pc ls st σ) : ev_Run TB cl lay xo F mt hd own cc nL fr lo Qf pc ls st σ :=
  fun _ _ _ _ _ _ _ _ _ _ _ _ _ _ _ _ _ _ _ _ _ k => k _ _ _ _ h
theorem ev_go {hs : Jvm.Cond → Bool} (hhs : ∀ w, hs w = true → w ∈ TB) (hCd : ∀ j y, mt j = some y → ev_cw y ∈ TB) (hRc : ∀ j, ev_Rc cl lay F mt j) {cd : Nat → Option ev_I} (hok : ∀ pc q, cd pc = some q → ev_ok hs cl mt own host cc nL fr lo pc q = true) (stp : Nat → Bool) (n : Nat) (h : ev_wp F lay xo hd cd stp Q1 n pc ls st σ)
    (k : ∀ pc ls st σ, Q1 pc ls st σ → ev_Run TB cl lay xo F mt hd own cc nL fr lo Qf pc ls st σ) : ev_Run TB cl lay xo F mt hd own cc nL fr lo Qf pc ls st σ := by
  intro p l e R s m args below meth c Q D ad ca tys A hX hH hSn h1 h2 hQ
  subst h1
  subst h2
  exact ev_many hhs hX hH hCd hSn hRc hok (fun pc ls st σ h => k pc ls st σ h p l e R s m args below meth c Q D ad ca tys A hX hH hSn rfl rfl hQ) n pc ls st σ h
end EVR
end
section
/-! A METHOD's CONTRACT OUT OF A RUN OF ITS BODY -/
/-- where a run may end: the kinds of ending instruction (0: return, 1: ireturn of an int, 2: ireturn of a boolean, 3 + k: a new exception of the kind k is thrown); what is known there -/
def ev_at (tm : Nat → Option Nat) (b : Nat) (P : (Option Value ⊕ Nat) → ev_W → Prop) : ev_K := fun pc _ st σ => match tm pc with
  | some 0 => st = [] ∧ σ.2.2 ≤ b ∧ P (.inl none) σ
  | some 1 => ∃ v : Int32, st = [.int v] ∧ σ.2.2 ≤ b ∧ P (.inl (some (.int v))) σ
  | some 2 => ∃ v : Int32, st = [.int v] ∧ (v = 0 ∨ v = 1) ∧ σ.2.2 ≤ b ∧ P (.inl (some (.int v))) σ
  | some (k + 3) => st = [] ∧ ∃ b' : Nat, σ.2.2 = b' + 1 ∧ b' + 1 ≤ b ∧ P (.inr k) (σ.1, σ.2.1, b')
  | none => False
section EVM2
variable {l : Launch} {TB : List Jvm.Cond} {cl : List vw_C} {lay : List ev_C} {F : ev_F} {mt : Nat → Option ev_M} {hd : List (Nat × Nat × Nat × Nat)} {j : Nat}
/-- what a throw of a new exception of the kind k asks at its pc, in whatever invocation: it ends there -/
def ev_Th (l : Launch) (TB : List Jvm.Cond) (own : String) (cc : ByteArray) (nL fr lo : Nat) (k pc : Nat) : Prop :=
  ∀ (p : Program) (e : Env) (R : Room) (s : State) (m : MethodId) (args : Array Value) (below : List Frame) (meth : Method) (c : Code) (H : Heap) (locs : List Loc) (cells slots : Nat) (A : Nat → Prop) (ls : Array Slot) (free : Addr → Prop) (Qc : Nat → Array Value → State → Outcome → State → Prop),
    p.tables.exec = Jvm.exec → c.code = cc → c.maxLocals = nL → c.exceptionTable.toList = [] → meth.locks = false → s.vm.findClass own = some m.cls → (∀ w ∈ TB, w.before args s = true) → R.frames = fr → R.locals = lo → cells + 1 ≤ R.cells → slots + 6 ≤ R.slots → slots ≤ 6 * cells → ls.size = nL →
    va_S A s.heap H locs → (∀ q, A q → free q) → (∀ q, s.heap.size ≤ q → A q) → (∀ q, A q → ∀ cell, s.heap[q]? = some cell → cell.vm.isStatics = false) → ev_Z A s s.heap →
    (∀ (x : Addr) (ce : Cell) (t : State), H.size = x → t.heap[x]? = some ce → s.vm.findClass (ev_xn k) = some ce.cls → ce.vm = .none → (∀ q, q < H.size → t.heap[q]? = H[q]?) → H.size ≤ t.heap.size → Qc (cells + 1) args s (.threw x) t) →
    W p l e R s m args below meth c H locs cells slots (ev_MQ below Qc args s free) (F0 m pc ls [])
theorem ev_meth {y : ev_M} (hy : mt j = some y) (hyn : plainName y.1.cls = true) (hcwi : ev_cw y ∈ TB) (htb : ev_Tb TB) (hCl : ev_Cl TB cl)
    (tm : Nat → Option Nat) (h0 : ∀ pc, tm pc = some 0 → decode y.2.1 pc = .ok (.return_, 1) ∧ y.2.2.2.1 = none) (h1 : ∀ pc, tm pc = some 1 → decode y.2.1 pc = .ok (.ireturn, 1) ∧ y.2.2.2.1 = some .int) (h2 : ∀ pc, tm pc = some 2 → decode y.2.1 pc = .ok (.ireturn, 1) ∧ y.2.2.2.1 = some .boolean)
    (h3 : ∀ pc k, tm pc = some (k + 3) → y.2.2.2.2.1 = [] ∧ ev_Th l TB y.1.cls y.2.1 y.2.2.1 y.2.2.2.2.2.1 y.2.2.2.2.2.2 k pc)
    (hHd : ∀ (e : Env) (s : State) (m : MethodId) (c : Code) (args : Array Value), l.admits e → s.vm.findClass y.1.cls = some m.cls → (∀ w ∈ TB, w.before args s = true) → c.exceptionTable.toList.map (fun h => (h.startPc, h.endPc, h.handlerPc, h.catchType)) = y.2.2.2.2.1 → ev_Hd e s m c y.2.1 y.2.2.1 hd)
    (hRun : ∀ vs σ P, F j vs σ = some P → (∀ u ∈ vs, u.category = 1) ∧ vs.length ≤ y.2.2.1 ∧ ev_Run TB cl lay none F mt hd y.1.cls y.2.1 y.2.2.1 y.2.2.2.2.2.1 y.2.2.2.2.2.2 (ev_at tm σ.2.2 P) 0 (ev_ent vs y.2.2.1) [] σ)
    (hSn : ∀ i z, mt i = some z → z.2.2.2.2.2.1 + 1 ≤ y.2.2.2.2.2.1 → ev_Snd l TB cl lay F mt i) : ev_Snd l TB cl lay F mt j := by
  intro q D ad ca tys vs σ P sz hq hTy hF
  cases hy.symm.trans hq
  obtain ⟨hc1, hvl, hR⟩ := hRun vs σ P hF
  refine ev_ofW (cc := y.2.1) (maxL := y.2.2.1) (ret := y.2.2.2.1) hyn ?_ ?_
  · unfold ev_cw
    split
    · exact Or.inl rfl
    · exact Or.inr ⟨_, rfl⟩
  intro p e s m args below meth c s₁ B hml hPc
  obtain ⟨rfl, hsz, hP, hK, hD0, hnw, hZ⟩ := hPc
  subst hsz
  have hown : s.vm.findClass y.1.cls = some m.cls := findClass_of_methodNamed B.named
  have hts : ∀ w ∈ TB, w.before (vs.map (ev_tr ad)).toArray s = true := fun w hw => htb w hw _ _ s s (State.WarmedH.refl s) (hnw w hw)
  have hlocks := B.notSynchronized
  have hexc : c.exceptionTable.toList.map (fun h => (h.startPc, h.endPc, h.handlerPc, h.catchType)) = y.2.2.2.2.1 := by
    have hw := hts _ hcwi
    have hcc : meth.code = some c := (Stand.of_body B).code
    unfold ev_cw at hw
    split at hw
    · rename_i he
      obtain ⟨meth', c', hm', hc', -, -, -, -, hem, -⟩ := Cond.code_spec B.named hw
      cases B.method.symm.trans hm'
      cases hcc.symm.trans hc'
      rw [he]
      have h0 : c.exceptionTable.size = 0 := by simpa [Array.isEmpty] using hem
      have h1 : c.exceptionTable.toList = [] := List.eq_nil_of_length_eq_zero (by simpa using h0)
      rw [h1]
      rfl
    · obtain ⟨mk, meth', c', hn', hm', hc', -, -, hem, -⟩ := Cond.codeWith_spec hw
      cases B.named.symm.trans hn'
      cases B.method.symm.trans hm'
      cases hcc.symm.trans hc'
      exact hem
  have hX : ev_X p l s m (vs.map (ev_tr ad)).toArray c TB cl lay none F mt y.1.cls y.2.1 y.2.2.1 D ad ca tys (va_A (ev_ws ad ca lay σ) s.heap.size) :=
    ⟨B.exec, B.bytes, hml, hown, hts, htb, hCl, hK, hTy, fun q h => Or.inr h, hZ, fun L xs h => by cases h⟩
  have hnst : ∀ q, va_A (ev_ws ad ca lay σ) s.heap.size q → ∀ cell, s.heap[q]? = some cell → cell.vm.isStatics = false := by
    intro q hq cell hcell
    rcases hq with ⟨k, e, hk⟩ | hq
    · have hat := hP k _ hk
      unfold va_at at hat
      split at hat
      · rename_i a ha
        have hat : s.heap[q]? = some (vp_cell a.1 a.2) := hat
        rw [hat] at hcell
        cases hcell
        obtain ⟨cA, n, f | f | f | f | f⟩ := a <;> rfl
      · obtain ⟨r, -, cell', g1, -, g3, -⟩ := hat
        have g1 : s.heap[q]? = some cell' := g1
        rw [g1] at hcell
        cases hcell
        rw [g3]
        rfl
    · rw [Array.getElem?_eq_none hq] at hcell
      cases hcell
  rw [lg_entry_eq]
  refine hR p l e (ev_rm y σ.2.2) s m _ below meth c _ D ad ca tys (va_A (ev_ws ad ca lay σ) s.heap.size) hX (hHd e s m c _ B.admits hown hts hexc) hSn rfl rfl ?_ s.heap [] 0 0 _ ⟨hP, hD0.self, va_S.rf, ?_, ?_⟩ (ev_entry vs y.2.2.1 hc1 hvl)
  · intro pc ls st σ1 hfin H locs cells slots lsA hI hL
    obtain ⟨hP1, hD1, hS1, hr1, hr2⟩ := hI
    have hr1 : cells + σ1.2.2 ≤ σ.2.2 := hr1
    have hr2 : slots + 6 * σ1.2.2 ≤ 6 * σ.2.2 := hr2
    unfold ev_at at hfin
    split at hfin
    · rename_i ht
      obtain ⟨rfl, hb, hPo⟩ := hfin
      obtain ⟨hd0, hret⟩ := h0 pc ht
      refine W.widen (k := σ.2.2 - σ1.2.2) (n := 6 * (σ.2.2 - σ1.2.2)) (by omega) (by omega) ?_
      exact ev_end (W.vret B.exec B.bytes (B.returns.trans hret) (fun t ht hW => ⟨_, σ1, hPo, by omega, hS1.F ht, by rw [ht]; exact hP1, rfl⟩) hS1.2.2 hd0)
    · rename_i ht
      obtain ⟨v, rfl, hb, hPo⟩ := hfin
      obtain ⟨hd0, hret⟩ := h1 pc ht
      refine W.widen (k := σ.2.2 - σ1.2.2) (n := 6 * (σ.2.2 - σ1.2.2)) (by omega) (by omega) ?_
      exact ev_end (W.iret B.exec B.bytes (B.returns.trans hret) (fun t ht hW => ⟨_, σ1, hPo, by omega, hS1.F ht, by rw [ht]; exact hP1, rfl⟩) hS1.2.2 hd0)
    · rename_i ht
      obtain ⟨v, rfl, hv, hb, hPo⟩ := hfin
      obtain ⟨hd0, hret⟩ := h2 pc ht
      have hnar : narrow .boolean (.int v) = .int v := by rcases hv with rfl | rfl <;> decide +kernel
      refine W.widen (k := σ.2.2 - σ1.2.2) (n := 6 * (σ.2.2 - σ1.2.2)) (by omega) (by omega) ?_
      exact ev_end (W.zret B.exec B.bytes (B.returns.trans hret) hnar (fun t ht hW => ⟨_, σ1, hPo, by omega, hS1.F ht, by rw [ht]; exact hP1, rfl⟩) hS1.2.2 hd0)
    · rename_i k ht
      obtain ⟨rfl, b', hb1, hb2, hPo⟩ := hfin
      obtain ⟨hh, hth⟩ := h3 pc k ht
      rw [hb1] at hr1 hr2
      have het : c.exceptionTable.toList = [] := by rw [hh] at hexc; exact List.map_eq_nil_iff.mp hexc
      refine W.widen (k := σ.2.2 - σ1.2.2) (n := 6 * (σ.2.2 - σ1.2.2)) (by omega) (by omega) ?_
      refine hth p e (ev_rm y σ.2.2) s m _ below meth c H locs _ _ (va_A (ev_ws ad ca lay σ) s.heap.size) lsA _ _ B.exec B.bytes hml het hlocks hown hts rfl rfl (show σ.2.2 - σ1.2.2 + 1 ≤ σ.2.2 by omega) (show 6 * (σ.2.2 - σ1.2.2) + 6 ≤ 6 * σ.2.2 by omega) (Nat.le_refl _) hL.1.1 hS1 (fun q h => h) (fun q h => Or.inr h) hnst hZ ?_
      intro x ce t hx hce hfc hcv hkept hsz
      have hP2 : va_P D cl (ev_ws ad ca lay (σ1.1, σ1.2.1, b')) H := by rw [ev_ws_bud]; exact hP1
      refine ⟨_, _, hPo, (show σ.2.2 - σ1.2.2 + 1 + b' ≤ σ.2.2 by omega), ⟨Nat.le_trans hS1.1 hsz, fun q g1 g2 => ?_⟩, hP2.kept (fun k q hq => hkept q.1 (hP2 k q hq).lt), x, ce, rfl, hce, hfc, hcv⟩
      rw [hkept q (Nat.lt_of_lt_of_le g1 hS1.1)]
      exact hS1.2.1 q g1 g2
    · exact hfin.elim
  · exact Nat.le_of_eq (Nat.zero_add _)
  · exact Nat.le_of_eq (Nat.zero_add _)
end EVM2
end
section
/-! A NEW EXCEPTION IS THROWN: the heap behind it is known but for the exception's own cell -/
section EVTH
variable {p : Program} {l : Launch} {e : Env} {R : Room} {s : State} {m : MethodId} {args : Array Value} {below : List Frame} {meth : Method} {c : Code} {T : State} {locs : List Loc} {cells slots : Nat}
set_option maxHeartbeats 1000000 in
theorem ev_thrown (X : Stand p l e R s m args below meth c T locs cells slots) (hexec : p.tables.exec = Jvm.exec) (htr : e.platform.stackTraces = false) {own cls : String} {names : List String} {ic : Nat}
    (hown : s.vm.findClass own = some m.cls) (hcls : Bundle.fit cls = true) (hnames : ∀ n ∈ names, Bundle.fit n = true) (h : ∀ a ∈ Bundle.ownAtoms own ic cls names, a.before args s = true)
    (hlocs : ∀ x ∈ locs, ∀ cell, s.heap[x.base]? = some cell → cell.vm.isStatics = false)
    {a : Addr} {cX : ClassId} {kX : Class} (hfoundX : s.vm.findClass cls = some cX) (hkX : s.vm.classes[cX]? = some kX) (hcell : T.heap[a]? = some (freshCell cX kX)) (hnew : s.heap.size ≤ a) {msg : Value} (hmsg : msg.isRef = true)
    {g : JFrame} (hg : g.method = m) (hsize : g.locals.size = c.maxLocals) (hlocked : g.locked = none) (hentered : g.entered = []) {rest : List Value} (hstack : g.stack = msg :: .ref a :: .ref a :: rest)
    (hd6 : decode c.code g.pc = .ok (.invokespecial ic, 3)) (hd9 : decode c.code (g.pc + 3) = .ok (.athrow, 1)) (hout : ∀ x ∈ c.exceptionTable.toList, covers x (g.pc + 3) = false)
    (hRframes : names.length + 3 < R.frames) (hRlocals : 2 * g.monitorRoom + ((Value.ref a :: rest).map fun v => v.category).sum + (13 * (names.length + 1) + 42) ≤ R.locals) (hlocks : meth.locks = false) :
    ∃ (U : State) (ce : Cell), Steps p.tables e below (T.setTop g) U ∧ U.status = .running ∧ Ended U below (.threw a) ∧ s.WarmedH U.vm ∧ s.sameButNew ({ U with vm := s.vm } : State) locs cells slots ∧ U.heap = T.heap.setIfInBounds a ce ∧ ce.cls = cX ∧ ce.vm = .none := by
  have howns : e.platform.frameOwnsMonitors = true := by rw [X.admits.platform]
  have hfin : e.platform.finalization = false := by rw [X.admits.platform]
  have hpl : e.platform.magicAccessors = ({} : Platform).magicAccessors := by rw [X.admits.platform]
  have q : ∀ x, x ∈ Bundle.ownAtoms own ic cls names → x.holds args s none s [] = true := fun x hx => h x hx
  obtain ⟨TC, Z0, LC, -, Y⟩ := ThrowableC.of_atoms (args := args) howns hfin hpl (fun x hx => h x (by simp [Bundle.ownAtoms, hx]))
  obtain ⟨Z, M, LZ, LM, hnZ⟩ := Init0T.ofS_atoms (args := args) hpl LC Y (fun x hx => h x (by simp [Bundle.ownAtoms, hx]))
  obtain ⟨P1, Ps, hlen, L1, hL, hP1m, hlink1, hlink⟩ := Bundle.chainS (args := args) hpl hnZ names cls hcls hnames (fun x hx => h x (by simp [Bundle.ownAtoms, hx]))
  have hfound : s.vm.findClass cls = some P1.m.cls := findClass_of_methodNamed hP1m
  cases Option.some.inj (hfoundX.symm.trans hfound)
  obtain ⟨c1, kX', hc1, hk, hord, -, -, -⟩ := Cond.instantiable_spec (q (.instantiable cls 6) (by simp [Bundle.ownAtoms]))
  cases Option.some.inj (hc1.symm.trans hfound)
  cases Option.some.inj (hkX.symm.trans hk)
  have hsel0 : selectMethod e.platform s.vm P1.m.cls TC.fill0 = .method TC.fill0 := by
    obtain ⟨c2, r2, m2, q1, q2, q3, q4, -⟩ := Cond.selects_spec (q (.selects cls Bundle.tFill0 Bundle.tFill0) (by simp [Bundle.ownAtoms]))
    cases Option.some.inj (q1.symm.trans hfound)
    cases Option.some.inj (q2.symm.trans (State.methodFound?_of_named Y.fill0 (by decide)))
    cases Option.some.inj (q3.symm.trans Y.fill0)
    rw [Launch.admits_selectMethod X.admits]; exact q4
  have hselF : selectMethod e.platform s.vm P1.m.cls TC.fill = .method TC.fill := by
    obtain ⟨c2, r2, m2, q1, q2, q3, q4, -⟩ := Cond.selects_spec (q (.selects cls Bundle.tFill Bundle.tFill) (by simp [Bundle.ownAtoms]))
    cases Option.some.inj (q1.symm.trans hfound)
    cases Option.some.inj (q2.symm.trans (State.methodFound?_of_named Y.fill (by decide)))
    cases Option.some.inj (q3.symm.trans Y.fill)
    rw [Launch.admits_selectMethod X.admits]; exact q4
  obtain ⟨cellS0, hcS0, hiss⟩ := Y.statics
  obtain ⟨u0, hu0⟩ := Cond.staticRefV Y.unassigned LC.unassignedStatic LC.statics hcS0 hiss (q (.isRef (.static Bundle.tN "UNASSIGNED_STACK" Bundle.steD)) (by simp [Bundle.ownAtoms]))
  obtain ⟨sen, hsen⟩ := Cond.staticRefV Y.sentinel LC.sentinelStatic LC.statics hcS0 hiss (q (.isRef (.static Bundle.tN "SUPPRESSED_SENTINEL" Bundle.listD)) (by simp [Bundle.ownAtoms]))
  obtain ⟨ci198, i198, fB, hk198, hg198, ha198, hsB, -, hnB, htB, hffB⟩ := Cond.ownField (t := .object "java/lang/Object") Y.found LC.cls (by decide +kernel) (q (.fieldLink Bundle.tN 198 Bundle.tN "backtrace" "Ljava/lang/Object;") (by simp [Bundle.ownAtoms])) (q (.lays Bundle.tN Bundle.tN "backtrace" "Ljava/lang/Object;") (by simp [Bundle.ownAtoms])) e.platform hpl
  obtain ⟨cellS, hcS', heS, -, hkeep⟩ := X.same.2.2.2.2.2 TC.aS cellS0 hcS0
  have hcellS : T.heap[TC.aS]? = some cellS := hcS'
  have hout' : ∀ i, (⟨TC.aS, i⟩ : Loc) ∉ locs := fun i hmem => by
    have := hlocs _ hmem cellS0 hcS0
    rw [hiss] at this; cases this
  have hknownS : cellS.vm ≠ .unknown := by
    rw [heS]; intro hu
    rw [show cellS0.vm = .unknown from hu] at hiss
    cases hiss
  have hneS : TC.aS ≠ a := Nat.ne_of_lt (Nat.lt_of_lt_of_le (Array.getElem?_eq_some_iff.mp hcS0).1 hnew)
  obtain ⟨iM, hffM⟩ := Y.msg
  obtain ⟨tyC, dC, hdC, hdnC⟩ := Cond.laysAt hfound hk Y.cause (q (.lays cls Bundle.tN "cause" "Ljava/lang/Throwable;") (by simp [Bundle.ownAtoms]))
  obtain ⟨tyS, dS, hdS, hdnS⟩ := Cond.laysAt hfound hk Y.stack (q (.lays cls Bundle.tN "stackTrace" Bundle.steD) (by simp [Bundle.ownAtoms]))
  obtain ⟨tyP, dP, hdP, hdnP⟩ := Cond.laysAt hfound hk Y.supp (q (.lays cls Bundle.tN "suppressedExceptions" Bundle.listD) (by simp [Bundle.ownAtoms]))
  obtain ⟨tyM, dM, hdM, hdnM⟩ := Cond.laysAt hfound hk hffM (q (.lays cls Bundle.tN "detailMessage" "Ljava/lang/String;") (by simp [Bundle.ownAtoms]))
  obtain ⟨tyB, dB, hdB, hdnB⟩ := Cond.laysAt hfound hk hffB (q (.lays cls Bundle.tN "backtrace" "Ljava/lang/Object;") (by simp [Bundle.ownAtoms]))
  have bC := Cond.laysApart hdB hdC hdnB hdnC (by rw [hnB, Y.causeName]; decide)
  have bS := Cond.laysApart hdB hdS hdnB hdnS (by rw [hnB, Y.stackName]; decide)
  have bP := Cond.laysApart hdB hdP hdnB hdnP (by rw [hnB, Y.suppName]; decide)
  have hskip : SkipFacts TC e.platform s (fun u => u) u0 ((preparedCellV TC.toThrowableT (freshCell P1.m.cls kX) a u0 sen).withEntry T.cur) :=
    ⟨{ ci198 := ci198, i198 := i198, fBack := fB }, ⟨hk198, hg198, ha198, hsB⟩, by
      have := fresh_default (c := P1.m.cls) tyB
      rw [htB] at this
      simpa [preparedCellV, Cell.setSlot, Cell.withEntry, Array.getElem?_setIfInBounds, bC, bS, bP, bC.symm, bS.symm, bP.symm, defaultValue] using this, fun _ _ => rfl⟩
  obtain ⟨tm, methC, cdC, kC, vm₁, hnC, -, -, -, -, -, -, -, hW₁, st1⟩ := Steps.initColdS (tb := p.tables) (e := e) (below := below) (s := s) (U := T) X.here hexec X.warmed hpl hown (t := Bundle.initS cls) rfl rfl (Bundle.fit_spec hcls).2
    (q (.methodLink own ic (Bundle.initS cls)) (by simp [Bundle.ownAtoms])) (h (.instanceMethod (Bundle.initS cls)) (by cases names <;> simp [Bundle.ownAtoms, Bundle.chainSAtoms, Bundle.passSAtoms])) (bytes := Bundle.six) (maxL := 2) (h (.code (Bundle.initS cls) Bundle.six 2 none) (by cases names <;> simp [Bundle.ownAtoms, Bundle.chainSAtoms, Bundle.passSAtoms]))
    (f := g) hg (a := a) (msg := msg) (rest := .ref a :: rest) hstack hd6
  cases Option.some.inj (hnC.symm.trans hP1m)
  have X₁ := X.noted hW₁
  obtain ⟨vm₂, X₂, st2⟩ := X₁.ctorMessageOffV hexec (g := { g with stack := .ref a :: rest }) hg hsize TC LC Z LZ M LM (P1 :: Ps)
    (fun P hP => by rcases List.mem_cons.mp hP with rfl | hP; exact L1; exact hL P hP) ⟨hlink1, hlink⟩ (u0 := u0) (sen := sen) (self := a) hmsg (cell := freshCell P1.m.cls kX) (cellS := cellS)
    hcell (fun _ => by simp) (by simp) rfl rfl hsel0 hselF hcellS hneS hknownS (by rw [hkeep _ (hout' _)]; exact hu0) (by rw [hkeep _ (hout' _)]; exact hsen)
    (Takes.of_laid hk hord tyC (by rw [Y.causeType]; rfl)) (Takes.of_laid hk hord tyS (by rw [Y.stackType]; exact fits_refV_array _ u0)) (Takes.of_laid hk hord tyP (by rw [Y.suppType]; exact fits_refV_object _ sen))
    (Takes.of_laid hk hord tyM (by rw [Y.msgType]; exact fits_refV_object _ ⟨msg, hmsg⟩)) Y.objLocals hskip htr [] hd6
    (by simp only [List.length_cons, hlen]; omega) (by simp only [List.length_cons, hlen]; exact hRlocals)
  obtain ⟨hwalk, hrun, hended, hWU, hsame⟩ := X₂.athrowLeaves hexec (g := { g with stack := .ref a :: rest, pc := g.pc + 3 }) hg hlocked hentered hout (a := a) (rest := rest) rfl hd9 hlocks
  refine ⟨_, plainBareV TC.toThrowableT (freshCell P1.m.cls kX) a u0 sen msg, st1 _ (fun acts => ?_), hrun, hended, hWU, hsame.weaken (fun y hy hlt' => ?_) (Nat.le_refl _) (Nat.le_refl _), rfl, rfl, rfl⟩
  · rw [doInvoke_state]
    exact st2 _ hwalk
  · rcases List.mem_append.mp hy with h1 | h1
    · exact h1
    · exfalso
      have hb : y.base = a := by
        simp only [List.mem_cons, List.not_mem_nil, or_false] at h1
        rcases h1 with rfl | rfl | rfl | rfl | rfl <;> rfl
      rw [hb] at hlt'
      exact Nat.not_lt.mpr hnew hlt'
end EVTH
end
section
/-! A THROW SITE: new, dup, ldc, invokespecial, athrow -/
def ev_up2 : List String := ["java/lang/RuntimeException", "java/lang/Exception"]
set_option maxHeartbeats 1000000 in
theorem ev_site {l : Launch} (hfl : l.flags = pinnedFlags ++ [noTraceFlag]) {TB : List Jvm.Cond} {own tx : String} {cc : ByteArray} {nL fr lo k pc ia is ic : Nat}
    (hd0 : decode cc pc = .ok (.new ia, 3)) (hd1 : decode cc (pc + 3) = .ok (.dup, 1)) (hd2 : decode cc (pc + 4) = .ok (.ldc is, 2)) (hd3 : decode cc (pc + 6) = .ok (.invokespecial ic, 3)) (hd4 : decode cc (pc + 9) = .ok (.athrow, 1))
    (h1 : .classLink own ia (ev_xn k) ∈ TB) (h2 : .instantiable (ev_xn k) 6 ∈ TB) (h3 : .initialized (ev_xn k) ∈ TB) (h4 : .stringRef own is tx ∈ TB) (h5 : ∀ w ∈ Bundle.ownAtoms own ic (ev_xn k) ev_up2, w ∈ TB ∨ w ∈ ev_ZA)
    (h6 : Bundle.fit (ev_xn k) = true) (h7 : ∀ n ∈ ev_up2, Bundle.fit n = true) (hfr : 5 < fr) (hlo : 82 ≤ lo) : ev_Th l TB own cc nL fr lo k pc := by
  intro p e R s m args below meth c H locs cells slots A ls free Qc hx hb hml het hlocks hown hts hfr' hlo' hc1 hc2 hsl hsz hS hfree hA hnst hZ hQ
  obtain ⟨cX, -, hfX, -⟩ := Cond.instantiable_spec (hts _ h2)
  refine W.newcK hx hb hown (hts _ h1) (hts _ h2) (hts _ h3) rfl hd0 hc1 hc2 hfX rfl (fun H' kC hkC e1 z1 o1 => ?_)
  refine W.eq (g2 := F0 m (pc + 3) ls [.ref H.size]) rfl ?_
  refine lv_dup hx hb hd1 rfl ?_
  intro T hT X
  obtain ⟨k1, cf, i, as, hk1, hcf, hcp, -, hr, hev⟩ := Cond.stringRef_spec hown (hts _ h4)
  have step1 := X.ldcString hx hown (text := tx) (a := as) (hts _ h4) hev (g := F0 m (pc + 3 + 1) ls [.ref H.size, .ref H.size]) rfl (by rw [hb]; exact hd2)
  have hat : ∀ w ∈ Bundle.ownAtoms own ic (ev_xn k) ev_up2, w.before args s = true := fun w hw => (h5 w hw).elim (fun z => hts w z) (fun z => hZ.here w z args)
  obtain ⟨U, ce, hst, hrun, hend, hWU, hsame, hheap, hcls, hvm⟩ := ev_thrown X hx (Launch.traces_off hfl X.admits) hown h6 h7 hat (fun x hx cell hc => hnst _ (hS.2.2 x hx) cell hc) (a := H.size) hfX hkC (by rw [hT]; exact e1) hS.1 (msg := .ref as) rfl
    (g := F0 m (pc + 6) ls [.ref as, .ref H.size, .ref H.size]) rfl (hsz.trans hml.symm) rfl rfl (rest := []) rfl (by rw [hb]; exact hd3) (by rw [hb]; exact hd4) (fun x hx => by rw [het] at hx; cases hx) (by rw [hfr']; exact hfr) (by rw [hlo']; exact hlo) hlocks
  have hlt : H.size < T.heap.size := by rw [hT, z1]; omega
  refine ⟨U, step1 _ hst, .threw H.size, hrun, hend, cells + 1, locs, hQ H.size ce U rfl ?_ ?_ hvm ?_ ?_, hWU, hsame.mono (Nat.le_refl _) (by omega), fun q hq => hfree _ (hS.2.2 q hq)⟩
  · rw [hheap]
    simp [hlt]
  · rw [hcls]
    exact hfX
  · intro q hq
    rw [hheap, Array.getElem?_setIfInBounds_ne (Nat.ne_of_gt hq), hT]
    exact o1 q hq
  · rw [hheap]
    simp only [Array.size_setIfInBounds]
    omega
end
