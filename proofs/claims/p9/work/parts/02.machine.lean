/-! OWN ROWS OVER THE MACHINE: a contract whose method may throw; a call of it; a catch; the ends of a method -/
section EVM
variable {p : Program} {l : Launch} {e : Env} {R : Room} {s : State} {m : MethodId} {args : Array Value} {below : List Frame} {meth : Method} {c : Code} {H : Heap} {locs : List Loc} {cells slots : Nat} {Q : State → Prop}
/-- how a method ends, by returning or by throwing -/
def ev_QE (Qc : Nat → Array Value → State → Outcome → State → Prop) (free : Addr → Prop) (a : Array Value) (st : State) (o : Outcome) (t : State) : Prop :=
  ∃ (k : Nat) (L : List Loc), Qc k a st o t ∧ st.WarmedH t.vm ∧ st.sameButNew ({ t with vm := st.vm } : State) L k (6 * k) ∧ ∀ q ∈ L, free q.base
def ev_Met (l : Launch) (y : MethodName) (cw : Jvm.Cond) (rm : Room) (Pc : Array Value → State → Prop) (Qc : Nat → Array Value → State → Outcome → State → Prop) (free : Addr → Prop) : Prop :=
  MetFree l y (headSpec [cw] rm) Pc (fun _ _ _ _ _ => True) (ev_QE Qc free)
def ev_MQ (below : List Frame) (Qc : Nat → Array Value → State → Outcome → State → Prop) (a : Array Value) (s : State) (free : Addr → Prop) : State → Prop := fun t =>
  ∃ o, t.status = .running ∧ Ended t below o ∧ ev_QE Qc free a s o t
theorem ev_mono {Q Q2 : State → Prop} {g : JFrame} (h : ∀ t, Q t → Q2 t) (k : W p l e R s m args below meth c H locs cells slots Q g) : W p l e R s m args below meth c H locs cells slots Q2 g := by
  intro T hT X
  obtain ⟨t, a, b⟩ := k T hT X
  exact ⟨t, a, h t b⟩
/-- a contract out of a walk of the body -/
theorem ev_ofW {y : MethodName} {cw : Jvm.Cond} {rm : Room} {Pc : Array Value → State → Prop} {Qc : Nat → Array Value → State → Outcome → State → Prop} {free : Addr → Prop} {cc : ByteArray} {maxL : Nat} {ret : Option FieldType}
    (hy : plainFor y = true) (hcw : cw = .code y cc maxL ret ∨ ∃ hh, cw = .codeWith y cc maxL ret hh)
    (body : ∀ p e s m args below meth c s₁, BodyLoose p l y (headSpec [cw] rm) cc maxL ret e s m args below meth c s₁ → c.maxLocals = maxL → Pc args s →
      W p l e rm s m args below meth c s.heap [] 0 0 (ev_MQ below Qc args s free) (entryFrame m args maxL)) : ev_Met l y cw rm Pc Qc free := by
  refine MetFree.of_bodySF (code := cc) (maxLocals := maxL) (ret := ret) hy ?_ ?_
  · intro args s m h hn
    have h1 : cw.before args s = true := atoms_spec (ws := [cw]) h _ List.mem_cons_self
    rcases hcw with rfl | ⟨hh, rfl⟩
    · obtain ⟨meth, c, h1, h2, h3, h4, h5, h6, -, -⟩ := Cond.code_spec hn h1
      exact ⟨meth, c, h1, h2, h3, h4, h5, h6⟩
    · obtain ⟨m', meth, c, hn', h1, h2, h3, h4, -, h5, h6, -⟩ := Cond.codeWith_spec h1
      cases hn.symm.trans hn'
      exact ⟨meth, c, h1, h2, h3, h4, h5, h6⟩
  · intro p e s m args below meth c s₁ B hml hP _
    have hh0 : s₁.heap = s.heap := by rw [B.state]; rfl
    obtain ⟨t, a1, o, b1, b2, b3⟩ := body p e s m args below meth c s₁ B hml hP s₁ hh0 (Stand.of_body B)
    exact ⟨t, o, a1, b1, b2, b3⟩
/-- a call: it comes back, or it throws -/
theorem ev_called {T : State} (X : Stand p l e R s m args below meth c T locs cells slots) {y : MethodName} {cw : Jvm.Cond} {rm : Room} {Pc : Array Value → State → Prop} {Qc : Nat → Array Value → State → Outcome → State → Prop} {maxL : Nat} {free : Addr → Prop} (hM : ev_Met l y cw rm Pc Qc free)
    (hframes : rm.frames + 1 ≤ R.frames) (hlocals : 16 + (maxL + 11) + rm.locals ≤ R.locals) (hcells : cells + rm.cells ≤ R.cells) (hslots : slots + rm.slots ≤ R.slots)
    {g : JFrame} (hg : g.method = m) (hsize : g.locals.size = c.maxLocals) {ig : Instr} {len : Nat} (hdg : decode c.code g.pc = .ok (ig, len)) (hw : 2 * g.monitorRoom + (g.stack.map fun v => v.category).sum ≤ 16)
    {mk : MethodId} {methY : Method} {cY : Code} {kY : Class} (hn : T.methodNamed? y = some mk) (hmY : T.vm.method? mk = some methY) (hcY : methY.code = some cY) (hlY : cY.maxLocals = maxL) (hkY : T.vm.classes[mk.cls]? = some kY) (hiY : kY.init = .initialized)
    {a : Array Value} (hcw : cw.before a T = true) (hPc : Pc a (T.calling g mk a)) :
    ∃ (o : Outcome) (t T' : State) (k : Nat) (L : List Loc), Qc k a (T.calling g mk a) o t ∧ T.WarmedH T'.vm ∧ (∀ q ∈ L, free q.base) ∧ Stand p l e R s m args below meth c T' (locs ++ L) (cells + k) (slots + 6 * k) ∧ T'.heap = t.heap ∧
      ((∃ v, o = .returned v ∧ Steps p.tables e below (doInvoke e (T.setTop g) [] mk a).1 (T'.setTop { g with pc := g.pc + len, stack := v.toList ++ g.stack })) ∨
       (∃ x, o = .threw x ∧ Steps p.tables e below (doInvoke e (T.setTop g) [] mk a).1 ((T'.setTop g).pushFrame (.throwing x)))) := by
  have h : At T g.method c below := by rw [hg]; exact X.here
  have happ : (headSpec [cw] rm).appliesLoose y e.platform (T.calling g mk a) = true :=
    Spec.appliesLoose_calling (g := g) h hdg hn hkY hiY
      (X.room_calling (g := g) (R' := rm) hsize hmY hcY hframes (by rw [hlY]; omega) hcells hslots) (atoms_intro fun w hw => by rw [List.mem_singleton.mp hw]; exact hcw)
  obtain ⟨mid, hmid⟩ := h.above
  have hfr : (T.setTop g).frames = (.java g :: mid) ++ below := by rw [State.frames_setTop' g h.top, hmid]; rfl
  obtain ⟨o, s₂, hsteps, -, hend, hq⟩ := Steps.callFree hM p X.admits X.cas X.clock (acts := []) hfr happ hPc trivial
  have hq' : ev_QE Qc free a (T.calling g mk a) o s₂ := hq
  obtain ⟨k, L, hqc, hWm, hsame, hL⟩ := hq'
  rw [State.frames_setTop' g h.top, X.tail] at hend
  cases o with
  | returned v =>
    obtain ⟨T', X', hW', -, e1⟩ := X.outOf hg hdg hend hWm hsame
    refine ⟨_, s₂, T', k, L, hqc, hW', hL, X', ?_, Or.inl ⟨v, rfl, ?_⟩⟩
    · rw [e1]; first | rfl | simp [State.setTop, State.modifyTopJava]
    · rw [e1] at hsteps; exact hsteps
  | threw x =>
    obtain ⟨T', X', hW', -, e1⟩ := X.outOfThrown hg hend hWm hsame
    refine ⟨_, s₂, T', k, L, hqc, hW', hL, X', ?_, Or.inr ⟨x, rfl, ?_⟩⟩
    · rw [e1]; first | rfl | simp [State.pushFrame, State.setFrames, State.setTop, State.modifyTopJava]
    · rw [e1] at hsteps; exact hsteps
/-- what a call gives back to the walk: behind a return, behind a throw -/
def ev_Kr (p : Program) (l : Launch) (e : Env) (R : Room) (s : State) (m : MethodId) (args : Array Value) (below : List Frame) (meth : Method) (c : Code) (H : Heap) (locs : List Loc) (cells slots : Nat) (Q : State → Prop) (a : Array Value) (Qc : Nat → Array Value → State → Outcome → State → Prop) (free : Addr → Prop) (g : Option Value → JFrame) : Prop :=
  ∀ (v : Option Value) (st t : State) (k : Nat) (L : List Loc), st.heap = H → s.WarmedH st.vm → Qc k a st (.returned v) t → (∀ q ∈ L, free q.base) → W p l e R s m args below meth c t.heap (locs ++ L) (cells + k) (slots + 6 * k) Q (g v)
def ev_Kt (p : Program) (l : Launch) (e : Env) (R : Room) (s : State) (m : MethodId) (args : Array Value) (below : List Frame) (meth : Method) (c : Code) (H : Heap) (locs : List Loc) (cells slots : Nat) (Q : State → Prop) (a : Array Value) (Qc : Nat → Array Value → State → Outcome → State → Prop) (free : Addr → Prop) (g : JFrame) : Prop :=
  ∀ (x : Addr) (st t T' : State) (k : Nat) (L : List Loc), st.heap = H → s.WarmedH st.vm → Qc k a st (.threw x) t → (∀ q ∈ L, free q.base) → T'.heap = t.heap → Stand p l e R s m args below meth c T' (locs ++ L) (cells + k) (slots + 6 * k) → ∃ t2, Steps p.tables e below ((T'.setTop g).pushFrame (.throwing x)) t2 ∧ Q t2
theorem ev_join {T : State} {vm₁ : Vm} (hT : T.heap = H) (X₁ : Stand p l e R s m args below meth c (T.setVm vm₁) locs cells slots) {pc : Nat} {ls : Array Slot} {st0 rest : List Value} {y : MethodName} {mk : MethodId} {a : Array Value}
    (hstep : ∀ target, (∀ acts, Steps p.tables e below (doInvoke e ((T.setVm vm₁).setTop (F0 m pc ls rest)) acts mk a).1 target) → Steps p.tables e below (T.setTop (F0 m pc ls st0)) target)
    {cw : Jvm.Cond} {rm : Room} {Pc : Array Value → State → Prop} {Qc : Nat → Array Value → State → Outcome → State → Prop} {maxL : Nat} {free : Addr → Prop} (hM : ev_Met l y cw rm Pc Qc free)
    (hframes : rm.frames + 1 ≤ R.frames) (hlocals : 16 + (maxL + 11) + rm.locals ≤ R.locals) (hcells : cells + rm.cells ≤ R.cells) (hslots : slots + rm.slots ≤ R.slots)
    (hsize : ls.size = c.maxLocals) {ig : Instr} {len : Nat} (hdg : decode c.code pc = .ok (ig, len)) (hw : (rest.map fun v => v.category).sum ≤ 16)
    {methY : Method} {cY : Code} {kY : Class} (hn : s.methodNamed? y = some mk) (hmY : s.vm.method? mk = some methY) (hcY : methY.code = some cY) (hlY : cY.maxLocals = maxL) (hkY : s.vm.classes[mk.cls]? = some kY) (hiY : kY.init = .initialized)
    (hcw : ∀ (a' : Array Value) (U : State), s.WarmedH U.vm → cw.before a' U = true) (hPc : ∀ U : State, U.heap = H → s.WarmedH U.vm → Pc a U)
    (kr : ev_Kr p l e R s m args below meth c H locs cells slots Q a Qc free (fun v => F0 m (pc + len) ls (v.toList ++ rest)))
    (kt : ev_Kt p l e R s m args below meth c H locs cells slots Q a Qc free (F0 m pc ls rest)) : ∃ t2, Steps p.tables e below (T.setTop (F0 m pc ls st0)) t2 ∧ Q t2 := by
  obtain ⟨kY', hkY', heY⟩ := X₁.warmed.alike.2.2 _ _ hkY
  obtain ⟨o, t, T', k, L, hq, hW', hL, X', ht, hr⟩ := ev_called X₁ (g := F0 m pc ls rest) (mk := mk) (maxL := maxL) (kY := kY') hM hframes hlocals hcells hslots rfl hsize hdg (by show 2 * 0 + (rest.map fun v => v.category).sum ≤ 16; omega) (X₁.named hn) (by rw [X₁.warmed.alike.method?]; exact hmY) hcY hlY hkY' (by rw [heY]; exact hiY) (hcw a _ X₁.warmed) (hPc _ hT X₁.warmed)
  rcases hr with ⟨v, rfl, hs⟩ | ⟨x, rfl, hs⟩
  · obtain ⟨t2, a1, b1⟩ := kr v ((T.setVm vm₁).calling (F0 m pc ls rest) mk a) t k L hT X₁.warmed hq hL T' ht X'
    exact ⟨t2, hstep _ fun acts => by rw [doInvoke_state]; exact hs.trans a1, b1⟩
  · obtain ⟨t2, a1, b1⟩ := kt x ((T.setVm vm₁).calling (F0 m pc ls rest) mk a) t T' k L hT X₁.warmed hq hL ht X'
    exact ⟨t2, hstep _ fun acts => by rw [doInvoke_state]; exact hs.trans a1, b1⟩
section EVC
variable {y : MethodName} {cw : Jvm.Cond} {rm : Room} {Pc : Array Value → State → Prop} {Qc : Nat → Array Value → State → Outcome → State → Prop} {maxL : Nat} {free : Addr → Prop} {own : String} {index pc : Nat} {ls : Array Slot} {As rest : List Value}
/-- invokevirtual of a method of the receiver's own class -/
theorem ev_callV (hx : p.tables.exec = Jvm.exec) (hown : s.vm.findClass own = some m.cls) (hlink : (Jvm.Cond.methodLink own index y).before args s = true ∨ ∃ host, (Jvm.Cond.methodLinkNest own index y host).before args s = true)
    (hinst : (Jvm.Cond.instanceMethod y).before args s = true) (hsel : (Jvm.Cond.selects y.cls y y).before args s = true) (hini : (Jvm.Cond.initialized y.cls).before args s = true) (hy : y.cls ≠ "java/lang/invoke/MethodHandle" ∧ y.cls ≠ "java/lang/invoke/VarHandle")
    {bytes : ByteArray} {ret : Option FieldType} (hcode : (Jvm.Cond.code y bytes maxL ret).before args s = true)
    (hM : ev_Met l y cw rm Pc Qc free) (hframes : rm.frames + 1 ≤ R.frames) (hlocals : 16 + (maxL + 11) + rm.locals ≤ R.locals) (hcells : cells + rm.cells ≤ R.cells) (hslots : slots + rm.slots ≤ R.slots)
    {b : Addr} (hcell : ∃ cellB : Cell, H[b]? = some cellB ∧ cellB.vm.isStatics = false ∧ s.vm.findClass y.cls = some cellB.cls)
    (hsize : ls.size = c.maxLocals) (hdg : decode c.code pc = .ok (.invokevirtual index, 3)) (hlen : ∀ sig, parseMethodDescriptor y.desc = some sig → As.length = sig.parameters.length) (hw : (rest.map fun v => v.category).sum ≤ 16)
    (hcw : ∀ (a' : Array Value) (U : State), s.WarmedH U.vm → cw.before a' U = true) (hPc : ∀ U : State, U.heap = H → s.WarmedH U.vm → Pc (Value.ref b :: As).toArray U)
    (kr : ev_Kr p l e R s m args below meth c H locs cells slots Q (Value.ref b :: As).toArray Qc free (fun v => F0 m (pc + 3) ls (v.toList ++ rest)))
    (kt : ev_Kt p l e R s m args below meth c H locs cells slots Q (Value.ref b :: As).toArray Qc free (F0 m pc ls rest)) :
    W p l e R s m args below meth c H locs cells slots Q (F0 m pc ls (As.reverse ++ .ref b :: rest)) := by
  intro T hT X
  obtain ⟨cellB, hcB, hoB, hclB⟩ := hcell
  obtain ⟨mk, methM, hnamed, hmethM, hstM, habM⟩ := Cond.instanceMethod_spec hinst
  obtain ⟨methM', cM, hmethM', hcM, -, hlM, -, -, -, hsigM⟩ := Cond.code_spec hnamed hcode
  cases hmethM.symm.trans hmethM'
  obtain ⟨c2, r2, m2, q1, q2, q3, q4, kP, hkP, hkPi⟩ := Cond.selects_spec hsel
  cases hclB.symm.trans q1
  cases (State.methodFound?_of_named hnamed hy).symm.trans q2
  cases hnamed.symm.trans q3
  have hselP : selectMethod e.platform s.vm cellB.cls mk = .method mk := by rw [Launch.admits_selectMethod X.admits]; exact q4
  have hkI : kP.init = .initialized := Cond.initialized_spec (findClass_of_methodNamed hnamed) hkP hini
  have hcB' : T.heap[b]? = some cellB := by rw [hT]; exact hcB
  have hob : ∀ z, cellB.vm ≠ .statics z := fun z h => by rw [h] at hoB; cases hoB
  rcases hlink with hlink | ⟨host, hlink⟩
  · obtain ⟨vm₁, X₁, hstep⟩ := X.invokevirtual hx hown hlink hnamed hmethM hstM hkP hkPi hy (a := b) (cell := cellB) hcB' hob hselP hmethM habM hkP hkPi (g := F0 m pc ls (As.reverse ++ .ref b :: rest)) rfl (argsL := As) (rest := rest) (hlen _ hsigM) rfl hdg
    exact ev_join hT X₁ hstep hM hframes hlocals hcells hslots hsize hdg hw hnamed hmethM hcM hlM hkP hkI hcw hPc kr kt
  · obtain ⟨vm₁, X₁, hstep⟩ := X.invokevirtualNest hx hown hlink hnamed hmethM hstM hkP hkPi hy (a := b) (cell := cellB) hcB' hob hselP hmethM habM hkP hkPi (g := F0 m pc ls (As.reverse ++ .ref b :: rest)) rfl (argsL := As) (rest := rest) (hlen _ hsigM) rfl hdg
    exact ev_join hT X₁ hstep hM hframes hlocals hcells hslots hsize hdg hw hnamed hmethM hcM hlM hkP hkI hcw hPc kr kt
/-- invokestatic -/
theorem ev_callS (hx : p.tables.exec = Jvm.exec) (hown : s.vm.findClass own = some m.cls) (hlink : (Jvm.Cond.methodLink own index y).before args s = true ∨ ∃ host, (Jvm.Cond.methodLinkNest own index y host).before args s = true)
    (hstat : (Jvm.Cond.static y).before args s = true) (hini : (Jvm.Cond.initialized y.cls).before args s = true) (hy : y.cls ≠ "java/lang/invoke/MethodHandle" ∧ y.cls ≠ "java/lang/invoke/VarHandle")
    (hcode : ∃ (mk : MethodId) (methM : Method) (cM : Code), s.methodNamed? y = some mk ∧ s.vm.method? mk = some methM ∧ methM.code = some cM ∧ cM.maxLocals = maxL ∧ parseMethodDescriptor y.desc = some methM.sig)
    (hM : ev_Met l y cw rm Pc Qc free) (hframes : rm.frames + 1 ≤ R.frames) (hlocals : 16 + (maxL + 11) + rm.locals ≤ R.locals) (hcells : cells + rm.cells ≤ R.cells) (hslots : slots + rm.slots ≤ R.slots)
    (hsize : ls.size = c.maxLocals) (hdg : decode c.code pc = .ok (.invokestatic index, 3)) (hlen : ∀ sig, parseMethodDescriptor y.desc = some sig → As.length = sig.parameters.length) (hw : (rest.map fun v => v.category).sum ≤ 16)
    (hcw : ∀ (a' : Array Value) (U : State), s.WarmedH U.vm → cw.before a' U = true) (hPc : ∀ U : State, U.heap = H → s.WarmedH U.vm → Pc As.toArray U)
    (kr : ev_Kr p l e R s m args below meth c H locs cells slots Q As.toArray Qc free (fun v => F0 m (pc + 3) ls (v.toList ++ rest)))
    (kt : ev_Kt p l e R s m args below meth c H locs cells slots Q As.toArray Qc free (F0 m pc ls rest)) :
    W p l e R s m args below meth c H locs cells slots Q (F0 m pc ls (As.reverse ++ rest)) := by
  intro T hT X
  obtain ⟨mk, methM, cM, hnamed, hmethM, hcM, hlM, hsigM⟩ := hcode
  have hstatic : methM.isStatic = true := Cond.static_spec hnamed hmethM hstat
  obtain ⟨kP, hkP, -⟩ := className_of_methodNamed hnamed
  have hkI : kP.init = .initialized := Cond.initialized_spec (findClass_of_methodNamed hnamed) hkP hini
  rcases hlink with hlink | ⟨host, hlink⟩
  · obtain ⟨vm₁, X₁, hstep⟩ := X.invokestatic hx hown hlink hnamed hmethM hstatic hkP hkI hy (g := F0 m pc ls (As.reverse ++ rest)) rfl (argsL := As) (rest := rest) (hlen _ hsigM) rfl hdg
    exact ev_join hT X₁ hstep hM hframes hlocals hcells hslots hsize hdg hw hnamed hmethM hcM hlM hkP hkI hcw hPc kr kt
  · obtain ⟨vm₁, X₁, hstep⟩ := X.invokestaticNest hx hown hlink hnamed hmethM hstatic hkP hkI hy (g := F0 m pc ls (As.reverse ++ rest)) rfl (argsL := As) (rest := rest) (hlen _ hsigM) rfl hdg
    exact ev_join hT X₁ hstep hM hframes hlocals hcells hslots hsize hdg hw hnamed hmethM hcM hlM hkP hkI hcw hPc kr kt
end EVC
/-! the ends -/
theorem ev_end {k : Nat} {Qc : Nat → Array Value → State → Outcome → State → Prop} {free : Addr → Prop} {g : JFrame} (h : W p l e R s m args below meth c H locs cells slots (MQ below (Qc k) args s k (6 * k) free) g) : W p l e R s m args below meth c H locs cells slots (ev_MQ below Qc args s free) g :=
  ev_mono (fun t ⟨o, h1, h2, h3, L, ⟨_, h5, h6⟩, h7⟩ => ⟨o, h1, h2, k, L, h3, h5, h6, h7⟩) h
/-! a catch: each row of the table covers the pc; the classes of the rows link -/
def ev_tk (e : Env) (s : State) (m : MethodId) (k : ClassId) (pc : Nat) : List ExceptionTableEntry → Nat → Prop
  | [], _ => False
  | x :: t, pc' => covers x pc = true ∧ x.catchType ≠ 0 ∧ ∃ kc : ClassId, s.vm.ClassLinks e.platform m.cls x.catchType kc ∧ ((s.vm.assignable k kc = true ∧ pc' = x.handlerPc) ∨ (s.vm.assignable k kc = false ∧ ev_tk e s m k pc t pc'))
theorem ev_row {S : State} {f : JFrame} {a : Addr} {x : ExceptionTableEntry} {t : List ExceptionTableEntry} {kc : ClassId} {cell : Cell} {Q : Handler → Pre} {E : CtlPost} {d : Bool} {acts : List Action} (hx : covers x f.pc = true) (h0 : x.catchType ≠ 0)
    (hl : S.vm.ClassLinks e.platform f.method.cls x.catchType kc) (hcell : S.heap[a]? = some cell) (hv : cell.vm = .none) (h1 : ∃ q, S.vm.classes[cell.cls]? = some q) (h2 : ∃ q, S.vm.classes[kc]? = some q) :
    wp (findHandler.go f a (x :: t)) Q E e d acts S ↔ (if S.vm.assignable cell.cls kc = true then Q (.found x.handlerPc) d acts (S.setVm (S.vm.noted f.method.cls x.catchType (.cls kc))) else wp (findHandler.go f a t) Q E e d acts (S.setVm (S.vm.noted f.method.cls x.catchType (.cls kc)))) := by
  simp only [covers] at hx
  obtain ⟨ha, ht⟩ := (resolveClass_links e.toSetting hl).op (op := VmOp.resolveClass f.method.cls x.catchType) rfl
  have hal : S.vm.Alike (S.vm.noted f.method.cls x.catchType (.cls kc)) := (Vm.Alike.refl S.vm).noted _ _ _
  obtain ⟨k1, hk1⟩ := h1
  obtain ⟨k2, hk2⟩ := h2
  obtain ⟨k1', hk1', -⟩ := hal.2.2 _ _ hk1
  obtain ⟨k2', hk2', -⟩ := hal.2.2 _ _ hk2
  have hobj : ∀ k, cell.vm ≠ .statics k := fun k h => by rw [hv] at h; cases h
  have has : (S.vm.noted f.method.cls x.catchType (.cls kc)).assignable cell.cls kc = S.vm.assignable cell.cls kc := hal.assignable _ _
  cases hf : S.vm.assignable cell.cls kc <;> simp [findHandler.go, hx, h0, ha, ht, hcell, hobj, hk1', hk2', has, hf, VmOp.dirties, VmOp.acts]
theorem ev_rows {f : JFrame} (hfm : f.method = m) {a : Addr} {cell : Cell} (hv : cell.vm = .none) (h1 : ∃ q, s.vm.classes[cell.cls]? = some q) {pc' : Nat} :
    ∀ (rows : List ExceptionTableEntry) (S : State), s.WarmedH S.vm → S.heap[a]? = some cell → ev_tk e s m cell.cls f.pc rows pc' →
      ∃ vm', s.WarmedH vm' ∧ ∀ (Q : Handler → Pre) (E : CtlPost) (d : Bool) (acts : List Action), wp (findHandler.go f a rows) Q E e d acts S ↔ Q (.found pc') d acts (S.setVm vm') := by
  obtain ⟨k0, hk0⟩ := h1
  intro rows
  induction rows with
  | nil => intro S _ _ h; exact h.elim
  | cons x t ih =>
    intro S hW hcell ⟨hx, h0, kc, hl, hh⟩
    subst hfm
    obtain ⟨dk, _, _, kt, hd, _, _, _, _, hkt, _, hopen⟩ := hl.here
    obtain ⟨k0', hk0', -⟩ := hW.alike.2.2 _ _ hk0
    obtain ⟨kt', hkt', -⟩ := hW.alike.2.2 _ _ hkt
    have hW2 := hW.noted hd hopen (State.rightAt_cls hl)
    rcases hh with ⟨hy, rfl⟩ | ⟨hno, hrest⟩
    · refine ⟨_, hW2, fun Q E d acts => ?_⟩
      rw [ev_row hx h0 (hW.classLinks hl) hcell hv ⟨k0', hk0'⟩ ⟨kt', hkt'⟩, if_pos (by rw [hW.alike.assignable]; exact hy)]
    · obtain ⟨vm', hW', hq⟩ := ih (S.setVm (S.vm.noted f.method.cls x.catchType (.cls kc))) hW2 hcell hrest
      refine ⟨vm', hW', fun Q E d acts => ?_⟩
      rw [ev_row hx h0 (hW.classLinks hl) hcell hv ⟨k0', hk0'⟩ ⟨kt', hkt'⟩, if_neg (by rw [hW.alike.assignable, hno]; decide)]
      exact hq Q E d acts
/-- the exception is caught in the walked method -/
theorem ev_catch {T : State} (X : Stand p l e R s m args below meth c T locs cells slots) {x : Addr} {g : JFrame} (hg : g.method = m) {cell : Cell} (hcell : T.heap[x]? = some cell) (hv : cell.vm = .none) (h1 : ∃ q, s.vm.classes[cell.cls]? = some q) {pc' : Nat}
    (htk : ev_tk e s m cell.cls g.pc c.exceptionTable.toList pc') :
    ∃ vm', Stand p l e R s m args below meth c (T.setVm vm') locs cells slots ∧
      ∀ target, Steps p.tables e below ((T.setVm vm').setTop { g with pc := pc', stack := [.ref x] }) target → Steps p.tables e below ((T.setTop g).pushFrame (.throwing x)) target := by
  have h : At T g.method c below := by rw [hg]; exact X.here
  have hvm : ((T.setTop g).pushFrame (.throwing x)).vm = T.vm := Stand.throwing_vm T g x
  have hhp : ((T.setTop g).pushFrame (.throwing x)).heap = T.heap := Stand.throwing_heap T g x
  obtain ⟨vm', hW', hq⟩ := ev_rows (e := e) (f := g) hg hv h1 c.exceptionTable.toList ((T.setTop g).pushFrame (.throwing x)) (by rw [hvm]; exact X.warmed) (by rw [hhp]; exact hcell) htk
  refine ⟨vm', X.noted hW', fun target hrest => ?_⟩
  obtain ⟨hgo, hw⟩ := h.throwing x
  have hfind : ∀ (Q : Handler → Pre) (E : CtlPost) (d : Bool) (acts : List Action), wp (findHandler g x) Q E e d acts ((T.setTop g).pushFrame (.throwing x)) ↔ Q (.found pc') d acts (((T.setTop g).pushFrame (.throwing x)).setVm vm') := fun Q E d acts => by
    rw [W.findHandler_eq (meth := meth) (code := c) (by rw [hvm, hg]; exact X.method') X.code]
    exact hq Q E d acts
  refine Steps.head hgo hw ?_
  rw [stepThread_throwing (frames_entered h.top _)]
  have hIs : ∀ r, (stepThrowing e ((T.setTop g).pushFrame (.throwing x)) x (.java g :: r)).1 = (((T.setTop g).pushFrame (.throwing x)).setVm vm').setFrames (.java { g with pc := pc', stack := [.ref x] } :: r) := by
    intro r
    simp only [stepThrowing, searchFrame, vmDo]
    generalize hr : Sem.go _ e false [] ((T.setTop g).pushFrame (.throwing x)) = res
    obtain ⟨as, rfl, ha⟩ := Sem.eq_ok_of hr (a := Handler.found pc') (s' := ((T.setTop g).pushFrame (.throwing x)).setVm vm') (acts' := []) (by simp [hfind _ _ _ _])
    rfl
  obtain ⟨g₀, hg0⟩ := Option.isSome_iff_exists.mp h.top
  obtain ⟨r, hr⟩ := State.topJava?_eq_some.mp hg0
  have hr' : (T.setVm vm').frames = .java g₀ :: r := hr
  have e2 : ∀ (u : State) (F G : List Frame), ((u.setFrames F).setVm vm').setFrames G = (u.setVm vm').setFrames G := fun u F G => by
    rw [show (u.setFrames F).setVm vm' = (u.setVm vm').setFrames F from rfl, State.setFrames_setFrames]
  rw [hr, List.tail_cons, hIs, State.pushFrame, e2, State.setTop_of_frames _ hr, e2]
  rw [State.setTop_of_frames _ hr'] at hrest
  exact hrest
end EVM
