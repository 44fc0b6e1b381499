/-! CONSTRUCTORS: a call of one, and what is known behind it -/
section ECM
variable {sl : Nat → Nat}
variable {p : Program} {l : Launch} {e : Env} {R : Room} {s : State} {m : MethodId} {args : Array Value} {below : List Frame} {meth : Method} {c : Code} {H : Heap} {locs : List Loc} {cells slots : Nat} {Q : State → Prop}
/-- how a method ends, by returning or by throwing -/
def ec_QE (sl : Nat → Nat) (Qc : Nat → Array Value → State → Outcome → State → Prop) (free : Addr → Prop) (a : Array Value) (st : State) (o : Outcome) (t : State) : Prop :=
  ∃ (k : Nat) (L : List Loc), Qc k a st o t ∧ st.WarmedH t.vm ∧ st.sameButNew ({ t with vm := st.vm } : State) L k (sl k) ∧ ∀ q ∈ L, free q.base
def ec_Met (sl : Nat → Nat) (l : Launch) (y : MethodName) (cw : Jvm.Cond) (rm : Room) (Pc : Array Value → State → Prop) (Qc : Nat → Array Value → State → Outcome → State → Prop) (free : Addr → Prop) : Prop :=
  MetFree l y (headSpec [cw] rm) Pc (fun _ _ _ _ _ => True) (ec_QE sl Qc free)
def ec_MQ (sl : Nat → Nat) (below : List Frame) (Qc : Nat → Array Value → State → Outcome → State → Prop) (a : Array Value) (s : State) (free : Addr → Prop) : State → Prop := fun t =>
  ∃ o, t.status = .running ∧ Ended t below o ∧ ec_QE sl Qc free a s o t
/-- a contract out of a walk of the body -/
theorem ec_ofW {y : MethodName} {cw : Jvm.Cond} {rm : Room} {Pc : Array Value → State → Prop} {Qc : Nat → Array Value → State → Outcome → State → Prop} {free : Addr → Prop} {cc : ByteArray} {maxL : Nat} {ret : Option FieldType}
    (hy : plainFor y = true) (hcw : cw = .code y cc maxL ret ∨ ∃ hh, cw = .codeWith y cc maxL ret hh)
    (body : ∀ p e s m args below meth c s₁, BodyLoose p l y (headSpec [cw] rm) cc maxL ret e s m args below meth c s₁ → c.maxLocals = maxL → Pc args s →
      W p l e rm s m args below meth c s.heap [] 0 0 (ec_MQ sl below Qc args s free) (entryFrame m args maxL)) : ec_Met sl l y cw rm Pc Qc free := by
  refine MetFree.of_bodySF (code := cc) (maxLocals := maxL) (ret := ret) hy ?_ ?_
  · intro args s m h hn
    have h1 : cw.before args s = true := atoms_spec (ws := [cw]) h _ List.mem_cons_self
    rcases hcw with rfl | ⟨hh, rfl⟩
    · obtain ⟨meth, c, h1, h2, h3, h4, h5, h6, -, -⟩ := Cond.code_spec hn h1
      exact ⟨meth, c, h1, h2, h3, h4, h5, h6⟩
    · obtain ⟨m', meth, c, hn', h1, h2, h3, h4, -, h5, h6, -⟩ := Cond.codeWith_spec h1
      cases hn.symm.trans hn'
      exact ⟨meth, c, h1, h2, h3, h4, h5, h6⟩
  · intro p e s m args below meth c s₁ B hml hP _
    have hh0 : s₁.heap = s.heap := by rw [B.state]; rfl
    obtain ⟨t, a1, o, b1, b2, b3⟩ := body p e s m args below meth c s₁ B hml hP s₁ hh0 (Stand.of_body B)
    exact ⟨t, o, a1, b1, b2, b3⟩
/-- a call: it comes back, or it throws -/
theorem ec_called {T : State} (X : Stand p l e R s m args below meth c T locs cells slots) {y : MethodName} {cw : Jvm.Cond} {rm : Room} {Pc : Array Value → State → Prop} {Qc : Nat → Array Value → State → Outcome → State → Prop} {maxL : Nat} {free : Addr → Prop} (hM : ec_Met sl l y cw rm Pc Qc free)
    (hframes : rm.frames + 1 ≤ R.frames) (hlocals : 16 + (maxL + 11) + rm.locals ≤ R.locals) (hcells : cells + rm.cells ≤ R.cells) (hslots : slots + rm.slots ≤ R.slots)
    {g : JFrame} (hg : g.method = m) (hsize : g.locals.size = c.maxLocals) {ig : Instr} {len : Nat} (hdg : decode c.code g.pc = .ok (ig, len)) (hw : 2 * g.monitorRoom + (g.stack.map fun v => v.category).sum ≤ 16)
    {mk : MethodId} {methY : Method} {cY : Code} {kY : Class} (hn : T.methodNamed? y = some mk) (hmY : T.vm.method? mk = some methY) (hcY : methY.code = some cY) (hlY : cY.maxLocals = maxL) (hkY : T.vm.classes[mk.cls]? = some kY) (hiY : kY.init = .initialized)
    {a : Array Value} (hcw : cw.before a T = true) (hPc : Pc a (T.calling g mk a)) :
    ∃ (o : Outcome) (t T' : State) (k : Nat) (L : List Loc), Qc k a (T.calling g mk a) o t ∧ T.WarmedH T'.vm ∧ (∀ q ∈ L, free q.base) ∧ Stand p l e R s m args below meth c T' (locs ++ L) (cells + k) (slots + sl k) ∧ T'.heap = t.heap ∧
      ((∃ v, o = .returned v ∧ Steps p.tables e below (doInvoke e (T.setTop g) [] mk a).1 (T'.setTop { g with pc := g.pc + len, stack := v.toList ++ g.stack })) ∨
       (∃ x, o = .threw x ∧ Steps p.tables e below (doInvoke e (T.setTop g) [] mk a).1 ((T'.setTop g).pushFrame (.throwing x)))) := by
  have h : At T g.method c below := by rw [hg]; exact X.here
  have happ : (headSpec [cw] rm).appliesLoose y e.platform (T.calling g mk a) = true :=
    Spec.appliesLoose_calling (g := g) h hdg hn hkY hiY
      (X.room_calling (g := g) (R' := rm) hsize hmY hcY hframes (by rw [hlY]; omega) hcells hslots) (atoms_intro fun w hw => by rw [List.mem_singleton.mp hw]; exact hcw)
  obtain ⟨mid, hmid⟩ := h.above
  have hfr : (T.setTop g).frames = (.java g :: mid) ++ below := by rw [State.frames_setTop' g h.top, hmid]; rfl
  obtain ⟨o, s₂, hsteps, -, hend, hq⟩ := Steps.callFree hM p X.admits X.cas X.clock (acts := []) hfr happ hPc trivial
  have hq' : ec_QE sl Qc free a (T.calling g mk a) o s₂ := hq
  obtain ⟨k, L, hqc, hWm, hsame, hL⟩ := hq'
  rw [State.frames_setTop' g h.top, X.tail] at hend
  cases o with
  | returned v =>
    obtain ⟨T', X', hW', -, e1⟩ := X.outOf hg hdg hend hWm hsame
    refine ⟨_, s₂, T', k, L, hqc, hW', hL, X', ?_, Or.inl ⟨v, rfl, ?_⟩⟩
    · rw [e1]; first | rfl | simp [State.setTop, State.modifyTopJava]
    · rw [e1] at hsteps; exact hsteps
  | threw x =>
    obtain ⟨T', X', hW', -, e1⟩ := X.outOfThrown hg hend hWm hsame
    refine ⟨_, s₂, T', k, L, hqc, hW', hL, X', ?_, Or.inr ⟨x, rfl, ?_⟩⟩
    · rw [e1]; first | rfl | simp [State.pushFrame, State.setFrames, State.setTop, State.modifyTopJava]
    · rw [e1] at hsteps; exact hsteps
/-- what a call gives back to the walk: behind a return, behind a throw -/
def ec_Kr (sl : Nat → Nat) (p : Program) (l : Launch) (e : Env) (R : Room) (s : State) (m : MethodId) (args : Array Value) (below : List Frame) (meth : Method) (c : Code) (H : Heap) (locs : List Loc) (cells slots : Nat) (Q : State → Prop) (a : Array Value) (Qc : Nat → Array Value → State → Outcome → State → Prop) (free : Addr → Prop) (g : Option Value → JFrame) : Prop :=
  ∀ (v : Option Value) (st t : State) (k : Nat) (L : List Loc), st.heap = H → s.WarmedH st.vm → Qc k a st (.returned v) t → (∀ q ∈ L, free q.base) → W p l e R s m args below meth c t.heap (locs ++ L) (cells + k) (slots + sl k) Q (g v)
def ec_Kt (sl : Nat → Nat) (p : Program) (l : Launch) (e : Env) (R : Room) (s : State) (m : MethodId) (args : Array Value) (below : List Frame) (meth : Method) (c : Code) (H : Heap) (locs : List Loc) (cells slots : Nat) (Q : State → Prop) (a : Array Value) (Qc : Nat → Array Value → State → Outcome → State → Prop) (free : Addr → Prop) (g : JFrame) : Prop :=
  ∀ (x : Addr) (st t T' : State) (k : Nat) (L : List Loc), st.heap = H → s.WarmedH st.vm → Qc k a st (.threw x) t → (∀ q ∈ L, free q.base) → T'.heap = t.heap → Stand p l e R s m args below meth c T' (locs ++ L) (cells + k) (slots + sl k) → ∃ t2, Steps p.tables e below ((T'.setTop g).pushFrame (.throwing x)) t2 ∧ Q t2
theorem ec_join {T : State} {vm₁ : Vm} (hT : T.heap = H) (X₁ : Stand p l e R s m args below meth c (T.setVm vm₁) locs cells slots) {pc : Nat} {ls : Array Slot} {st0 rest : List Value} {y : MethodName} {mk : MethodId} {a : Array Value}
    (hstep : ∀ target, (∀ acts, Steps p.tables e below (doInvoke e ((T.setVm vm₁).setTop (F0 m pc ls rest)) acts mk a).1 target) → Steps p.tables e below (T.setTop (F0 m pc ls st0)) target)
    {cw : Jvm.Cond} {rm : Room} {Pc : Array Value → State → Prop} {Qc : Nat → Array Value → State → Outcome → State → Prop} {maxL : Nat} {free : Addr → Prop} (hM : ec_Met sl l y cw rm Pc Qc free)
    (hframes : rm.frames + 1 ≤ R.frames) (hlocals : 16 + (maxL + 11) + rm.locals ≤ R.locals) (hcells : cells + rm.cells ≤ R.cells) (hslots : slots + rm.slots ≤ R.slots)
    (hsize : ls.size = c.maxLocals) {ig : Instr} {len : Nat} (hdg : decode c.code pc = .ok (ig, len)) (hw : (rest.map fun v => v.category).sum ≤ 16)
    {methY : Method} {cY : Code} {kY : Class} (hn : s.methodNamed? y = some mk) (hmY : s.vm.method? mk = some methY) (hcY : methY.code = some cY) (hlY : cY.maxLocals = maxL) (hkY : s.vm.classes[mk.cls]? = some kY) (hiY : kY.init = .initialized)
    (hcw : ∀ (a' : Array Value) (U : State), s.WarmedH U.vm → cw.before a' U = true) (hPc : ∀ U : State, U.heap = H → s.WarmedH U.vm → Pc a U)
    (kr : ec_Kr sl p l e R s m args below meth c H locs cells slots Q a Qc free (fun v => F0 m (pc + len) ls (v.toList ++ rest)))
    (kt : ec_Kt sl p l e R s m args below meth c H locs cells slots Q a Qc free (F0 m pc ls rest)) : ∃ t2, Steps p.tables e below (T.setTop (F0 m pc ls st0)) t2 ∧ Q t2 := by
  obtain ⟨kY', hkY', heY⟩ := X₁.warmed.alike.2.2 _ _ hkY
  obtain ⟨o, t, T', k, L, hq, hW', hL, X', ht, hr⟩ := ec_called X₁ (g := F0 m pc ls rest) (mk := mk) (maxL := maxL) (kY := kY') hM hframes hlocals hcells hslots rfl hsize hdg (by show 2 * 0 + (rest.map fun v => v.category).sum ≤ 16; omega) (X₁.named hn) (by rw [X₁.warmed.alike.method?]; exact hmY) hcY hlY hkY' (by rw [heY]; exact hiY) (hcw a _ X₁.warmed) (hPc _ hT X₁.warmed)
  rcases hr with ⟨v, rfl, hs⟩ | ⟨x, rfl, hs⟩
  · obtain ⟨t2, a1, b1⟩ := kr v ((T.setVm vm₁).calling (F0 m pc ls rest) mk a) t k L hT X₁.warmed hq hL T' ht X'
    exact ⟨t2, hstep _ fun acts => by rw [doInvoke_state]; exact hs.trans a1, b1⟩
  · obtain ⟨t2, a1, b1⟩ := kt x ((T.setVm vm₁).calling (F0 m pc ls rest) mk a) t T' k L hT X₁.warmed hq hL ht X'
    exact ⟨t2, hstep _ fun acts => by rw [doInvoke_state]; exact hs.trans a1, b1⟩
theorem ec_end {k : Nat} {Qc : Nat → Array Value → State → Outcome → State → Prop} {free : Addr → Prop} {g : JFrame} (h : W p l e R s m args below meth c H locs cells slots (MQ below (Qc k) args s k (sl k) free) g) : W p l e R s m args below meth c H locs cells slots (ec_MQ sl below Qc args s free) g :=
  ev_mono (fun t ⟨o, h1, h2, h3, L, ⟨_, h5, h6⟩, h7⟩ => ⟨o, h1, h2, k, L, h3, h5, h6, h7⟩) h
end ECM
section EVI
variable {sl : Nat → Nat}
variable {p : Program} {l : Launch} {e : Env} {R : Room} {s : State} {m : MethodId} {args : Array Value} {below : List Frame} {meth : Method} {c : Code} {H : Heap} {locs : List Loc} {cells slots : Nat} {Q : State → Prop}
variable {y : MethodName} {cw : Jvm.Cond} {rm : Room} {Pc : Array Value → State → Prop} {Qc : Nat → Array Value → State → Outcome → State → Prop} {maxL : Nat} {free : Addr → Prop} {own : String} {index pc : Nat} {ls : Array Slot} {As rest : List Value}
/-- invokespecial of a constructor -/
theorem ev_callI (hx : p.tables.exec = Jvm.exec) (hown : s.vm.findClass own = some m.cls) (hlink : (Jvm.Cond.methodLink own index y).before args s = true ∨ ∃ host, (Jvm.Cond.methodLinkNest own index y host).before args s = true)
    (hinst : (Jvm.Cond.instanceMethod y).before args s = true) (hini : (Jvm.Cond.initialized y.cls).before args s = true) (hy1 : y.name = "<init>") (hy : y.cls ≠ "java/lang/invoke/MethodHandle" ∧ y.cls ≠ "java/lang/invoke/VarHandle")
    {bytes : ByteArray} (hcode : (Jvm.Cond.code y bytes maxL none).before args s = true)
    (hM : ec_Met sl l y cw rm Pc Qc free) (hframes : rm.frames + 1 ≤ R.frames) (hlocals : 16 + (maxL + 11) + rm.locals ≤ R.locals) (hcells : cells + rm.cells ≤ R.cells) (hslots : slots + rm.slots ≤ R.slots)
    {b : Addr} (hsize : ls.size = c.maxLocals) (hdg : decode c.code pc = .ok (.invokespecial index, 3)) (hlen : ∀ sig, parseMethodDescriptor y.desc = some sig → As.length = sig.parameters.length) (hw : (rest.map fun v => v.category).sum ≤ 16)
    (hcw : ∀ (a' : Array Value) (U : State), s.WarmedH U.vm → cw.before a' U = true) (hPc : ∀ U : State, U.heap = H → s.WarmedH U.vm → Pc (Value.ref b :: As).toArray U)
    (kr : ec_Kr sl p l e R s m args below meth c H locs cells slots Q (Value.ref b :: As).toArray Qc free (fun v => F0 m (pc + 3) ls (v.toList ++ rest)))
    (kt : ec_Kt sl p l e R s m args below meth c H locs cells slots Q (Value.ref b :: As).toArray Qc free (F0 m pc ls rest)) :
    W p l e R s m args below meth c H locs cells slots Q (F0 m pc ls (As.reverse ++ .ref b :: rest)) := by
  intro T hT X
  have hpl : e.platform.magicAccessors = ({} : Platform).magicAccessors := by rw [X.admits.platform]
  rcases hlink with hlink | ⟨host, hlink⟩
  · obtain ⟨mk, methM, cM, kP, vm₁, hnamed, hmethM, hcM, -, hlM, -, hkP, -, hW₁, hstep⟩ := Steps.initColdArgs (e := e) X.here hx X.warmed hpl hown hy1 hy hlink hinst hcode (f := F0 m pc ls (As.reverse ++ .ref b :: rest)) rfl hlen rfl hdg
    have hkI : kP.init = .initialized := Cond.initialized_spec (findClass_of_methodNamed hnamed) hkP hini
    exact ec_join hT (X.noted hW₁) hstep hM hframes hlocals hcells hslots hsize hdg hw hnamed hmethM hcM hlM hkP hkI hcw hPc kr kt
  · obtain ⟨mk, methM, cM, kP, vm₁, hnamed, hmethM, hcM, -, hlM, -, hkP, -, hW₁, hstep⟩ := Steps.initColdArgsNest (e := e) X.here hx X.warmed hpl hown hy1 hy hlink hinst hcode (f := F0 m pc ls (As.reverse ++ .ref b :: rest)) rfl hlen rfl hdg
    have hkI : kP.init = .initialized := Cond.initialized_spec (findClass_of_methodNamed hnamed) hkP hini
    exact ec_join hT (X.noted hW₁) hstep hM hframes hlocals hcells hslots hsize hdg hw hnamed hmethM hcM hlM hkP hkI hcw hPc kr kt
/-- a constructor's contract: where it is called, what is known behind it (Wd: the cells made) -/
def ev_CP (D : va_G) (h0 sz : Nat) (E : va_E) : Array Value → State → Prop := fun a U => a = #[.ref h0] ∧ U.heap.size = sz ∧ va_P D pg_cl [(h0, E)] U.heap ∧ va_K D pg_cl [] U ∧ va_D (fun _ => True) [(h0, E)] ∧ ∀ w ∈ pg_TB, w.before #[] U = true
def ev_CQ (D : va_G) (h0 sz K : Nat) (E : va_E) (Wd : va_W → List (ClassId × FieldType) → Prop) : Nat → Array Value → State → Outcome → State → Prop := fun k _ st oc t => k = K ∧ oc = .returned none ∧ va_F (va_A [(h0, E)] sz) st t ∧ ∃ (ws : va_W) (tys : List (ClassId × FieldType)), Wd ws tys ∧ va_P D pg_cl ws t.heap ∧ va_D (va_A [(h0, E)] sz) ws ∧ va_K D pg_cl tys st
def ev_CM (l : Launch) (y : MethodName) (bytes : ByteArray) (fr lo K n : Nat) (E : va_E) (Wd : Nat → va_W → List (ClassId × FieldType) → Prop) : Prop := ∀ (D : va_G) (h0 sz : Nat), ec_Met (fun _ => n) l y (.code y bytes 1 none) { frames := fr, locals := lo, cells := K, slots := n } (ev_CP D h0 sz E) (ev_CQ D h0 sz K E (Wd h0)) (va_A [(h0, E)] sz)
theorem ev_newC {bytes : ByteArray} {fr lo K n : Nat} {E : va_E} {Wd : Nat → va_W → List (ClassId × FieldType) → Prop} (hM : ev_CM l y bytes fr lo K n E Wd) (hx : p.tables.exec = Jvm.exec) (hown : s.vm.findClass own = some m.cls) (hts : ∀ w ∈ pg_TB, w.before args s = true)
    (h1 : .methodLink own index y ∈ pg_TB ∨ ∃ host, .methodLinkNest own index y host ∈ pg_TB) (h2 : .instanceMethod y ∈ pg_TB) (h3 : .initialized y.cls ∈ pg_TB) (h4 : .code y bytes 1 none ∈ pg_TB) (hy1 : y.name = "<init>") (hy : y.cls ≠ "java/lang/invoke/MethodHandle" ∧ y.cls ≠ "java/lang/invoke/VarHandle") (hyd : parseMethodDescriptor y.desc = some ⟨[], none⟩)
    (hframes : fr + 1 ≤ R.frames) (hlocals : 16 + (1 + 11) + lo ≤ R.locals) (hcells : cells + K ≤ R.cells) (hslots : slots + n ≤ R.slots) (hsize : ls.size = c.maxLocals) {cc : ByteArray} (hb : c.code = cc) (hdg : decode cc pc = .ok (.invokespecial index, 3)) (hw : (rest.map fun v => v.category).sum ≤ 16)
    {D : va_G} {A : Nat → Prop} {ws wr : va_W} {tys : List (ClassId × FieldType)} {b : Nat} (hK : va_K D pg_cl tys s) (hP : va_P D pg_cl ws H) (hD : va_D A ws) (hS : va_S A s.heap H locs) (hA : ∀ q, s.heap.size ≤ q → A q) (i : Nat) (isR : List Nat) (hC : [i].map (fun i => ws[i]?) = [((b, E) : Nat × va_E)].map some) (hR : isR.map (fun i => ws[i]?) = wr.map some) (hn : va_nd isR = true) (hdis : ∀ k ∈ isR, k ∉ [i])
    (kk : ∀ (w1 : va_W) (tys1 : List (ClassId × FieldType)) (H1 : Heap) (locs1 : List Loc), Wd b w1 tys1 → va_K D pg_cl (tys ++ tys1) s → va_P D pg_cl (wr ++ w1) H1 → va_D A (wr ++ w1) → va_S A s.heap H1 locs1 → W p l e R s m args below meth c H1 locs1 (cells + K) (slots + n) Q (F0 m (pc + 3) ls rest)) :
    W p l e R s m args below meth c H locs cells slots Q (F0 m pc ls (.ref b :: rest)) := by
  have hi : ws[i]? = some (b, E) := by
    have := congrArg (fun z => z[0]?) hC
    simpa using this
  have hFc := va_free (wc := [(b, E)]) hD hS hA [i] hC
  refine ev_callI (sl := fun _ => n) (As := []) hx hown (h1.imp (hts _) (fun ⟨host, h⟩ => ⟨host, hts _ h⟩)) (hts _ h2) (hts _ h3) hy1 hy (hts _ h4) (hM D b H.size) hframes hlocals hcells hslots hsize (by rw [hb]; exact hdg) (fun sig h => by rw [hyd] at h; cases h; rfl) hw (fun a' U hW => pg_tb _ h4 _ a' s U hW (hts _ h4)) ?_ ?_ ?_
  · intro U hU hW
    refine ⟨rfl, by rw [hU], ?_, va_K.moved hW.alike ⟨hK.1, fun k q h => by simp at h⟩, ?_, fun w hw => pg_tb w hw _ _ s U hW (hts w hw)⟩
    · rw [hU]
      intro k q hq
      cases k with
      | zero => cases hq; exact hP i _ hi
      | succ k => simp at hq
    · refine ⟨fun i j p q h1 h2 _ => ?_, fun _ _ _ => trivial⟩
      have a1 := (List.getElem?_eq_some_iff.mp h1).1
      have a2 := (List.getElem?_eq_some_iff.mp h2).1
      simp at a1 a2
      omega
  · intro v st t k L hst hW hq hL
    obtain ⟨rfl, hv, hF, w1, tys1, hWd, hP1, hD1, hK1⟩ := hq
    cases hv
    obtain ⟨hz, hk⟩ := hF
    rw [hst] at hz hk
    obtain ⟨hP2, hD2⟩ := va_join (wr := wr) (w1 := w1) hP hD [i] isR hC hR hn hdis hk hFc hP1 hD1
    refine kk w1 tys1 t.heap (locs ++ L) hWd (hK.app (va_K.moved hW.alike.symm hK1)) hP2 hD2 ⟨Nat.le_trans hS.1 hz, fun q g1 g2 => ?_, fun q hq => ?_⟩
    · rw [hk q (Nat.lt_of_lt_of_le g1 hS.1) (fun z => g2 (hFc q z))]
      exact hS.2.1 q g1 g2
    · rcases List.mem_append.mp hq with h | h
      · exact hS.2.2 q h
      · exact hFc _ (hL q h)
  · intro x st t T' k L hst hW hq
    obtain ⟨-, hv, -⟩ := hq
    cases hv
end EVI
