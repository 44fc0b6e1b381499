/-! THE EVALUATOR IS RIGHT: one instruction, many instructions -/
/-- the class tables of the world: fields laid, their types, their names apart -/
def ev_Cl (TB : List Jvm.Cond) (cl : List vw_C) : Prop := ∀ (ci : Nat) (C : String) (T : u_T) (N : Nat), cl[ci]? = some (C, T, N) → (∀ w ∈ u_ws C T N, w ∈ TB) ∧ (∃ ty : Nat → FieldType, ∀ k, k < N → parseFieldDescriptor (T k).2.2.1 = some (ty k)) ∧ (∀ a, a < N → ∀ b, b < N → a ≠ b → (T a).2.1 ≠ (T b).2.1)
/-- words that only the tables say: they hold in every later state, whatever the arguments -/
def ev_Tb (TB : List Jvm.Cond) : Prop := ∀ w ∈ TB, ∀ (a a' : Array Value) (u U : State), u.WarmedH U.vm → w.before a u = true → w.before a' U = true
/-- the two statics that a new exception reads -/
def ev_ZA : List Jvm.Cond := [.laysStatic "java/lang/Throwable" "UNASSIGNED_STACK" "[Ljava/lang/StackTraceElement;", .laysStatic "java/lang/Throwable" "SUPPRESSED_SENTINEL" "Ljava/util/List;", .isRef (.static "java/lang/Throwable" "UNASSIGNED_STACK" "[Ljava/lang/StackTraceElement;"), .isRef (.static "java/lang/Throwable" "SUPPRESSED_SENTINEL" "Ljava/util/List;")]
def ev_Z (A : Nat → Prop) (U : State) (H : Heap) : Prop := ∀ U' : State, U.vm.Alike U'.vm → (∀ a : Nat, a < H.size → ¬ A a → U'.heap[a]? = H[a]?) → ∀ w ∈ ev_ZA, ∀ a : Array Value, w.before a U' = true
theorem ev_Z.moved {A : Nat → Prop} {u U : State} {H : Heap} (hz : ev_Z A u H) (h : u.vm.Alike U.vm) : ev_Z A U H := fun U' h1 h2 => hz U' (h.trans h1) h2
theorem ev_Z.kept {A : Nat → Prop} {U : State} {H H1 : Heap} (hz : ev_Z A U H) (hs : H.size ≤ H1.size) (hq : ∀ a : Nat, a < H.size → ¬ A a → H1[a]? = H[a]?) : ev_Z A U H1 := fun U' h1 h2 => hz U' h1 (fun a l n => (h2 a (Nat.lt_of_lt_of_le l hs) n).trans (hq a l n))
theorem ev_Z.narrow {A B : Nat → Prop} {U : State} {H : Heap} (hz : ev_Z A U H) (hAB : ∀ q, B q → A q) : ev_Z B U H := fun U' h1 h2 => hz U' h1 (fun a l n => h2 a l (fun z => n (hAB a z)))
theorem ev_Z.here {A : Nat → Prop} {U : State} (hz : ev_Z A U U.heap) : ∀ w ∈ ev_ZA, ∀ a : Array Value, w.before a U = true := hz U (Vm.Alike.refl _) (fun _ _ _ => rfl)
theorem ev_Z_lays {s U : State} {A A' : Array Value} {C n d : String} (hvm : s.vm.Alike U.vm) (hh : ∀ a : Nat, a < s.heap.size → U.heap[a]? = s.heap[a]?) (h : (Jvm.Cond.laysStatic C n d).before A s = true) : (Jvm.Cond.laysStatic C n d).before A' U = true := by
  obtain ⟨c, k, i, f, a, cell, hc, hi, hst, ha, hcell, hs, hcls, hlt, hty⟩ := Cond.laysStatic_spec h
  obtain ⟨k', hi', he⟩ := State.fieldFound?_setVm hvm hi
  have hi' : U.fieldFound? C n d = some (c, k', i, f) := hi'
  have hcell' : U.heap[a]? = some cell := by rw [hh a (Array.getElem?_eq_some_iff.mp hcell).1]; exact hcell
  have hc' : U.vm.findClass C = some c := by rw [hvm.findClass]; exact hc
  have ha' : k'.statics = some a := by rw [he]; exact ha
  have hty' : k'.staticTypes[f.slot]? = some f.type := by rw [he]; exact hty
  simp [Jvm.Cond.before, Jvm.Cond.holds, Jvm.Cond.value, hc', hi', ha', hcell', hst, hs, hcls, hlt, hty']
theorem ev_Z_ref {s U : State} {A A' : Array Value} {C n d : String} (hvm : s.vm.Alike U.vm) (hh : ∀ a : Nat, a < s.heap.size → U.heap[a]? = s.heap[a]?) (hl : (Jvm.Cond.laysStatic C n d).before A s = true) (h : (Jvm.Cond.isRef (.static C n d)).before A s = true) : (Jvm.Cond.isRef (.static C n d)).before A' U = true := by
  obtain ⟨c, k, i, f, a, cell, hc, hi, hst, ha, hcell, hs, hcls, hlt, hty⟩ := Cond.laysStatic_spec hl
  obtain ⟨k', hi', he⟩ := State.fieldFound?_setVm hvm hi
  have hi' : U.fieldFound? C n d = some (c, k', i, f) := hi'
  have hcell' : U.heap[a]? = some cell := by rw [hh a (Array.getElem?_eq_some_iff.mp hcell).1]; exact hcell
  have ha' : k'.statics = some a := by rw [he]; exact ha
  simp only [Jvm.Cond.before, Jvm.Cond.holds, Jvm.Cond.value, Jvm.Term.eval, State.fieldNamed?, hi, hi', hst, ha, ha', hcell, hcell', hs] at h ⊢
  simpa [hst, ha', hcell', hs, ha, hcell] using h
theorem ev_Z.of {A : Nat → Prop} {s : State} {a : Array Value} (hA : ∀ q : Nat, q < s.heap.size → ¬ A q) (h : ∀ w ∈ ev_ZA, w.before a s = true) : ev_Z A s s.heap := by
  intro U' hvm hh w hw a'
  have hh2 : ∀ q : Nat, q < s.heap.size → U'.heap[q]? = s.heap[q]? := fun q hq => hh q hq (hA q hq)
  have l1 := h _ (List.mem_cons_self : _ ∈ ev_ZA)
  have l2 := h _ (List.mem_cons_of_mem _ List.mem_cons_self : _ ∈ ev_ZA)
  have l3 := h _ (List.mem_cons_of_mem _ (List.mem_cons_of_mem _ List.mem_cons_self) : _ ∈ ev_ZA)
  have l4 := h _ (List.mem_cons_of_mem _ (List.mem_cons_of_mem _ (List.mem_cons_of_mem _ List.mem_cons_self)) : _ ∈ ev_ZA)
  rcases List.mem_cons.mp hw with rfl | hw
  · exact ev_Z_lays hvm hh2 l1
  rcases List.mem_cons.mp hw with rfl | hw
  · exact ev_Z_lays hvm hh2 l2
  rcases List.mem_cons.mp hw with rfl | hw
  · exact ev_Z_ref hvm hh2 l1 l3
  rcases List.mem_cons.mp hw with rfl | hw
  · exact ev_Z_ref hvm hh2 l2 l4
  · cases hw
/-- the kinds of exception -/
def ev_xn (k : Nat) : String := match k with
  | 0 => "java/lang/IllegalArgumentException"
  | 1 => "java/lang/IllegalStateException"
  | _ => "java/lang/IndexOutOfBoundsException"
/-- a method: name, bytes, locals, what it returns, its handlers, frames and words of room -/
abbrev ev_M : Type := MethodName × ByteArray × Nat × Option FieldType × List (Nat × Nat × Nat × Nat) × Nat × Nat
def ev_cw (q : ev_M) : Jvm.Cond := match q.2.2.2.2.1 with
  | [] => .code q.1 q.2.1 q.2.2.1 q.2.2.2.1
  | hh => .codeWith q.1 q.2.1 q.2.2.1 q.2.2.2.1 hh
def ev_rm (q : ev_M) (b : Nat) : Room := { frames := q.2.2.2.2.2.1, locals := q.2.2.2.2.2.2, cells := b, slots := 6 * b }
def ev_Ty (lay : List ev_C) (ca : Nat → ClassId) (tys : List (ClassId × FieldType)) : Prop := ∀ (k n : Nat) (ty : FieldType), lay[k]? = some (.inl (ty, n)) → ∃ t0 : Nat, tys[t0]? = some (ca k, ty)
def ev_Pc (TB : List Jvm.Cond) (cl : List vw_C) (lay : List ev_C) (D : va_G) (ad : Nat → Nat) (ca : Nat → ClassId) (tys : List (ClassId × FieldType)) (vs : List Value) (σ : ev_W) (sz : Nat) : Array Value → State → Prop := fun a U =>
  a = (vs.map (ev_tr ad)).toArray ∧ U.heap.size = sz ∧ va_P D cl (ev_ws ad ca lay σ) U.heap ∧ va_K D cl tys U ∧ va_D (fun _ => True) (ev_ws ad ca lay σ) ∧ (∀ w ∈ TB, w.before #[] U = true) ∧ ev_Z (va_A (ev_ws ad ca lay σ) sz) U U.heap
def ev_Qc (cl : List vw_C) (lay : List ev_C) (D : va_G) (ad : Nat → Nat) (ca : Nat → ClassId) (σ : ev_W) (sz : Nat) (P : (Option Value ⊕ Nat) → ev_W → Prop) : Nat → Array Value → State → Outcome → State → Prop := fun k _ st oc t =>
  ∃ (o : Option Value ⊕ Nat) (σ' : ev_W), P o σ' ∧ k + σ'.2.2 ≤ σ.2.2 ∧ va_F (va_A (ev_ws ad ca lay σ) sz) st t ∧ va_P D cl (ev_ws ad ca lay σ') t.heap ∧ (match o with
    | .inl v => oc = .returned (v.map (ev_tr ad))
    | .inr k => ∃ (x : Addr) (ce : Cell), oc = .threw x ∧ t.heap[x]? = some ce ∧ st.vm.findClass (ev_xn k) = some ce.cls ∧ ce.vm = .none)
/-- a method does what F says -/
def ev_Snd (l : Launch) (TB : List Jvm.Cond) (cl : List vw_C) (lay : List ev_C) (F : ev_F) (mt : Nat → Option ev_M) (j : Nat) : Prop :=
  ∀ (q : ev_M) (D : va_G) (ad : Nat → Nat) (ca : Nat → ClassId) (tys : List (ClassId × FieldType)) (vs : List Value) (σ : ev_W) (P : Prop × ((Option Value ⊕ Nat) → ev_W → Prop)) (sz : Nat), mt j = some q → ev_Ty lay ca tys → F j vs σ = some P → P.1 →
    ev_Met l q.1 (ev_cw q) (ev_rm q σ.2.2) (ev_Pc TB cl lay D ad ca tys vs σ sz) (ev_Qc cl lay D ad ca σ sz P.2) (va_A (ev_ws ad ca lay σ) sz)
/-- the row of a method's table says what stands in its bytes -/
def ev_ok (hs : Jvm.Cond → Bool) (cl : List vw_C) (mt : Nat → Option ev_M) (own host : String) (cc : ByteArray) (nL fr lo : Nat) (pc : Nat) (q : ev_I) : Bool :=
  decide (decode cc pc = .ok (q.1, q.2.1)) && match q.1 with
  | .iconst n => decide (q.2.1 = 1) && decide (Int32.ofInt n = q.2.2.2.2.1)
  | .bipush n => decide (q.2.1 = 2) && decide ((Int8.ofInt n).toInt32 = q.2.2.2.2.1)
  | .sipush n => decide (q.2.1 = 3) && decide ((Int16.ofInt n).toInt32 = q.2.2.2.2.1)
  | .ldc i => decide (q.2.1 = 2) && hs (.constant own i q.2.2.2.2.1)
  | .ldc_w i => decide (q.2.1 = 3) && hs (.constant own i q.2.2.2.2.1)
  | .lconst _ => decide (q.2.1 = 1)
  | .iload i => decide (q.2.1 = 2) && decide (i = q.2.2.1)
  | .iload_n i => decide (q.2.1 = 1) && decide ((i : Nat) = q.2.2.1)
  | .aload i => decide (q.2.1 = 2) && decide (i = q.2.2.1)
  | .aload_n i => decide (q.2.1 = 1) && decide ((i : Nat) = q.2.2.1)
  | .istore i => decide (q.2.1 = 2) && decide (i = q.2.2.1) && decide (q.2.2.1 < nL)
  | .istore_n i => decide (q.2.1 = 1) && decide ((i : Nat) = q.2.2.1) && decide (q.2.2.1 < nL)
  | .astore i => decide (q.2.1 = 2) && decide (i = q.2.2.1) && decide (q.2.2.1 < nL)
  | .astore_n i => decide (q.2.1 = 1) && decide ((i : Nat) = q.2.2.1) && decide (q.2.2.1 < nL)
  | .iinc i n => decide (q.2.1 = 3) && decide (i = q.2.2.1) && decide (Int32.ofInt n = q.2.2.2.2.1) && decide (q.2.2.1 < nL)
  | .ifCond _ off => decide (q.2.1 = 3) && decide ((pc : Int) + off = (q.2.2.1 : Int))
  | .if_icmp _ off => decide (q.2.1 = 3) && decide ((pc : Int) + off = (q.2.2.1 : Int))
  | .goto off => decide (q.2.1 = 3) && decide ((pc : Int) + off = (q.2.2.1 : Int))
  | .tableswitch d lo hi offs => decide ((pc : Int) + d = (q.2.2.1 : Int)) && ev_tok pc lo offs.toList q.2.2.2.2.2 && decide (hi + 1 = lo + offs.toList.length)
  | .lookupswitch d ps => decide ((pc : Int) + d = (q.2.2.1 : Int)) && decide (ps.toList.map (fun z => (z.1, (pc : Int) + z.2)) = q.2.2.2.2.2.map (fun z => (z.1.toInt, (z.2 : Int)))) && (ps.toList.zip (ps.toList.drop 1)).all (fun (a, next) => a.1 < next.1)
  | .getfield i => decide (q.2.1 = 3) && match cl[q.2.2.1]? with
    | some (_, T, N) => decide (q.2.2.2.1 < N) && (hs (.fieldLink own i (T q.2.2.2.1).1 (T q.2.2.2.1).2.1 (T q.2.2.2.1).2.2.1) || hs (.fieldLinkNest own i (T q.2.2.2.1).1 (T q.2.2.2.1).2.1 (T q.2.2.2.1).2.2.1 host))
    | none => false
  | .putfield i => decide (q.2.1 = 3) && match cl[q.2.2.1]? with
    | some (_, T, N) => decide (q.2.2.2.1 < N) && decide ((T q.2.2.2.1).2.2.2 = false) && decide (parseFieldDescriptor (T q.2.2.2.1).2.2.1 = some (if q.2.2.2.2.1 = 0 then .int else .boolean)) && (hs (.fieldLink own i (T q.2.2.2.1).1 (T q.2.2.2.1).2.1 (T q.2.2.2.1).2.2.1) || hs (.fieldLinkNest own i (T q.2.2.2.1).1 (T q.2.2.2.1).2.1 (T q.2.2.2.1).2.2.1 host))
    | none => false
  | .invokevirtual i => decide (q.2.1 = 3) && match mt q.2.2.1 with
    | some y => (match q.2.2.2.2.2 with
      | (_, ci) :: _ => (match cl[ci]? with
        | some (C, _, _) => decide (C = y.1.cls)
        | none => false)
      | [] => false) && hs (.instanceMethod y.1) && hs (.selects y.1.cls y.1 y.1) && hs (.initialized y.1.cls) && decide (y.1.cls ≠ "java/lang/invoke/MethodHandle" ∧ y.1.cls ≠ "java/lang/invoke/VarHandle") && decide ((parseMethodDescriptor y.1.desc).map (fun d => d.parameters.length + 1) = some q.2.2.2.1) && decide (y.2.2.2.2.1 = []) && decide (y.2.2.2.2.2.1 + 1 ≤ fr) && decide (16 + (y.2.2.1 + 11) + y.2.2.2.2.2.2 ≤ lo) && (hs (.methodLink own i y.1) || hs (.methodLinkNest own i y.1 host))
    | none => false
  | .invokestatic i => decide (q.2.1 = 3) && match mt q.2.2.1 with
    | some y => hs (.static y.1) && hs (.initialized y.1.cls) && decide (y.1.cls ≠ "java/lang/invoke/MethodHandle" ∧ y.1.cls ≠ "java/lang/invoke/VarHandle") && decide ((parseMethodDescriptor y.1.desc).map (fun d => d.parameters.length) = some q.2.2.2.1) && decide (y.2.2.2.2.2.1 + 1 ≤ fr) && decide (16 + (y.2.2.1 + 11) + y.2.2.2.2.2.2 ≤ lo) && (hs (.methodLink own i y.1) || hs (.methodLinkNest own i y.1 host))
    | none => false
  | _ => decide (q.2.1 = 1)
section EVT
variable {p : Program} {l : Launch} {e : Env} {R : Room} {s : State} {m : MethodId} {args : Array Value} {below : List Frame} {meth : Method} {c : Code} {Q : State → Prop}
variable {TB : List Jvm.Cond} {cl : List vw_C} {lay : List ev_C} {xo : Option (Nat × (Nat → Int32))} {F : ev_F} {mt : Nat → Option ev_M} {hd : List (Nat × Nat × Nat × Nat)} {own host : String} {cc : ByteArray} {nL : Nat} {D : va_G} {ad : Nat → Nat} {ca : Nat → ClassId} {tys : List (ClassId × FieldType)} {A : Nat → Prop}
theorem ev_D_any {σ σ' : ev_W} (h : va_D A (ev_ws ad ca lay σ)) : va_D A (ev_ws ad ca lay σ') := by
  have key : ∀ (k : Nat) (z : Nat × va_E), (ev_ws ad ca lay σ')[k]? = some z → ∃ z0, (ev_ws ad ca lay σ)[k]? = some z0 ∧ z0.1 = z.1 := by
    intro k z hz
    obtain ⟨q, hq, rfl⟩ := ev_ws_get hz
    exact ⟨_, ev_ws_at hq, rfl⟩
  refine ⟨fun i j x y hi hj hxy => ?_, fun k q hk => ?_⟩
  · obtain ⟨x0, h1, h2⟩ := key i x hi
    obtain ⟨y0, h3, h4⟩ := key j y hj
    exact h.1 i j x0 y0 h1 h3 (h2.trans (hxy.trans h4.symm))
  · obtain ⟨q0, h1, h2⟩ := key k q hk
    rw [← h2]
    exact h.2 k q0 h1
/-- where the machine stands: the world, its frame, the room -/
def ev_I0 (R : Room) (s : State) (cl : List vw_C) (lay : List ev_C) (D : va_G) (ad : Nat → Nat) (ca : Nat → ClassId) (A : Nat → Prop) (σ : ev_W) (H : Heap) (locs : List Loc) (cells slots : Nat) : Prop :=
  va_P D cl (ev_ws ad ca lay σ) H ∧ va_D A (ev_ws ad ca lay σ) ∧ va_S A s.heap H locs ∧ cells + σ.2.2 ≤ R.cells ∧ slots + 6 * σ.2.2 ≤ R.slots
/-- what is known of the invocation -/
def ev_X (p : Program) (l : Launch) (s : State) (m : MethodId) (args : Array Value) (c : Code) (TB : List Jvm.Cond) (cl : List vw_C) (lay : List ev_C) (xo : Option (Nat × (Nat → Int32))) (F : ev_F) (mt : Nat → Option ev_M) (own : String) (cc : ByteArray) (nL : Nat) (D : va_G) (ad : Nat → Nat) (ca : Nat → ClassId) (tys : List (ClassId × FieldType)) (A : Nat → Prop) : Prop :=
  p.tables.exec = Jvm.exec ∧ c.code = cc ∧ c.maxLocals = nL ∧ s.vm.findClass own = some m.cls ∧ (∀ w ∈ TB, w.before args s = true) ∧ ev_Tb TB ∧ ev_Cl TB cl ∧ va_K D cl tys s ∧ ev_Ty lay ca tys ∧ (∀ q, s.heap.size ≤ q → A q) ∧ ev_Z A s s.heap ∧
    (∀ (L : Nat) (xs : Nat → Int32), xo = some (L, xs) → va_X (ad 999) L xs s s.heap ∧ ad 999 < s.heap.size ∧ ¬ A (ad 999))
/-- the goal at a place -/
def ev_G (p : Program) (l : Launch) (e : Env) (R : Room) (s : State) (m : MethodId) (args : Array Value) (below : List Frame) (meth : Method) (c : Code) (Q : State → Prop) (cl : List vw_C) (lay : List ev_C) (nL : Nat) (D : va_G) (ad : Nat → Nat) (ca : Nat → ClassId) (A : Nat → Prop) : ev_K := fun pc ls st σ =>
  ∀ (H : Heap) (locs : List Loc) (cells slots : Nat) (lsA : Array Slot), ev_I0 R s cl lay D ad ca A σ H locs cells slots → ev_L lsA nL ad ls → W p l e R s m args below meth c H locs cells slots Q (F0 m pc lsA (st.map (ev_tr ad)))
variable {K : ev_K} {pc : Nat} {ls : ev_V} {st : List Value} {σ : ev_W} {H : Heap} {locs : List Loc} {cells slots : Nat} {lsA : Array Slot}
theorem ev_b2_s {f : Int32 → Int32 → Int32} (row : ∀ {x y : Int32} {rest : List Value}, W p l e R s m args below meth c H locs cells slots Q (F0 m (pc + 1) lsA (.int (f x y) :: rest)) → W p l e R s m args below meth c H locs cells slots Q (F0 m pc lsA (.int y :: .int x :: rest)))
    (hK : ∀ pc ls st σ, K pc ls st σ → ev_G p l e R s m args below meth c Q cl lay nL D ad ca A pc ls st σ) (hI : ev_I0 R s cl lay D ad ca A σ H locs cells slots) (hL : ev_L lsA nL ad ls) (h : ev_b2 f pc ls st σ K) : W p l e R s m args below meth c H locs cells slots Q (F0 m pc lsA (st.map (ev_tr ad))) := by
  unfold ev_b2 at h
  split at h
  · exact row (hK _ _ _ _ h H locs cells slots lsA hI hL)
  · exact h.elim
theorem ev_dv_s {f : Int32 → Int32 → Int32} (row : ∀ {x y : Int32} {rest : List Value}, ¬ y = 0 → W p l e R s m args below meth c H locs cells slots Q (F0 m (pc + 1) lsA (.int (f x y) :: rest)) → W p l e R s m args below meth c H locs cells slots Q (F0 m pc lsA (.int y :: .int x :: rest)))
    (hK : ∀ pc ls st σ, K pc ls st σ → ev_G p l e R s m args below meth c Q cl lay nL D ad ca A pc ls st σ) (hI : ev_I0 R s cl lay D ad ca A σ H locs cells slots) (hL : ev_L lsA nL ad ls) (h : ev_dv f pc ls st σ K) : W p l e R s m args below meth c H locs cells slots Q (F0 m pc lsA (st.map (ev_tr ad))) := by
  unfold ev_dv at h
  split at h
  · split at h
    · exact h.elim
    · rename_i hne
      exact row hne (hK _ _ _ _ h H locs cells slots lsA hI hL)
  · exact h.elim
theorem ev_c1_s {P : Int32 → Prop} {t1 t2 : Nat} (row : ∀ {x : Int32} {rest : List Value}, (P x → W p l e R s m args below meth c H locs cells slots Q (F0 m t1 lsA rest)) → (¬ P x → W p l e R s m args below meth c H locs cells slots Q (F0 m t2 lsA rest)) → W p l e R s m args below meth c H locs cells slots Q (F0 m pc lsA (.int x :: rest)))
    (hK : ∀ pc ls st σ, K pc ls st σ → ev_G p l e R s m args below meth c Q cl lay nL D ad ca A pc ls st σ) (hI : ev_I0 R s cl lay D ad ca A σ H locs cells slots) (hL : ev_L lsA nL ad ls) (h : ev_c1 P t1 t2 ls st σ K) : W p l e R s m args below meth c H locs cells slots Q (F0 m pc lsA (st.map (ev_tr ad))) := by
  unfold ev_c1 at h
  split at h
  · exact row (fun z => hK _ _ _ _ (h.1 z) H locs cells slots lsA hI hL) (fun z => hK _ _ _ _ (h.2 z) H locs cells slots lsA hI hL)
  · exact h.elim
theorem ev_c2_s {P : Int32 → Int32 → Prop} {t1 t2 : Nat} (row : ∀ {x y : Int32} {rest : List Value}, (P x y → W p l e R s m args below meth c H locs cells slots Q (F0 m t1 lsA rest)) → (¬ P x y → W p l e R s m args below meth c H locs cells slots Q (F0 m t2 lsA rest)) → W p l e R s m args below meth c H locs cells slots Q (F0 m pc lsA (.int y :: .int x :: rest)))
    (hK : ∀ pc ls st σ, K pc ls st σ → ev_G p l e R s m args below meth c Q cl lay nL D ad ca A pc ls st σ) (hI : ev_I0 R s cl lay D ad ca A σ H locs cells slots) (hL : ev_L lsA nL ad ls) (h : ev_c2 P t1 t2 ls st σ K) : W p l e R s m args below meth c H locs cells slots Q (F0 m pc lsA (st.map (ev_tr ad))) := by
  unfold ev_c2 at h
  split at h
  · exact row (fun z => hK _ _ _ _ (h.1 z) H locs cells slots lsA hI hL) (fun z => hK _ _ _ _ (h.2 z) H locs cells slots lsA hI hL)
  · exact h.elim
theorem ev_li_s {t i : Nat} (row : ∀ {x : Int32} {rest : List Value}, lsA[i]? = some (.val (.int x)) → W p l e R s m args below meth c H locs cells slots Q (F0 m t lsA (.int x :: rest)) → W p l e R s m args below meth c H locs cells slots Q (F0 m pc lsA rest))
    (hK : ∀ pc ls st σ, K pc ls st σ → ev_G p l e R s m args below meth c Q cl lay nL D ad ca A pc ls st σ) (hI : ev_I0 R s cl lay D ad ca A σ H locs cells slots) (hL : ev_L lsA nL ad ls) (h : ev_li t i ls st σ K) : W p l e R s m args below meth c H locs cells slots Q (F0 m pc lsA (st.map (ev_tr ad))) := by
  unfold ev_li at h
  split at h
  · rename_i x hx
    exact row (hL.get hx) (hK _ _ _ _ h H locs cells slots lsA hI hL)
  · exact h.elim
theorem ev_la_s {t i : Nat} (row : ∀ {x : Nat} {rest : List Value}, lsA[i]? = some (.val (.ref x)) → W p l e R s m args below meth c H locs cells slots Q (F0 m t lsA (.ref x :: rest)) → W p l e R s m args below meth c H locs cells slots Q (F0 m pc lsA rest))
    (hK : ∀ pc ls st σ, K pc ls st σ → ev_G p l e R s m args below meth c Q cl lay nL D ad ca A pc ls st σ) (hI : ev_I0 R s cl lay D ad ca A σ H locs cells slots) (hL : ev_L lsA nL ad ls) (h : ev_la t i ls st σ K) : W p l e R s m args below meth c H locs cells slots Q (F0 m pc lsA (st.map (ev_tr ad))) := by
  unfold ev_la at h
  split at h
  · rename_i x hx
    exact row (hL.get hx) (hK _ _ _ _ h H locs cells slots lsA hI hL)
  · exact h.elim
theorem ev_si_s {t i : Nat} (row : ∀ {x : Int32} {rest : List Value}, (∀ ls2 : Array Slot, lv_has ls2 nL ((i, Value.int x) :: (ev_pl ad ls).filter (fun q => !(q.1 == i) && !(q.1 + 1 == i && q.2.category == 2))) → W p l e R s m args below meth c H locs cells slots Q (F0 m t ls2 rest)) → W p l e R s m args below meth c H locs cells slots Q (F0 m pc lsA (.int x :: rest)))
    (hK : ∀ pc ls st σ, K pc ls st σ → ev_G p l e R s m args below meth c Q cl lay nL D ad ca A pc ls st σ) (hI : ev_I0 R s cl lay D ad ca A σ H locs cells slots) (hL : ev_L lsA nL ad ls) (h : ev_si t i ls st σ K) : W p l e R s m args below meth c H locs cells slots Q (F0 m pc lsA (st.map (ev_tr ad))) := by
  unfold ev_si at h
  split at h
  · rename_i x r
    exact row (fun ls2 h2 => hK _ _ _ _ h H locs cells slots ls2 hI (hL.set (v := .int x) rfl h2))
  · exact h.elim
theorem ev_sa_s {t i : Nat} (row : ∀ {x : Nat} {rest : List Value}, (∀ ls2 : Array Slot, lv_has ls2 nL ((i, Value.ref x) :: (ev_pl ad ls).filter (fun q => !(q.1 == i) && !(q.1 + 1 == i && q.2.category == 2))) → W p l e R s m args below meth c H locs cells slots Q (F0 m t ls2 rest)) → W p l e R s m args below meth c H locs cells slots Q (F0 m pc lsA (.ref x :: rest)))
    (hK : ∀ pc ls st σ, K pc ls st σ → ev_G p l e R s m args below meth c Q cl lay nL D ad ca A pc ls st σ) (hI : ev_I0 R s cl lay D ad ca A σ H locs cells slots) (hL : ev_L lsA nL ad ls) (h : ev_sa t i ls st σ K) : W p l e R s m args below meth c H locs cells slots Q (F0 m pc lsA (st.map (ev_tr ad))) := by
  unfold ev_sa at h
  split at h
  · rename_i x r
    exact row (fun ls2 h2 => hK _ _ _ _ h H locs cells slots ls2 hI (hL.set (v := .ref x) rfl h2))
  · exact h.elim
end EVT
