/-! A METHOD's CONTRACT OUT OF A RUN OF ITS BODY -/
/-- where a run may end: the kinds of ending instruction (0: return, 1: ireturn of an int, 2: ireturn of a boolean, 3 + k: a new exception of the kind k is thrown); what is known there -/
def ev_at (tm : Nat → Option Nat) (b : Nat) (P : (Option Value ⊕ Nat) → ev_W → Prop) : ev_K := fun pc _ st σ => match tm pc with
  | some 0 => st = [] ∧ σ.2.2 ≤ b ∧ P (.inl none) σ
  | some 1 => ∃ v : Int32, st = [.int v] ∧ σ.2.2 ≤ b ∧ P (.inl (some (.int v))) σ
  | some 2 => ∃ v : Int32, st = [.int v] ∧ (v = 0 ∨ v = 1) ∧ σ.2.2 ≤ b ∧ P (.inl (some (.int v))) σ
  | some (k + 3) => st = [] ∧ ∃ b' : Nat, σ.2.2 = b' + 1 ∧ b' + 1 ≤ b ∧ P (.inr k) (σ.1, σ.2.1, b')
  | none => False
section EVM2
variable {l : Launch} {TB : List Jvm.Cond} {cl : List vw_C} {lay : List ev_C} {F : ev_F} {mt : Nat → Option ev_M} {hd : List (Nat × Nat × Nat × Nat)} {j : Nat}
/-- what a throw of a new exception of the kind k asks at its pc, in whatever invocation: it ends there -/
def ev_Th (l : Launch) (TB : List Jvm.Cond) (own : String) (cc : ByteArray) (nL fr lo : Nat) (k pc : Nat) : Prop :=
  ∀ (p : Program) (e : Env) (R : Room) (s : State) (m : MethodId) (args : Array Value) (below : List Frame) (meth : Method) (c : Code) (H : Heap) (locs : List Loc) (cells slots : Nat) (A : Nat → Prop) (ls : Array Slot) (free : Addr → Prop) (Qc : Nat → Array Value → State → Outcome → State → Prop),
    p.tables.exec = Jvm.exec → c.code = cc → c.maxLocals = nL → c.exceptionTable.toList = [] → meth.locks = false → s.vm.findClass own = some m.cls → (∀ w ∈ TB, w.before args s = true) → R.frames = fr → R.locals = lo → cells + 1 ≤ R.cells → slots + 6 ≤ R.slots → slots ≤ 6 * cells → ls.size = nL →
    va_S A s.heap H locs → (∀ q, A q → free q) → (∀ q, s.heap.size ≤ q → A q) → (∀ q, A q → ∀ cell, s.heap[q]? = some cell → cell.vm.isStatics = false) → ev_Z A s s.heap →
    (∀ (x : Addr) (ce : Cell) (t : State), H.size = x → t.heap[x]? = some ce → s.vm.findClass (ev_xn k) = some ce.cls → ce.vm = .none → (∀ q, q < H.size → t.heap[q]? = H[q]?) → H.size ≤ t.heap.size → Qc (cells + 1) args s (.threw x) t) →
    W p l e R s m args below meth c H locs cells slots (ev_MQ below Qc args s free) (F0 m pc ls [])
theorem ev_meth {y : ev_M} (hy : mt j = some y) (hyn : plainFor y.1 = true) (hcwi : ev_cw y ∈ TB) (htb : ev_Tb TB) (hCl : ev_Cl TB cl)
    (tm : Nat → Option Nat) (h0 : ∀ pc, tm pc = some 0 → decode y.2.1 pc = .ok (.return_, 1) ∧ y.2.2.2.1 = none) (h1 : ∀ pc, tm pc = some 1 → decode y.2.1 pc = .ok (.ireturn, 1) ∧ y.2.2.2.1 = some .int) (h2 : ∀ pc, tm pc = some 2 → decode y.2.1 pc = .ok (.ireturn, 1) ∧ y.2.2.2.1 = some .boolean)
    (h3 : ∀ pc k, tm pc = some (k + 3) → y.2.2.2.2.1 = [] ∧ ev_Th l TB y.1.cls y.2.1 y.2.2.1 y.2.2.2.2.2.1 y.2.2.2.2.2.2 k pc)
    (hHd : ∀ (e : Env) (s : State) (m : MethodId) (c : Code) (args : Array Value), l.admits e → s.vm.findClass y.1.cls = some m.cls → (∀ w ∈ TB, w.before args s = true) → c.exceptionTable.toList.map (fun h => (h.startPc, h.endPc, h.handlerPc, h.catchType)) = y.2.2.2.2.1 → ev_Hd e s m c y.2.1 y.2.2.1 hd)
    (hRun : ∀ vs σ P, F j vs σ = some P → P.1 → (∀ u ∈ vs, u.category = 1) ∧ vs.length ≤ y.2.2.1 ∧ ev_Run TB cl lay none F mt hd y.1.cls y.2.1 y.2.2.1 y.2.2.2.2.2.1 y.2.2.2.2.2.2 (ev_at tm σ.2.2 P.2) 0 (ev_ent vs y.2.2.1) [] σ)
    (hSn : ∀ i z, mt i = some z → z.2.2.2.2.2.1 + 1 ≤ y.2.2.2.2.2.1 → ev_Snd l TB cl lay F mt i) : ev_Snd l TB cl lay F mt j := by
  intro q D ad ca tys vs σ P sz hq hTy hF hpre
  cases hy.symm.trans hq
  obtain ⟨hc1, hvl, hR⟩ := hRun vs σ P hF hpre
  refine ev_ofW (cc := y.2.1) (maxL := y.2.2.1) (ret := y.2.2.2.1) hyn ?_ ?_
  · unfold ev_cw
    split
    · exact Or.inl rfl
    · exact Or.inr ⟨_, rfl⟩
  intro p e s m args below meth c s₁ B hml hPc
  obtain ⟨rfl, hsz, hP, hK, hD0, hnw, hZ⟩ := hPc
  subst hsz
  have hown : s.vm.findClass y.1.cls = some m.cls := findClass_of_methodNamed B.named
  have hts : ∀ w ∈ TB, w.before (vs.map (ev_tr ad)).toArray s = true := fun w hw => htb w hw _ _ s s (State.WarmedH.refl s) (hnw w hw)
  have hlocks := B.notSynchronized
  have hexc : c.exceptionTable.toList.map (fun h => (h.startPc, h.endPc, h.handlerPc, h.catchType)) = y.2.2.2.2.1 := by
    have hw := hts _ hcwi
    have hcc : meth.code = some c := (Stand.of_body B).code
    unfold ev_cw at hw
    split at hw
    · rename_i he
      obtain ⟨meth', c', hm', hc', -, -, -, -, hem, -⟩ := Cond.code_spec B.named hw
      cases B.method.symm.trans hm'
      cases hcc.symm.trans hc'
      rw [he]
      have h0 : c.exceptionTable.size = 0 := by simpa [Array.isEmpty] using hem
      have h1 : c.exceptionTable.toList = [] := List.eq_nil_of_length_eq_zero (by simpa using h0)
      rw [h1]
      rfl
    · obtain ⟨mk, meth', c', hn', hm', hc', -, -, hem, -⟩ := Cond.codeWith_spec hw
      cases B.named.symm.trans hn'
      cases B.method.symm.trans hm'
      cases hcc.symm.trans hc'
      exact hem
  have hX : ev_X p l s m (vs.map (ev_tr ad)).toArray c TB cl lay none F mt y.1.cls y.2.1 y.2.2.1 D ad ca tys (va_A (ev_ws ad ca lay σ) s.heap.size) :=
    ⟨B.exec, B.bytes, hml, hown, hts, htb, hCl, hK, hTy, fun q h => Or.inr h, hZ, fun L xs h => by cases h⟩
  have hnst : ∀ q, va_A (ev_ws ad ca lay σ) s.heap.size q → ∀ cell, s.heap[q]? = some cell → cell.vm.isStatics = false := by
    intro q hq cell hcell
    rcases hq with ⟨k, e, hk⟩ | hq
    · have hat := hP k _ hk
      unfold va_at at hat
      split at hat
      · rename_i a ha
        have hat : s.heap[q]? = some (vp_cell a.1 a.2) := hat
        rw [hat] at hcell
        cases hcell
        obtain ⟨cA, n, f | f | f | f | f⟩ := a <;> rfl
      · obtain ⟨r, -, cell', g1, -, g3, -⟩ := hat
        have g1 : s.heap[q]? = some cell' := g1
        rw [g1] at hcell
        cases hcell
        rw [g3]
        rfl
    · rw [Array.getElem?_eq_none hq] at hcell
      cases hcell
  rw [lg_entry_eq]
  refine hR p l e (ev_rm y σ.2.2) s m _ below meth c _ D ad ca tys (va_A (ev_ws ad ca lay σ) s.heap.size) hX (hHd e s m c _ B.admits hown hts hexc) hSn rfl rfl ?_ s.heap [] 0 0 _ ⟨hP, hD0.self, va_S.rf, ?_, ?_⟩ (ev_entry vs y.2.2.1 hc1 hvl)
  · intro pc ls st σ1 hfin H locs cells slots lsA hI hL
    obtain ⟨hP1, hD1, hS1, hr1, hr2⟩ := hI
    have hr1 : cells + σ1.2.2 ≤ σ.2.2 := hr1
    have hr2 : slots + 6 * σ1.2.2 ≤ 6 * σ.2.2 := hr2
    unfold ev_at at hfin
    split at hfin
    · rename_i ht
      obtain ⟨rfl, hb, hPo⟩ := hfin
      obtain ⟨hd0, hret⟩ := h0 pc ht
      refine W.widen (k := σ.2.2 - σ1.2.2) (n := 6 * (σ.2.2 - σ1.2.2)) (by omega) (by omega) ?_
      exact ev_end (W.vret B.exec B.bytes (B.returns.trans hret) (fun t ht hW => ⟨_, σ1, hPo, by omega, hS1.F ht, by rw [ht]; exact hP1, rfl⟩) hS1.2.2 hd0)
    · rename_i ht
      obtain ⟨v, rfl, hb, hPo⟩ := hfin
      obtain ⟨hd0, hret⟩ := h1 pc ht
      refine W.widen (k := σ.2.2 - σ1.2.2) (n := 6 * (σ.2.2 - σ1.2.2)) (by omega) (by omega) ?_
      exact ev_end (W.iret B.exec B.bytes (B.returns.trans hret) (fun t ht hW => ⟨_, σ1, hPo, by omega, hS1.F ht, by rw [ht]; exact hP1, rfl⟩) hS1.2.2 hd0)
    · rename_i ht
      obtain ⟨v, rfl, hv, hb, hPo⟩ := hfin
      obtain ⟨hd0, hret⟩ := h2 pc ht
      have hnar : narrow .boolean (.int v) = .int v := by rcases hv with rfl | rfl <;> decide +kernel
      refine W.widen (k := σ.2.2 - σ1.2.2) (n := 6 * (σ.2.2 - σ1.2.2)) (by omega) (by omega) ?_
      exact ev_end (W.zret B.exec B.bytes (B.returns.trans hret) hnar (fun t ht hW => ⟨_, σ1, hPo, by omega, hS1.F ht, by rw [ht]; exact hP1, rfl⟩) hS1.2.2 hd0)
    · rename_i k ht
      obtain ⟨rfl, b', hb1, hb2, hPo⟩ := hfin
      obtain ⟨hh, hth⟩ := h3 pc k ht
      rw [hb1] at hr1 hr2
      have het : c.exceptionTable.toList = [] := by rw [hh] at hexc; exact List.map_eq_nil_iff.mp hexc
      refine W.widen (k := σ.2.2 - σ1.2.2) (n := 6 * (σ.2.2 - σ1.2.2)) (by omega) (by omega) ?_
      refine hth p e (ev_rm y σ.2.2) s m _ below meth c H locs _ _ (va_A (ev_ws ad ca lay σ) s.heap.size) lsA _ _ B.exec B.bytes hml het hlocks hown hts rfl rfl (show σ.2.2 - σ1.2.2 + 1 ≤ σ.2.2 by omega) (show 6 * (σ.2.2 - σ1.2.2) + 6 ≤ 6 * σ.2.2 by omega) (Nat.le_refl _) hL.1.1 hS1 (fun q h => h) (fun q h => Or.inr h) hnst hZ ?_
      intro x ce t hx hce hfc hcv hkept hsz
      have hP2 : va_P D cl (ev_ws ad ca lay (σ1.1, σ1.2.1, b')) H := by rw [ev_ws_bud]; exact hP1
      refine ⟨_, _, hPo, (show σ.2.2 - σ1.2.2 + 1 + b' ≤ σ.2.2 by omega), ⟨Nat.le_trans hS1.1 hsz, fun q g1 g2 => ?_⟩, hP2.kept (fun k q hq => hkept q.1 (hP2 k q hq).lt), x, ce, rfl, hce, hfc, hcv⟩
      rw [hkept q (Nat.lt_of_lt_of_le g1 hS1.1)]
      exact hS1.2.1 q g1 g2
    · exact hfin.elim
  · exact Nat.le_of_eq (Nat.zero_add _)
  · exact Nat.le_of_eq (Nat.zero_add _)
end EVM2
