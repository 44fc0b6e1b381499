/-! THE EVALUATOR IS RIGHT: calls, and all instructions -/
section EVQ
variable {p : Program} {l : Launch} {e : Env} {R : Room} {s : State} {m : MethodId} {args : Array Value} {below : List Frame} {meth : Method} {c : Code} {Q : State → Prop}
variable {TB : List Jvm.Cond} {cl : List vw_C} {lay : List ev_C} {xo : Option (Nat × (Nat → Int32))} {F : ev_F} {mt : Nat → Option ev_M} {hd : List (Nat × Nat × Nat × Nat)} {own host : String} {cc : ByteArray} {nL : Nat} {D : va_G} {ad : Nat → Nat} {ca : Nat → ClassId} {tys : List (ClassId × FieldType)} {A : Nat → Prop}
variable {K : ev_K} {pc : Nat} {ls : ev_V} {st : List Value} {σ σ' : ev_W} {H : Heap} {locs : List Loc} {cells slots : Nat} {lsA : Array Slot}
theorem ev_cw_spec {q : ev_M} (h : (ev_cw q).before args s = true) : ∃ (mk : MethodId) (methM : Method) (cM : Code), s.methodNamed? q.1 = some mk ∧ s.vm.method? mk = some methM ∧ methM.code = some cM ∧ cM.maxLocals = q.2.2.1 ∧ parseMethodDescriptor q.1.desc = some methM.sig := by
  unfold ev_cw at h
  split at h
  · obtain ⟨mk, hn⟩ := Cond.code_named h
    obtain ⟨methM, cM, h1, h2, -, h4, -, -, -, h8⟩ := Cond.code_spec hn h
    exact ⟨mk, methM, cM, hn, h1, h2, h4, h8⟩
  · obtain ⟨mk, methM, cM, hn, h1, h2, -, h4, -, -, -, h8⟩ := Cond.codeWith_spec h
    exact ⟨mk, methM, cM, hn, h1, h2, h4, h8⟩
/-- the handlers of the walked method -/
def ev_Hd (e : Env) (s : State) (m : MethodId) (c : Code) (cc : ByteArray) (nL : Nat) (hd : List (Nat × Nat × Nat × Nat)) : Prop :=
  ∀ h ∈ hd, ∀ kc : ClassId, s.vm.findClass (ev_xn h.2.1) = some kc → ∃ hp : Nat, ev_tk e s m kc h.1 c.exceptionTable.toList hp ∧ h.2.2.2 < nL ∧ ((∃ i : Fin 4, (i : Nat) = h.2.2.2 ∧ decode cc hp = .ok (.astore_n i, 1) ∧ h.2.2.1 = hp + 1) ∨ (decode cc hp = .ok (.astore h.2.2.2, 2) ∧ h.2.2.1 = hp + 2))
theorem ev_Ain (hD : va_D A (ev_ws ad ca lay σ)) (hS : va_S A s.heap H locs) (hA : ∀ q, s.heap.size ≤ q → A q) : ∀ q, va_A (ev_ws ad ca lay σ) H.size q → A q := by
  intro q h
  rcases h with ⟨k, e, h⟩ | h
  · exact hD.2 k (q, e) h
  · exact hA q (Nat.le_trans hS.1 h)
theorem ev_behind (hI : ev_I0 R s cl lay D ad ca A σ H locs cells slots) (hA : ∀ q, s.heap.size ≤ q → A q) {k : Nat} (hle : k + σ'.2.2 ≤ σ.2.2) {st0 t : State} (h0 : st0.heap = H) (hF : va_F (va_A (ev_ws ad ca lay σ) H.size) st0 t) (hP1 : va_P D cl (ev_ws ad ca lay σ') t.heap) {Lx : List Loc} (hLx : ∀ q ∈ Lx, va_A (ev_ws ad ca lay σ) H.size q.base) :
    ev_I0 R s cl lay D ad ca A σ' t.heap (locs ++ Lx) (cells + k) (slots + 6 * k) := by
  obtain ⟨hP, hD, hS, hr1, hr2⟩ := hI
  have hFc := ev_Ain hD hS hA
  obtain ⟨f1, f2⟩ := hF
  rw [h0] at f1 f2
  refine ⟨hP1, ev_D_any hD, ⟨Nat.le_trans hS.1 f1, fun q h1 h2 => ?_, fun q hq => ?_⟩, by omega, by omega⟩
  · rw [f2 q (Nat.lt_of_lt_of_le h1 hS.1) (fun z => h2 (hFc q z))]
    exact hS.2.1 q h1 h2
  · rcases List.mem_append.mp hq with h | h
    · exact hS.2.2 q h
    · exact hFc _ (hLx q h)
theorem ev_kr (hA : ∀ q, s.heap.size ≤ q → A q) (hK : ∀ pc ls st σ, K pc ls st σ → ev_G p l e R s m args below meth c Q cl lay nL D ad ca A pc ls st σ) (hI : ev_I0 R s cl lay D ad ca A σ H locs cells slots) (hL : ev_L lsA nL ad ls) {P : (Option Value ⊕ Nat) → ev_W → Prop} {a : Array Value} {rest : List Value}
    (hk : ∀ v σ', P (.inl v) σ' → K (pc + 3) ls (v.toList ++ rest) σ') : ev_Kr p l e R s m args below meth c H locs cells slots Q a (ev_Qc cl lay D ad ca σ H.size P) (va_A (ev_ws ad ca lay σ) H.size) (fun v => F0 m (pc + 3) lsA (v.toList ++ rest.map (ev_tr ad))) := by
  intro v st0 t k Lx h0 hW hq hLx
  obtain ⟨o, σ1, hPo, hle, hF, hP1, ho⟩ := hq
  cases o with
  | inl w =>
    have hv : v = w.map (ev_tr ad) := by
      have ho : Outcome.returned v = .returned (w.map (ev_tr ad)) := ho
      cases ho
      rfl
    have hg := hK _ _ _ _ (hk w σ1 hPo) t.heap (locs ++ Lx) _ _ lsA (ev_behind hI hA hle h0 hF hP1 hLx) hL
    have e1 : (w.toList ++ rest).map (ev_tr ad) = v.toList ++ rest.map (ev_tr ad) := by
      rw [hv]
      cases w <;> rfl
    rw [e1] at hg
    exact hg
  | inr k =>
    obtain ⟨x, ce, hx, -⟩ := ho
    cases hx
theorem ev_kt (hA : ∀ q, s.heap.size ≤ q → A q) (hx : p.tables.exec = Jvm.exec) (hb : c.code = cc) (hH : ev_Hd e s m c cc nL hd) (hK : ∀ pc ls st σ, K pc ls st σ → ev_G p l e R s m args below meth c Q cl lay nL D ad ca A pc ls st σ) (hI : ev_I0 R s cl lay D ad ca A σ H locs cells slots) (hL : ev_L lsA nL ad ls) {P : (Option Value ⊕ Nat) → ev_W → Prop} {a : Array Value} {rest : List Value}
    (hk : ∀ k σ', P (.inr k) σ' → ∃ h ∈ hd, h.1 = pc ∧ h.2.1 = k ∧ K h.2.2.1 (ls.set h.2.2.2 none) [] σ') : ev_Kt p l e R s m args below meth c H locs cells slots Q a (ev_Qc cl lay D ad ca σ H.size P) (va_A (ev_ws ad ca lay σ) H.size) (F0 m pc lsA (rest.map (ev_tr ad))) := by
  intro x st0 t T' kn Lx h0 hW hq hLx hT' X'
  obtain ⟨o, σ1, hPo, hle, hF, hP1, ho⟩ := hq
  cases o with
  | inl w => cases (show Outcome.threw x = .returned (w.map (ev_tr ad)) from ho)
  | inr k =>
    obtain ⟨x', ce, hx', hce, hfc, hcv⟩ := ho
    cases hx'
    rw [hW.alike.findClass] at hfc
    obtain ⟨h, hm, rfl, rfl, hKk⟩ := hk k σ1 hPo
    obtain ⟨hp, htk, hn, hst⟩ := hH h hm _ hfc
    obtain ⟨vm', X'', step⟩ := ev_catch X' (x := x) (g := F0 m h.1 lsA (rest.map (ev_tr ad))) rfl (by rw [hT']; exact hce) hcv (Vm.classAt_of_findClass hfc) htk
    have hg : ∀ ls2 : Array Slot, lv_has ls2 nL ((h.2.2.2, Value.ref x) :: (ev_pl ad ls).filter (fun q => !(q.1 == h.2.2.2) && !(q.1 + 1 == h.2.2.2 && q.2.category == 2))) → W p l e R s m args below meth c t.heap (locs ++ Lx) (cells + kn) (slots + 6 * kn) Q (F0 m h.2.2.1 ls2 []) := fun ls2 h2 =>
      hK _ _ _ _ hKk t.heap (locs ++ Lx) _ _ ls2 (ev_behind hI hA hle h0 hF hP1 hLx) (hL.unset h2)
    have hW2 : W p l e R s m args below meth c t.heap (locs ++ Lx) (cells + kn) (slots + 6 * kn) Q (F0 m hp lsA [.ref x]) := by
      rcases hst with ⟨i, hi, hd1, hpc⟩ | ⟨hd1, hpc⟩
      · exact lv_astore_n hx hb hd1 hi hL.1 hn rfl (fun ls2 h2 => by rw [← hpc]; exact hg ls2 h2)
      · exact lv_astore hx hb hd1 hL.1 hn rfl (fun ls2 h2 => by rw [← hpc]; exact hg ls2 h2)
    obtain ⟨t2, a1, b1⟩ := hW2 (T'.setVm vm') hT' X''
    exact ⟨t2, step _ a1, b1⟩
theorem ev_pc_at (hX : ev_X p l s m args c TB cl lay xo F mt own cc nL D ad ca tys A) (hI : ev_I0 R s cl lay D ad ca A σ H locs cells slots) (vs : List Value) : ∀ U : State, U.heap = H → s.WarmedH U.vm → ev_Pc TB cl lay D ad ca tys vs σ H.size (vs.map (ev_tr ad)).toArray U := by
  obtain ⟨hx, hb, hml, hown, hts, htb, hCl, hKs, hTy, hA, hZ, hXo⟩ := hX
  obtain ⟨hP, hD, hS, hr1, hr2⟩ := hI
  intro U hU hW
  have hFc := ev_Ain hD hS hA
  refine ⟨rfl, by rw [hU], by rw [hU]; exact hP, va_K.moved hW.alike hKs, hD.weaken (fun _ _ _ _ => trivial), fun w hw => htb w hw _ _ s U hW (hts w hw), ?_⟩
  rw [hU]
  exact ((hZ.kept hS.1 hS.2.1).moved hW.alike).narrow hFc
theorem ev_weigh {r : List Value} (h : r.length ≤ 8) : ((r.map (ev_tr ad)).map fun v => v.category).sum ≤ 16 := by
  have key : ∀ r : List Value, ((r.map (ev_tr ad)).map fun v => v.category).sum ≤ 2 * r.length := by
    intro r
    induction r with
    | nil => simp
    | cons v t ih =>
      have := lv_cat (ev_tr ad v)
      simp only [List.map_cons, List.sum_cons, List.length_cons]
      omega
  have := key r
  omega
theorem ev_ca_split {i n : Nat} (h : ev_ca F hd i n pc ls st σ K) : n ≤ st.length ∧ st.length ≤ n + 8 ∧ ∃ P, F i (st.take n).reverse σ = some P ∧ P.1 ∧ (∀ v σ', P.2 (.inl v) σ' → K (pc + 3) ls (v.toList ++ st.drop n) σ') ∧ (∀ k σ', P.2 (.inr k) σ' → ∃ q ∈ hd, q.1 = pc ∧ q.2.1 = k ∧ K q.2.2.1 (ls.set q.2.2.2 none) [] σ') := by
  unfold ev_ca at h
  split at h
  · rename_i hl
    refine ⟨hl.1, hl.2, ?_⟩
    split at h
    · rename_i P hF
      refine ⟨P, hF, h.1, fun v σ' hP => h.2 (.inl v) σ' hP, fun k σ' hP => ?_⟩
      have h := h.2 (.inr k) σ' hP
      dsimp only at h
      split at h
      · rename_i q hq
        have hp := List.find?_some hq
        simp only [Bool.and_eq_true, beq_iff_eq] at hp
        exact ⟨q, List.mem_of_find?_eq_some hq, hp.1, hp.2, h⟩
      · exact h.elim
    · exact h.elim
  · exact h.elim
theorem ev_cV_s (hX : ev_X p l s m args c TB cl lay xo F mt own cc nL D ad ca tys A) (hH : ev_Hd e s m c cc nL hd) (hCd : ∀ j y, mt j = some y → ev_cw y ∈ TB) {i n ix : Nat} (hSn : ev_Snd l TB cl lay F mt i) {y : ev_M} (hy : mt i = some y) (hdg : decode cc pc = .ok (.invokevirtual ix, 3))
    (h1 : .instanceMethod y.1 ∈ TB) (h2 : .selects y.1.cls y.1 y.1 ∈ TB) (h3 : .initialized y.1.cls ∈ TB) (h4 : y.1.cls ≠ "java/lang/invoke/MethodHandle" ∧ y.1.cls ≠ "java/lang/invoke/VarHandle") (h5 : (parseMethodDescriptor y.1.desc).map (fun d => d.parameters.length + 1) = some n) (h6 : y.2.2.2.2.1 = []) (h7 : y.2.2.2.2.2.1 + 1 ≤ R.frames) (h8 : 16 + (y.2.2.1 + 11) + y.2.2.2.2.2.2 ≤ R.locals) (h9 : .methodLink own ix y.1 ∈ TB ∨ .methodLinkNest own ix y.1 host ∈ TB)
    (hK : ∀ pc ls st σ, K pc ls st σ → ev_G p l e R s m args below meth c Q cl lay nL D ad ca A pc ls st σ) (hI : ev_I0 R s cl lay D ad ca A σ H locs cells slots) (hL : ev_L lsA nL ad ls) {sw : List (Int32 × Nat)} {ci : Nat} {z : Int32} {sw' : List (Int32 × Nat)} (hsw : sw = (z, ci) :: sw') {T : u_T} {N : Nat} (hcl : cl[ci]? = some (y.1.cls, T, N)) (h : ev_cv F lay hd i n sw pc ls st σ K) : W p l e R s m args below meth c H locs cells slots Q (F0 m pc lsA (st.map (ev_tr ad))) := by
  have hrv : ∃ (b : Nat) (t : List Value) (fs : List (Option Nat)), (st.take n).reverse = .ref b :: t ∧ lay[b]? = some (.inr (ci, fs)) ∧ ev_ca F hd i n pc ls st σ K := by
    subst hsw
    unfold ev_cv at h
    split at h
    · rename_i b t hv
      split at h
      · rename_i cj fs hl
        dsimp only at h
        split at h
        · rename_i hc
          subst hc
          exact ⟨b, t, fs, hv, hl, h⟩
        · exact h.elim
      · exact h.elim
    · exact h.elim
  obtain ⟨b, t, fs, hvs, hlb, h⟩ := hrv
  obtain ⟨g1, g2, P, hF, hpre, hk1, hk2⟩ := ev_ca_split h
  obtain ⟨hx, hb, hml, hown, hts, htb, hCl, hKs, hTy, hA, hZ, hXo⟩ := id hX
  have hM := hSn y D ad ca tys _ σ P H.size hy hTy hF hpre
  have hst : st.map (ev_tr ad) = (t.map (ev_tr ad)).reverse ++ .ref (ad b) :: (st.drop n).map (ev_tr ad) := by
    have e1 : st.take n = t.reverse ++ [.ref b] := by
      have := congrArg List.reverse hvs
      rw [List.reverse_reverse, List.reverse_cons] at this
      exact this
    conv => lhs; rw [← List.take_append_drop n st, e1]
    simp [ev_tr]
  have htl : t.length + 1 = n := by
    have := congrArg List.length hvs
    rw [List.length_reverse, List.length_take, List.length_cons] at this
    omega
  have hcw := hCd i y hy
  have hcode : (Jvm.Cond.code y.1 y.2.1 y.2.2.1 y.2.2.2.1).before args s = true := by
    have := hts _ hcw
    unfold ev_cw at this
    rw [h6] at this
    exact this
  have hrecv : ∃ cellB : Cell, H[ad b]? = some cellB ∧ cellB.vm.isStatics = false ∧ s.vm.findClass y.1.cls = some cellB.cls :=
    va_recv hKs hI.1 (ci := ci) (q0 := b) hcl (ev_ws_at hlb)
  have hpc := ev_pc_at hX hI (st.take n).reverse
  rw [hvs] at hpc hM
  rw [hst]
  subst hb
  exact ev_callV hx hown (h9.elim (fun z => Or.inl (hts _ z)) (fun z => Or.inr ⟨host, hts _ z⟩)) (hts _ h1) (hts _ h2) (hts _ h3) h4 hcode hM h7 h8 hI.2.2.2.1 hI.2.2.2.2 hrecv (hL.1.1.trans hml.symm) hdg
    (fun sig hs => by rw [hs] at h5; have h5 : sig.parameters.length + 1 = n := Option.some.inj h5; simp only [List.length_map]; omega) (ev_weigh (by rw [List.length_drop]; omega))
    (fun a' U hW => htb _ hcw _ a' s U hW (hts _ hcw)) hpc (ev_kr hA hK hI hL hk1) (ev_kt hA hx rfl hH hK hI hL hk2)
theorem ev_cS_s (hX : ev_X p l s m args c TB cl lay xo F mt own cc nL D ad ca tys A) (hH : ev_Hd e s m c cc nL hd) (hCd : ∀ j y, mt j = some y → ev_cw y ∈ TB) {i n ix : Nat} (hSn : ev_Snd l TB cl lay F mt i) {y : ev_M} (hy : mt i = some y) (hdg : decode cc pc = .ok (.invokestatic ix, 3))
    (h1 : .static y.1 ∈ TB) (h3 : .initialized y.1.cls ∈ TB) (h4 : y.1.cls ≠ "java/lang/invoke/MethodHandle" ∧ y.1.cls ≠ "java/lang/invoke/VarHandle") (h5 : (parseMethodDescriptor y.1.desc).map (fun d => d.parameters.length) = some n) (h7 : y.2.2.2.2.2.1 + 1 ≤ R.frames) (h8 : 16 + (y.2.2.1 + 11) + y.2.2.2.2.2.2 ≤ R.locals) (h9 : .methodLink own ix y.1 ∈ TB ∨ .methodLinkNest own ix y.1 host ∈ TB)
    (hK : ∀ pc ls st σ, K pc ls st σ → ev_G p l e R s m args below meth c Q cl lay nL D ad ca A pc ls st σ) (hI : ev_I0 R s cl lay D ad ca A σ H locs cells slots) (hL : ev_L lsA nL ad ls) (h : ev_ca F hd i n pc ls st σ K) : W p l e R s m args below meth c H locs cells slots Q (F0 m pc lsA (st.map (ev_tr ad))) := by
  obtain ⟨g1, g2, P, hF, hpre, hk1, hk2⟩ := ev_ca_split h
  obtain ⟨hx, hb, hml, hown, hts, htb, hCl, hKs, hTy, hA, hZ, hXo⟩ := id hX
  have hM := hSn y D ad ca tys _ σ P H.size hy hTy hF hpre
  have hst : st.map (ev_tr ad) = ((st.take n).reverse.map (ev_tr ad)).reverse ++ (st.drop n).map (ev_tr ad) := by
    rw [List.map_reverse, List.reverse_reverse, ← List.map_append, List.take_append_drop]
  have hcw := hCd i y hy
  rw [hst]
  subst hb
  exact ev_callS hx hown (h9.elim (fun z => Or.inl (hts _ z)) (fun z => Or.inr ⟨host, hts _ z⟩)) (hts _ h1) (hts _ h3) h4 (ev_cw_spec (hts _ hcw)) hM h7 h8 hI.2.2.2.1 hI.2.2.2.2 (hL.1.1.trans hml.symm) hdg
    (fun sig hs => by rw [hs] at h5; have h5 : sig.parameters.length = n := Option.some.inj h5; simp only [List.length_map, List.length_reverse, List.length_take]; omega) (ev_weigh (by rw [List.length_drop]; omega))
    (fun a' U hW => htb _ hcw _ a' s U hW (hts _ hcw)) (ev_pc_at hX hI (st.take n).reverse) (ev_kr hA hK hI hL hk1) (ev_kt hA hx rfl hH hK hI hL hk2)
theorem ev_has_or {hs : Jvm.Cond → Bool} (hhs : ∀ w, hs w = true → w ∈ TB) {w w2 : Jvm.Cond} (h : (hs w || hs w2) = true) : w ∈ TB ∨ w2 ∈ TB := by
  rcases Bool.or_eq_true_iff.mp h with h | h
  · exact Or.inl (hhs _ h)
  · exact Or.inr (hhs _ h)
set_option maxHeartbeats 4000000 in
/-- ONE INSTRUCTION -/
theorem ev_step {hs : Jvm.Cond → Bool} (hhs : ∀ w, hs w = true → w ∈ TB) (hX : ev_X p l s m args c TB cl lay xo F mt own cc nL D ad ca tys A) (hH : ev_Hd e s m c cc nL hd) (hCd : ∀ j y, mt j = some y → ev_cw y ∈ TB) (hSn : ∀ j y, mt j = some y → y.2.2.2.2.2.1 + 1 ≤ R.frames → ev_Snd l TB cl lay F mt j) {q : ev_I} (hok : ev_ok hs cl mt own host cc nL R.frames R.locals pc q = true)
    (hK : ∀ pc ls st σ, K pc ls st σ → ev_G p l e R s m args below meth c Q cl lay nL D ad ca A pc ls st σ) (h : ev_st F lay xo hd q pc ls st σ K) : ev_G p l e R s m args below meth c Q cl lay nL D ad ca A pc ls st σ := by
  intro H locs cells slots lsA hI hL
  obtain ⟨ins, len, a1, a2, an, sw⟩ := q
  have hX' := hX
  obtain ⟨hx, hb, hml, hown, hts, -⟩ := hX'
  simp only [ev_ok, Bool.and_eq_true, decide_eq_true_eq] at hok
  obtain ⟨hdg, hok⟩ := hok
  cases ins
  all_goals first | exact h.elim | skip
  all_goals (try simp only [Bool.and_eq_true, decide_eq_true_eq] at hok)
  case iconst n => obtain ⟨rfl, hv⟩ := hok; exact lv_iconst hx hb hdg hv (hK _ _ _ _ h H locs cells slots lsA hI hL)
  case bipush n => obtain ⟨rfl, hv⟩ := hok; exact lv_bipush hx hb hdg hv (hK _ _ _ _ h H locs cells slots lsA hI hL)
  case sipush n => obtain ⟨rfl, hv⟩ := hok; exact lv_sipush hx hb hdg hv (hK _ _ _ _ h H locs cells slots lsA hI hL)
  case ldc i => obtain ⟨rfl, hv⟩ := hok; exact lv_ldc hx hb hown (hts _ (hhs _ hv)) hdg (hK _ _ _ _ h H locs cells slots lsA hI hL)
  case ldc_w i => obtain ⟨rfl, hv⟩ := hok; exact lv_ldcw hx hb hown (hts _ (hhs _ hv)) hdg (hK _ _ _ _ h H locs cells slots lsA hI hL)
  case lconst n => obtain rfl := hok; exact lv_lconst hx hb hdg rfl (hK _ _ _ _ h H locs cells slots lsA hI hL)
  case iload i => obtain ⟨rfl, rfl⟩ := hok; exact ev_li_s (fun hl k => lv_iload hx hb hdg hl k) hK hI hL h
  case iload_n i => obtain ⟨rfl, hv⟩ := hok; exact ev_li_s (fun hl k => lv_iload_n hx hb hdg hv hl k) hK hI hL h
  case aload i => obtain ⟨rfl, rfl⟩ := hok; exact ev_la_s (fun hl k => lv_aload hx hb hdg hl k) hK hI hL h
  case aload_n i => obtain ⟨rfl, hv⟩ := hok; exact ev_la_s (fun hl k => lv_aload_n hx hb hdg hv hl k) hK hI hL h
  case istore i => obtain ⟨⟨rfl, rfl⟩, hn⟩ := hok; exact ev_si_s (fun k => lv_istore hx hb hdg hL.1 hn rfl k) hK hI hL h
  case istore_n i => obtain ⟨⟨rfl, hv⟩, hn⟩ := hok; exact ev_si_s (fun k => lv_istore_n hx hb hdg hv hL.1 hn rfl k) hK hI hL h
  case astore i => obtain ⟨⟨rfl, rfl⟩, hn⟩ := hok; exact ev_sa_s (fun k => lv_astore hx hb hdg hL.1 hn rfl k) hK hI hL h
  case astore_n i => obtain ⟨⟨rfl, hv⟩, hn⟩ := hok; exact ev_sa_s (fun k => lv_astore_n hx hb hdg hv hL.1 hn rfl k) hK hI hL h
  case iinc i n =>
    obtain ⟨⟨⟨rfl, rfl⟩, hv⟩, hn⟩ := hok
    have h : (match ls[i]? with | some (some (.int x)) => K (pc + 3) (ls.set i (some (.int (x + an)))) st σ | _ => False) := h
    split at h
    · rename_i x hx1
      obtain ⟨k0, hk0⟩ := List.getElem?_of_mem (ev_pl_mem (ad := ad).mpr ⟨_, hx1, rfl⟩)
      exact lv_iinc hx hb hdg hL.1 (k := k0) (x := x) hk0 (by rw [hv]) hn rfl (fun ls2 h2 => hK _ _ _ _ h H locs cells slots ls2 hI (hL.set (v := .int (x + an)) rfl h2))
    · exact h.elim
  case iadd => obtain rfl := hok; exact ev_b2_s (fun k => lv_iadd hx hb hdg k) hK hI hL h
  case isub => obtain rfl := hok; exact ev_b2_s (fun k => lv_isub hx hb hdg k) hK hI hL h
  case imul => obtain rfl := hok; exact ev_b2_s (fun k => lv_imul hx hb hdg k) hK hI hL h
  case iand => obtain rfl := hok; exact ev_b2_s (fun k => lv_iand hx hb hdg k) hK hI hL h
  case ior => obtain rfl := hok; exact ev_b2_s (fun k => lv_ior hx hb hdg k) hK hI hL h
  case ixor => obtain rfl := hok; exact ev_b2_s (fun k => lv_ixor hx hb hdg k) hK hI hL h
  case ishl => obtain rfl := hok; exact ev_b2_s (fun k => lv_ishl hx hb hdg k) hK hI hL h
  case ishr => obtain rfl := hok; exact ev_b2_s (fun k => lv_ishr hx hb hdg k) hK hI hL h
  case iushr => obtain rfl := hok; exact ev_b2_s (fun k => lv_iushr hx hb hdg rfl k) hK hI hL h
  case idiv => obtain rfl := hok; exact ev_dv_s (fun hne k => lv_idiv hx hb hdg hne k) hK hI hL h
  case irem => obtain rfl := hok; exact ev_dv_s (fun hne k => lv_irem hx hb hdg hne k) hK hI hL h
  case i2l =>
    obtain rfl := hok
    simp only [ev_st] at h
    split at h
    · exact lv_i2l hx hb hdg rfl (hK _ _ _ _ h H locs cells slots lsA hI hL)
    · exact h.elim
  case lcmp =>
    obtain rfl := hok
    simp only [ev_st] at h
    split at h
    · exact W.lcmp hx hb hdg (hK _ _ _ _ h H locs cells slots lsA hI hL)
    · exact h.elim
  case dup =>
    obtain rfl := hok
    simp only [ev_st] at h
    split at h
    · exact lv_dup hx hb hdg rfl (hK _ _ _ _ h H locs cells slots lsA hI hL)
    · exact lv_dup hx hb hdg rfl (hK _ _ _ _ h H locs cells slots lsA hI hL)
    · exact h.elim
  case dup2 =>
    obtain rfl := hok
    simp only [ev_st] at h
    split at h
    · exact lv_dup2_11 hx hb hdg rfl rfl (hK _ _ _ _ h H locs cells slots lsA hI hL)
    · exact h.elim
  case pop =>
    obtain rfl := hok
    simp only [ev_st] at h
    split at h
    · exact lv_pop hx hb hdg rfl (hK _ _ _ _ h H locs cells slots lsA hI hL)
    · exact lv_pop hx hb hdg rfl (hK _ _ _ _ h H locs cells slots lsA hI hL)
    · exact h.elim
  case ifCond cnd off =>
    obtain ⟨rfl, ht⟩ := hok
    cases cnd
    · exact ev_c1_s (fun k1 k2 => lv_if_eq hx hb hdg ht k1 k2) hK hI hL h
    · exact ev_c1_s (P := fun x => x = 0) (fun k1 k2 => lv_if_ne hx hb hdg ht k2 k1) hK hI hL h
    · exact ev_c1_s (fun k1 k2 => lv_if_lt hx hb hdg ht k1 k2) hK hI hL h
    · exact ev_c1_s (fun k1 k2 => lv_if_ge hx hb hdg ht k1 k2) hK hI hL h
    · exact ev_c1_s (fun k1 k2 => lv_if_gt hx hb hdg ht k1 k2) hK hI hL h
    · exact ev_c1_s (fun k1 k2 => lv_if_le hx hb hdg ht k1 k2) hK hI hL h
  case if_icmp cnd off =>
    obtain ⟨rfl, ht⟩ := hok
    cases cnd
    · exact ev_c2_s (fun k1 k2 => lv_icmp_eq hx hb hdg ht k1 k2) hK hI hL h
    · exact ev_c2_s (P := fun x y => x = y) (fun k1 k2 => lv_icmp_ne hx hb hdg ht k2 k1) hK hI hL h
    · exact ev_c2_s (fun k1 k2 => lv_icmp_lt hx hb hdg ht k1 k2) hK hI hL h
    · exact ev_c2_s (fun k1 k2 => lv_icmp_ge hx hb hdg ht k1 k2) hK hI hL h
    · exact ev_c2_s (fun k1 k2 => lv_icmp_gt hx hb hdg ht k1 k2) hK hI hL h
    · exact ev_c2_s (fun k1 k2 => lv_icmp_le hx hb hdg ht k1 k2) hK hI hL h
  case goto off => obtain ⟨rfl, ht⟩ := hok; exact lv_goto hx hb hdg ht (hK _ _ _ _ h H locs cells slots lsA hI hL)
  case tableswitch d lo hi offs =>
    obtain ⟨⟨hd0, htk⟩, hhi⟩ := hok
    simp only [ev_st] at h
    split at h
    · rename_i x r
      rcases ev_tb _ _ _ htk h with ⟨i, t, off, e1, e2, e3, e4⟩ | ⟨e1, e2⟩
      · have hil : i < offs.toList.length := (List.getElem?_eq_some_iff.mp e1).1
        refine lv_tableIn hx hb hdg (by omega) (by omega) (off := off) ?_ e3 (hK _ _ _ _ e4 H locs cells slots lsA hI hL)
        rw [show (x.toInt - lo).toNat = i by omega, ← Array.getElem?_toList]
        exact e1
      · exact lv_tableOut hx hb hdg (by omega) hd0 (hK _ _ _ _ e1 H locs cells slots lsA hI hL)
    · exact h.elim
  case lookupswitch d ps =>
    obtain ⟨⟨hd0, hmp⟩, hsrt⟩ := hok
    simp only [ev_st] at h
    split at h
    · rename_i x r
      obtain ⟨off, t, e1, e2, e3⟩ := ev_lk hd0 _ _ hmp h
      exact lv_lookup hx hb hdg hsrt e1 e2 (hK _ _ _ _ e3 H locs cells slots lsA hI hL)
    · exact h.elim
  case getfield i =>
    obtain ⟨rfl, hok⟩ := hok
    split at hok
    · rename_i C T N hc
      simp only [Bool.and_eq_true, decide_eq_true_eq] at hok
      exact ev_gf_s hX hc hok.1 (ev_has_or hhs hok.2) hdg hK hI hL h
    · cases hok
  case putfield i =>
    obtain ⟨rfl, hok⟩ := hok
    split at hok
    · rename_i C T N hc
      simp only [Bool.and_eq_true, decide_eq_true_eq] at hok
      exact ev_pf_s hX hc hok.1.1.1 hok.1.1.2 hok.1.2 (ev_has_or hhs hok.2) hdg hK hI hL h
    · cases hok
  case iaload => obtain rfl := hok; exact ev_ia_s hX hdg hK hI hL h
  case baload => obtain rfl := hok; exact ev_za_s hX hdg hK hI hL h
  case laload => obtain rfl := hok; exact ev_ja_s hX hdg hK hI hL h
  case iastore => obtain rfl := hok; exact ev_is_s hX hdg hK hI hL h
  case bastore => obtain rfl := hok; exact ev_zs_s hX hdg hK hI hL h
  case lastore => obtain rfl := hok; exact ev_js_s hX hdg hK hI hL h
  case arraylength => obtain rfl := hok; exact ev_al_s hX hdg hK hI hL h
  case invokevirtual i =>
    obtain ⟨rfl, hok⟩ := hok
    split at hok
    · rename_i y hy
      simp only [Bool.and_eq_true, decide_eq_true_eq] at hok
      obtain ⟨⟨⟨⟨⟨⟨⟨⟨⟨h0, h1⟩, h2⟩, h3⟩, h4⟩, h5⟩, h6⟩, h7⟩, h8⟩, h9⟩ := hok
      split at h0
      · rename_i z ci sw'
        split at h0
        · rename_i C T N hcl
          have h0 : C = y.1.cls := of_decide_eq_true h0
          subst h0
          exact ev_cV_s hX hH hCd (hSn _ y hy h7) hy hdg (hhs _ h1) (hhs _ h2) (hhs _ h3) h4 h5 h6 h7 h8 (ev_has_or hhs h9) hK hI hL (sw := (z, ci) :: sw') (z := z) (sw' := sw') rfl hcl h
        · cases h0
      · cases h0
    · cases hok
  case invokestatic i =>
    obtain ⟨rfl, hok⟩ := hok
    split at hok
    · rename_i y hy
      simp only [Bool.and_eq_true, decide_eq_true_eq] at hok
      obtain ⟨⟨⟨⟨⟨⟨h1, h3⟩, h4⟩, h5⟩, h7⟩, h8⟩, h9⟩ := hok
      exact ev_cS_s hX hH hCd (hSn _ y hy h7) hy hdg (hhs _ h1) (hhs _ h3) h4 h5 h7 h8 (ev_has_or hhs h9) hK hI hL h
    · cases hok
/-- MANY INSTRUCTIONS -/
theorem ev_many {hs : Jvm.Cond → Bool} (hhs : ∀ w, hs w = true → w ∈ TB) (hX : ev_X p l s m args c TB cl lay xo F mt own cc nL D ad ca tys A) (hH : ev_Hd e s m c cc nL hd) (hCd : ∀ j y, mt j = some y → ev_cw y ∈ TB) (hSn : ∀ j y, mt j = some y → y.2.2.2.2.2.1 + 1 ≤ R.frames → ev_Snd l TB cl lay F mt j) {cd : Nat → Option ev_I} (hok : ∀ pc q, cd pc = some q → ev_ok hs cl mt own host cc nL R.frames R.locals pc q = true) {stp : Nat → Bool} {Qf : ev_K}
    (hQ : ∀ pc ls st σ, Qf pc ls st σ → ev_G p l e R s m args below meth c Q cl lay nL D ad ca A pc ls st σ) : ∀ (n pc : Nat) (ls : ev_V) (st : List Value) (σ : ev_W), ev_wp F lay xo hd cd stp Qf n pc ls st σ → ev_G p l e R s m args below meth c Q cl lay nL D ad ca A pc ls st σ := by
  intro n
  induction n with
  | zero => intro pc ls st σ h; exact h.elim
  | succ n ih =>
    intro pc ls st σ h
    have h : (match cd pc with | none => Qf pc ls st σ | some q => ev_st F lay xo hd q pc ls st σ (fun pc' ls' st' σ' => match stp pc' with | true => Qf pc' ls' st' σ' | false => ev_wp F lay xo hd cd stp Qf n pc' ls' st' σ')) := h
    split at h
    · exact hQ _ _ _ _ h
    · rename_i q hq
      refine ev_step hhs hX hH hCd hSn (hok _ _ hq) (fun pc' ls' st' σ' h' => ?_) h
      have h' : (match stp pc' with | true => Qf pc' ls' st' σ' | false => ev_wp F lay xo hd cd stp Qf n pc' ls' st' σ') := h'
      split at h'
      · exact hQ _ _ _ _ h'
      · exact ih _ _ _ _ h'
end EVQ
/-- a run inside a method, whatever the machine's state: from here one comes to a place with Qf -/
def ev_Run (TB : List Jvm.Cond) (cl : List vw_C) (lay : List ev_C) (xo : Option (Nat × (Nat → Int32))) (F : ev_F) (mt : Nat → Option ev_M) (hd : List (Nat × Nat × Nat × Nat)) (own : String) (cc : ByteArray) (nL fr lo : Nat) (Qf : ev_K) : ev_K := fun pc ls st σ =>
  ∀ (p : Program) (l : Launch) (e : Env) (R : Room) (s : State) (m : MethodId) (args : Array Value) (below : List Frame) (meth : Method) (c : Code) (Q : State → Prop) (D : va_G) (ad : Nat → Nat) (ca : Nat → ClassId) (tys : List (ClassId × FieldType)) (A : Nat → Prop),
    ev_X p l s m args c TB cl lay xo F mt own cc nL D ad ca tys A → ev_Hd e s m c cc nL hd → (∀ j y, mt j = some y → y.2.2.2.2.2.1 + 1 ≤ R.frames → ev_Snd l TB cl lay F mt j) → R.frames = fr → R.locals = lo →
    (∀ pc ls st σ, Qf pc ls st σ → ev_G p l e R s m args below meth c Q cl lay nL D ad ca A pc ls st σ) → ev_G p l e R s m args below meth c Q cl lay nL D ad ca A pc ls st σ
section EVR
variable {TB : List Jvm.Cond} {cl : List vw_C} {lay : List ev_C} {xo : Option (Nat × (Nat → Int32))} {F : ev_F} {mt : Nat → Option ev_M} {hd : List (Nat × Nat × Nat × Nat)} {own host : String} {cc : ByteArray} {nL fr lo : Nat} {Qf Q1 : ev_K} {pc : Nat} {ls : ev_V} {st : List Value} {σ : ev_W}
theorem ev_fin (h : Qf pc ls st σ) : ev_Run TB cl lay xo F mt hd own cc nL fr lo Qf pc ls st σ :=
  fun _ _ _ _ _ _ _ _ _ _ _ _ _ _ _ _ _ _ _ _ _ k => k _ _ _ _ h
theorem ev_go {hs : Jvm.Cond → Bool} (hhs : ∀ w, hs w = true → w ∈ TB) (hCd : ∀ j y, mt j = some y → ev_cw y ∈ TB) {cd : Nat → Option ev_I} (hok : ∀ pc q, cd pc = some q → ev_ok hs cl mt own host cc nL fr lo pc q = true) (stp : Nat → Bool) (n : Nat) (h : ev_wp F lay xo hd cd stp Q1 n pc ls st σ)
    (k : ∀ pc ls st σ, Q1 pc ls st σ → ev_Run TB cl lay xo F mt hd own cc nL fr lo Qf pc ls st σ) : ev_Run TB cl lay xo F mt hd own cc nL fr lo Qf pc ls st σ := by
  intro p l e R s m args below meth c Q D ad ca tys A hX hH hSn h1 h2 hQ
  subst h1
  subst h2
  exact ev_many hhs hX hH hCd hSn hok (fun pc ls st σ h => k pc ls st σ h p l e R s m args below meth c Q D ad ca tys A hX hH hSn rfl rfl hQ) n pc ls st σ h
end EVR
