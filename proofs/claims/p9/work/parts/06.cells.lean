/-! THE EVALUATOR IS RIGHT: fields and arrays -/
section EVU
variable {p : Program} {l : Launch} {e : Env} {R : Room} {s : State} {m : MethodId} {args : Array Value} {below : List Frame} {meth : Method} {c : Code} {Q : State → Prop}
variable {TB : List Jvm.Cond} {cl : List vw_C} {lay : List ev_C} {xo : Option (Nat × (Nat → Int32))} {F : ev_F} {mt : Nat → Option ev_M} {hd : List (Nat × Nat × Nat × Nat)} {own host : String} {cc : ByteArray} {nL : Nat} {D : va_G} {ad : Nat → Nat} {ca : Nat → ClassId} {tys : List (ClassId × FieldType)} {A : Nat → Prop}
variable {K : ev_K} {pc : Nat} {ls : ev_V} {st : List Value} {σ : ev_W} {H : Heap} {locs : List Loc} {cells slots : Nat} {lsA : Array Slot}
theorem ev_gf_s (hX : ev_X p l s m args c TB cl lay xo F mt own cc nL D ad ca tys A) {ci k i N : Nat} {C : String} {T : u_T} (hc : cl[ci]? = some (C, T, N)) (hk : k < N) (hlk : .fieldLink own i (T k).1 (T k).2.1 (T k).2.2.1 ∈ TB ∨ .fieldLinkNest own i (T k).1 (T k).2.1 (T k).2.2.1 host ∈ TB) (hdg : decode cc pc = .ok (.getfield i, 3))
    (hK : ∀ pc ls st σ, K pc ls st σ → ev_G p l e R s m args below meth c Q cl lay nL D ad ca A pc ls st σ) (hI : ev_I0 R s cl lay D ad ca A σ H locs cells slots) (hL : ev_L lsA nL ad ls) (h : ev_gf lay ci k pc ls st σ K) : W p l e R s m args below meth c H locs cells slots Q (F0 m pc lsA (st.map (ev_tr ad))) := by
  obtain ⟨hx, hb, hml, hown, hts, htb, hCl, hKs, hTy, hA, hZ, hXo⟩ := hX
  have hP := hI.1
  unfold ev_gf at h
  split at h
  · rename_i a r
    split at h
    · rename_i cj fs hq
      split at h
      · rename_i hcj
        subst hcj
        have he : (ev_ws ad ca lay σ)[a]? = some (ad a, .inr (cj, fs.mapIdx (fun j f => ev_fv ad σ a j f))) := ev_ws_at hq
        split at h
        · rename_i hf
          have hv : (fs.mapIdx (fun j f => ev_fv ad σ a j f))[k]? = some (.int (σ.1 a k)) := by simp [hf, ev_fv]
          rcases hlk with hl | hl
          · exact va_get (D := D) (ci := cj) (v := .int (σ.1 a k)) (C := C) (T := T) (N := N) hx hb hts (hCl _ _ _ _ hc).1 hown hKs hP a he hc k hk (hts _ hl) (fun _ h9 => h9) hv hdg (hK _ _ _ _ h H locs cells slots lsA hI hL)
          · exact va_getN (D := D) (ci := cj) (v := .int (σ.1 a k)) (C := C) (T := T) (N := N) hx hb hts (hCl _ _ _ _ hc).1 hown hKs hP a he hc k hk (hts _ hl) (fun _ h9 => h9) hv hdg (hK _ _ _ _ h H locs cells slots lsA hI hL)
        · rename_i b hf
          have hv : (fs.mapIdx (fun j f => ev_fv ad σ a j f))[k]? = some (.ref (ad b)) := by simp [hf, ev_fv]
          rcases hlk with hl | hl
          · exact va_get (D := D) (ci := cj) (v := .ref (ad b)) (C := C) (T := T) (N := N) hx hb hts (hCl _ _ _ _ hc).1 hown hKs hP a he hc k hk (hts _ hl) (fun _ h9 => h9) hv hdg (hK _ _ _ _ h H locs cells slots lsA hI hL)
          · exact va_getN (D := D) (ci := cj) (v := .ref (ad b)) (C := C) (T := T) (N := N) hx hb hts (hCl _ _ _ _ hc).1 hown hKs hP a he hc k hk (hts _ hl) (fun _ h9 => h9) hv hdg (hK _ _ _ _ h H locs cells slots lsA hI hL)
        · exact h.elim
      · exact h.elim
    · exact h.elim
  · exact h.elim
theorem ev_pf_s (hX : ev_X p l s m args c TB cl lay xo F mt own cc nL D ad ca tys A) {ci k i N : Nat} {C : String} {T : u_T} {z : Int32} (hc : cl[ci]? = some (C, T, N)) (hk : k < N) (hfin : (T k).2.2.2 = false) (hpd : parseFieldDescriptor (T k).2.2.1 = some (if z = 0 then .int else .boolean)) (hlk : .fieldLink own i (T k).1 (T k).2.1 (T k).2.2.1 ∈ TB ∨ .fieldLinkNest own i (T k).1 (T k).2.1 (T k).2.2.1 host ∈ TB) (hdg : decode cc pc = .ok (.putfield i, 3))
    (hK : ∀ pc ls st σ, K pc ls st σ → ev_G p l e R s m args below meth c Q cl lay nL D ad ca A pc ls st σ) (hI : ev_I0 R s cl lay D ad ca A σ H locs cells slots) (hL : ev_L lsA nL ad ls) (h : ev_pf lay ci k z pc ls st σ K) : W p l e R s m args below meth c H locs cells slots Q (F0 m pc lsA (st.map (ev_tr ad))) := by
  obtain ⟨hx, hb, hml, hown, hts, htb, hCl, hKs, hTy, hA, hZ, hXo⟩ := hX
  obtain ⟨hP, hD, hS, hr1, hr2⟩ := hI
  obtain ⟨hin, ⟨ty0, hty⟩, hnm⟩ := hCl _ _ _ _ hc
  unfold ev_pf at h
  split at h
  · rename_i x a r
    split at h
    · rename_i cj fs hq
      split at h
      · rename_i hcj
        subst hcj
        have he : (ev_ws ad ca lay σ)[a]? = some (ad a, .inr (cj, fs.mapIdx (fun j f => ev_fv ad σ a j f))) := ev_ws_at hq
        split at h
        · rename_i hf
          have hlen : k < (fs.mapIdx (fun j f => ev_fv ad σ a j f)).length := by
            have := (List.getElem?_eq_some_iff.mp hf).1
            simpa using this
          have go : ∀ ty : FieldType, parseFieldDescriptor (T k).2.2.1 = some ty → narrow ty (.int x) = .int x → fits ty (.int x) = true → K (pc + 3) ls r (ev_up σ a k x) → W p l e R s m args below meth c H locs cells slots Q (F0 m pc lsA (.int x :: .ref (ad a) :: r.map (ev_tr ad))) := by
            intro ty h1 h2 h3 h4
            have kk : ∀ (H1 : Heap) (locs1 : List Loc), va_P D cl ((ev_ws ad ca lay σ).set a (ad a, .inr (cj, (fs.mapIdx (fun j f => ev_fv ad σ a j f)).set k (.int x)))) H1 → va_D A ((ev_ws ad ca lay σ).set a (ad a, .inr (cj, (fs.mapIdx (fun j f => ev_fv ad σ a j f)).set k (.int x)))) → va_S A s.heap H1 locs1 → W p l e R s m args below meth c H1 locs1 cells slots Q (F0 m (pc + 3) lsA (r.map (ev_tr ad))) := by
              intro H1 locs1 g1 g2 g3
              rw [ev_ws_field hq hf] at g1 g2
              exact hK _ _ _ _ h4 H1 locs1 cells slots lsA ⟨g1, g2, g3, hr1, hr2⟩ hL
            rcases hlk with hl | hl
            · exact va_put (D := D) (ci := cj) (v := .int x) (ty := ty) (C := C) (T := T) (N := N) hx hb hts hin ty0 hty hnm hown hKs hP hD hS a he hc k hk (hts _ hl) (fun _ h9 => h9) hfin h1 h2 h3 hlen hdg kk
            · exact va_putN (D := D) (ci := cj) (v := .int x) (ty := ty) (C := C) (T := T) (N := N) hx hb hts hin ty0 hty hnm hown hKs hP hD hS a he hc k hk (hts _ hl) (fun _ h9 => h9) hfin h1 h2 h3 hlen hdg kk
          split at h
          · rename_i hz
            rw [if_pos hz] at hpd
            exact go .int hpd rfl rfl h
          · rename_i hz
            rw [if_neg hz] at hpd
            obtain ⟨hx01, h⟩ := h
            rcases hx01 with rfl | rfl
            · exact go .boolean hpd (by decide +kernel) (by decide +kernel) h
            · exact go .boolean hpd (by decide +kernel) (by decide +kernel) h
        · exact h.elim
      · exact h.elim
    · exact h.elim
  · exact h.elim
theorem ev_ia_s (hX : ev_X p l s m args c TB cl lay xo F mt own cc nL D ad ca tys A) (hdg : decode cc pc = .ok (.iaload, 1))
    (hK : ∀ pc ls st σ, K pc ls st σ → ev_G p l e R s m args below meth c Q cl lay nL D ad ca A pc ls st σ) (hI : ev_I0 R s cl lay D ad ca A σ H locs cells slots) (hL : ev_L lsA nL ad ls) (h : ev_ia lay xo pc ls st σ K) : W p l e R s m args below meth c H locs cells slots Q (F0 m pc lsA (st.map (ev_tr ad))) := by
  obtain ⟨hx, hb, hml, hown, hts, htb, hCl, hKs, hTy, hA, hZ, hXo⟩ := hX
  unfold ev_ia at h
  split at h
  · rename_i i a r
    split at h
    · rename_i n hq
      obtain ⟨t0, ht⟩ := hTy _ _ _ hq
      exact va_iald hx hb hKs hI.1 a t0 (ev_ws_at hq) ht h.1 hdg (hK _ _ _ _ h.2 H locs cells slots lsA hI hL)
    · split at h
      · rename_i L xs
        obtain ⟨h1, h2, h3⟩ := hXo _ _ rfl
        split at h
        · rename_i ha
          subst ha
          exact va_sld hx hb h1 h2 h3 hI.2.2.1 h.1 hdg (hK _ _ _ _ h.2 H locs cells slots lsA hI hL)
        · exact h.elim
      · exact h.elim
    · exact h.elim
  · exact h.elim
theorem ev_za_s (hX : ev_X p l s m args c TB cl lay xo F mt own cc nL D ad ca tys A) (hdg : decode cc pc = .ok (.baload, 1))
    (hK : ∀ pc ls st σ, K pc ls st σ → ev_G p l e R s m args below meth c Q cl lay nL D ad ca A pc ls st σ) (hI : ev_I0 R s cl lay D ad ca A σ H locs cells slots) (hL : ev_L lsA nL ad ls) (h : ev_za lay pc ls st σ K) : W p l e R s m args below meth c H locs cells slots Q (F0 m pc lsA (st.map (ev_tr ad))) := by
  obtain ⟨hx, hb, hml, hown, hts, htb, hCl, hKs, hTy, hA, hZ, hXo⟩ := hX
  unfold ev_za at h
  split at h
  · rename_i i a r
    split at h
    · rename_i n hq
      obtain ⟨t0, ht⟩ := hTy _ _ _ hq
      exact va_zald hx hb hKs hI.1 a t0 (ev_ws_at hq) ht h.1 hdg (hK _ _ _ _ h.2 H locs cells slots lsA hI hL)
    · exact h.elim
  · exact h.elim
theorem ev_ja_s (hX : ev_X p l s m args c TB cl lay xo F mt own cc nL D ad ca tys A) (hdg : decode cc pc = .ok (.laload, 1))
    (hK : ∀ pc ls st σ, K pc ls st σ → ev_G p l e R s m args below meth c Q cl lay nL D ad ca A pc ls st σ) (hI : ev_I0 R s cl lay D ad ca A σ H locs cells slots) (hL : ev_L lsA nL ad ls) (h : ev_ja lay pc ls st σ K) : W p l e R s m args below meth c H locs cells slots Q (F0 m pc lsA (st.map (ev_tr ad))) := by
  obtain ⟨hx, hb, hml, hown, hts, htb, hCl, hKs, hTy, hA, hZ, hXo⟩ := hX
  unfold ev_ja at h
  split at h
  · rename_i i a r
    split at h
    · rename_i n hq
      obtain ⟨t0, ht⟩ := hTy _ _ _ hq
      exact va_lald hx hb hKs hI.1 a t0 (ev_ws_at hq) ht h.1 hdg (hK _ _ _ _ h.2 H locs cells slots lsA hI hL)
    · exact h.elim
  · exact h.elim
theorem ev_is_s (hX : ev_X p l s m args c TB cl lay xo F mt own cc nL D ad ca tys A) (hdg : decode cc pc = .ok (.iastore, 1))
    (hK : ∀ pc ls st σ, K pc ls st σ → ev_G p l e R s m args below meth c Q cl lay nL D ad ca A pc ls st σ) (hI : ev_I0 R s cl lay D ad ca A σ H locs cells slots) (hL : ev_L lsA nL ad ls) (h : ev_is lay pc ls st σ K) : W p l e R s m args below meth c H locs cells slots Q (F0 m pc lsA (st.map (ev_tr ad))) := by
  obtain ⟨hx, hb, hml, hown, hts, htb, hCl, hKs, hTy, hA, hZ, hXo⟩ := hX
  obtain ⟨hP, hD, hS, hr1, hr2⟩ := hI
  unfold ev_is at h
  split at h
  · rename_i x i a r
    split at h
    · rename_i n hq
      obtain ⟨t0, ht⟩ := hTy _ _ _ hq
      refine va_iast hx hb hKs hP hD hS a t0 (ev_ws_at hq) ht h.1 hdg (fun H1 locs1 g1 g2 g3 => ?_)
      have e1 : (ev_ws ad ca lay σ).set a (ad a, .inl (ca a, n, .inl (upd (σ.1 a) i.toNatClampNeg x))) = ev_ws ad ca lay (ev_up σ a i.toNatClampNeg x) := by
        rw [← ev_ws_set (σ := σ) (σ' := ev_up σ a i.toNatClampNeg x) hq ev_up_other]
        simp [ev_ce, ev_up]
      have g1 : va_P D cl ((ev_ws ad ca lay σ).set a (ad a, .inl (ca a, n, .inl (upd (σ.1 a) i.toNatClampNeg x)))) H1 := g1
      have g2 : va_D A ((ev_ws ad ca lay σ).set a (ad a, .inl (ca a, n, .inl (upd (σ.1 a) i.toNatClampNeg x)))) := g2
      rw [e1] at g1 g2
      exact hK _ _ _ _ h.2 H1 locs1 cells slots lsA ⟨g1, g2, g3, hr1, hr2⟩ hL
    · exact h.elim
  · exact h.elim
theorem ev_zs_s (hX : ev_X p l s m args c TB cl lay xo F mt own cc nL D ad ca tys A) (hdg : decode cc pc = .ok (.bastore, 1))
    (hK : ∀ pc ls st σ, K pc ls st σ → ev_G p l e R s m args below meth c Q cl lay nL D ad ca A pc ls st σ) (hI : ev_I0 R s cl lay D ad ca A σ H locs cells slots) (hL : ev_L lsA nL ad ls) (h : ev_zs lay pc ls st σ K) : W p l e R s m args below meth c H locs cells slots Q (F0 m pc lsA (st.map (ev_tr ad))) := by
  obtain ⟨hx, hb, hml, hown, hts, htb, hCl, hKs, hTy, hA, hZ, hXo⟩ := hX
  obtain ⟨hP, hD, hS, hr1, hr2⟩ := hI
  unfold ev_zs at h
  split at h
  · rename_i x i a r
    split at h
    · rename_i n hq
      obtain ⟨t0, ht⟩ := hTy _ _ _ hq
      refine va_zast hx hb hKs hP hD hS a t0 (ev_ws_at hq) ht h.1 hdg (fun H1 locs1 g1 g2 g3 => ?_)
      have e1 : (ev_ws ad ca lay σ).set a (ad a, .inl (ca a, n, .inl (upd (σ.1 a) i.toNatClampNeg (vp_nar .boolean x)))) = ev_ws ad ca lay (ev_up σ a i.toNatClampNeg (vp_nar .boolean x)) := by
        rw [← ev_ws_set (σ := σ) (σ' := ev_up σ a i.toNatClampNeg (vp_nar .boolean x)) hq ev_up_other]
        simp [ev_ce, ev_up]
      have g1 : va_P D cl ((ev_ws ad ca lay σ).set a (ad a, .inl (ca a, n, .inl (upd (σ.1 a) i.toNatClampNeg (vp_nar .boolean x))))) H1 := g1
      have g2 : va_D A ((ev_ws ad ca lay σ).set a (ad a, .inl (ca a, n, .inl (upd (σ.1 a) i.toNatClampNeg (vp_nar .boolean x))))) := g2
      rw [e1] at g1 g2
      exact hK _ _ _ _ h.2 H1 locs1 cells slots lsA ⟨g1, g2, g3, hr1, hr2⟩ hL
    · exact h.elim
  · exact h.elim
theorem ev_js_s (hX : ev_X p l s m args c TB cl lay xo F mt own cc nL D ad ca tys A) (hdg : decode cc pc = .ok (.lastore, 1))
    (hK : ∀ pc ls st σ, K pc ls st σ → ev_G p l e R s m args below meth c Q cl lay nL D ad ca A pc ls st σ) (hI : ev_I0 R s cl lay D ad ca A σ H locs cells slots) (hL : ev_L lsA nL ad ls) (h : ev_js lay pc ls st σ K) : W p l e R s m args below meth c H locs cells slots Q (F0 m pc lsA (st.map (ev_tr ad))) := by
  obtain ⟨hx, hb, hml, hown, hts, htb, hCl, hKs, hTy, hA, hZ, hXo⟩ := hX
  obtain ⟨hP, hD, hS, hr1, hr2⟩ := hI
  unfold ev_js at h
  split at h
  · rename_i x i a r
    split at h
    · rename_i n hq
      obtain ⟨t0, ht⟩ := hTy _ _ _ hq
      refine va_last hx hb hKs hP hD hS a t0 (ev_ws_at hq) ht h.1 hdg (fun H1 locs1 g1 g2 g3 => ?_)
      have e1 : (ev_ws ad ca lay σ).set a (ad a, .inl (ca a, n, .inr (.inl (vp_updL (σ.2.1 a) i.toNatClampNeg x)))) = ev_ws ad ca lay (ev_uL σ a i.toNatClampNeg x) := by
        rw [← ev_ws_set (σ := σ) (σ' := ev_uL σ a i.toNatClampNeg x) hq ev_uL_other]
        simp [ev_ce, ev_uL]
      have g1 : va_P D cl ((ev_ws ad ca lay σ).set a (ad a, .inl (ca a, n, .inr (.inl (vp_updL (σ.2.1 a) i.toNatClampNeg x))))) H1 := g1
      have g2 : va_D A ((ev_ws ad ca lay σ).set a (ad a, .inl (ca a, n, .inr (.inl (vp_updL (σ.2.1 a) i.toNatClampNeg x))))) := g2
      rw [e1] at g1 g2
      exact hK _ _ _ _ h.2 H1 locs1 cells slots lsA ⟨g1, g2, g3, hr1, hr2⟩ hL
    · exact h.elim
  · exact h.elim
theorem ev_al_s (hX : ev_X p l s m args c TB cl lay xo F mt own cc nL D ad ca tys A) (hdg : decode cc pc = .ok (.arraylength, 1))
    (hK : ∀ pc ls st σ, K pc ls st σ → ev_G p l e R s m args below meth c Q cl lay nL D ad ca A pc ls st σ) (hI : ev_I0 R s cl lay D ad ca A σ H locs cells slots) (hL : ev_L lsA nL ad ls) (h : ev_al lay xo pc ls st σ K) : W p l e R s m args below meth c H locs cells slots Q (F0 m pc lsA (st.map (ev_tr ad))) := by
  obtain ⟨hx, hb, hml, hown, hts, htb, hCl, hKs, hTy, hA, hZ, hXo⟩ := hX
  unfold ev_al at h
  split at h
  · rename_i a r
    split at h
    · rename_i ty n hq
      obtain ⟨t0, ht⟩ := hTy _ _ _ hq
      have ha : ∃ x : vp_A, (ev_ws ad ca lay σ)[a]? = some (ad a, .inl (ca a, x)) ∧ x.1 = n := by
        cases ty <;> exact ⟨_, ev_ws_at hq, rfl⟩
      obtain ⟨x, ha, rfl⟩ := ha
      exact va_alen hx hb hKs hI.1 a t0 ha ht rfl hdg (hK _ _ _ _ h H locs cells slots lsA hI hL)
    · split at h
      · rename_i L xs
        obtain ⟨h1, h2, h3⟩ := hXo _ _ rfl
        split at h
        · rename_i ha
          subst ha
          exact va_slen hx hb h1 h2 h3 hI.2.2.1 hdg (hK _ _ _ _ h H locs cells slots lsA hI hL)
        · exact h.elim
      · exact h.elim
    · exact h.elim
  · exact h.elim
end EVU
