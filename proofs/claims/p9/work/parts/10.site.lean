/-! A THROW SITE: new, dup, ldc, invokespecial, athrow -/
def ev_up2 : List String := ["java/lang/RuntimeException", "java/lang/Exception"]
set_option maxHeartbeats 1000000 in
theorem ev_site {l : Launch} (hfl : l.flags = pinnedFlags ++ [noTraceFlag]) {TB : List Jvm.Cond} {own tx : String} {cc : ByteArray} {nL fr lo k pc ia is ic : Nat}
    (hd0 : decode cc pc = .ok (.new ia, 3)) (hd1 : decode cc (pc + 3) = .ok (.dup, 1)) (hd2 : decode cc (pc + 4) = .ok (.ldc is, 2)) (hd3 : decode cc (pc + 6) = .ok (.invokespecial ic, 3)) (hd4 : decode cc (pc + 9) = .ok (.athrow, 1))
    (h1 : .classLink own ia (ev_xn k) ∈ TB) (h2 : .instantiable (ev_xn k) 6 ∈ TB) (h3 : .initialized (ev_xn k) ∈ TB) (h4 : .stringRef own is tx ∈ TB) (h5 : ∀ w ∈ Bundle.ownAtoms own ic (ev_xn k) ev_up2, w ∈ TB ∨ w ∈ ev_ZA)
    (h6 : Bundle.fit (ev_xn k) = true) (h7 : ∀ n ∈ ev_up2, Bundle.fit n = true) (hfr : 5 < fr) (hlo : 82 ≤ lo) : ev_Th l TB own cc nL fr lo k pc := by
  intro p e R s m args below meth c H locs cells slots A ls free Qc hx hb hml het hlocks hown hts hfr' hlo' hc1 hc2 hsl hsz hS hfree hA hnst hZ hQ
  obtain ⟨cX, -, hfX, -⟩ := Cond.instantiable_spec (hts _ h2)
  refine W.newcK hx hb hown (hts _ h1) (hts _ h2) (hts _ h3) rfl hd0 hc1 hc2 hfX rfl (fun H' kC hkC e1 z1 o1 => ?_)
  refine W.eq (g2 := F0 m (pc + 3) ls [.ref H.size]) rfl ?_
  refine lv_dup hx hb hd1 rfl ?_
  intro T hT X
  obtain ⟨k1, cf, i, as, hk1, hcf, hcp, -, hr, hev⟩ := Cond.stringRef_spec hown (hts _ h4)
  have step1 := X.ldcString hx hown (text := tx) (a := as) (hts _ h4) hev (g := F0 m (pc + 3 + 1) ls [.ref H.size, .ref H.size]) rfl (by rw [hb]; exact hd2)
  have hat : ∀ w ∈ Bundle.ownAtoms own ic (ev_xn k) ev_up2, w.before args s = true := fun w hw => (h5 w hw).elim (fun z => hts w z) (fun z => hZ.here w z args)
  obtain ⟨U, ce, hst, hrun, hend, hWU, hsame, hheap, hcls, hvm⟩ := ev_thrown X hx (Launch.traces_off hfl X.admits) hown h6 h7 hat (fun x hx cell hc => hnst _ (hS.2.2 x hx) cell hc) (a := H.size) hfX hkC (by rw [hT]; exact e1) hS.1 (msg := .ref as) rfl
    (g := F0 m (pc + 6) ls [.ref as, .ref H.size, .ref H.size]) rfl (hsz.trans hml.symm) rfl rfl (rest := []) rfl (by rw [hb]; exact hd3) (by rw [hb]; exact hd4) (fun x hx => by rw [het] at hx; cases hx) (by rw [hfr']; exact hfr) (by rw [hlo']; exact hlo) hlocks
  have hlt : H.size < T.heap.size := by rw [hT, z1]; omega
  refine ⟨U, step1 _ hst, .threw H.size, hrun, hend, cells + 1, locs, hQ H.size ce U rfl ?_ ?_ hvm ?_ ?_, hWU, hsame.mono (Nat.le_refl _) (by omega), fun q hq => hfree _ (hS.2.2 q hq)⟩
  · rw [hheap]
    simp [hlt]
  · rw [hcls]
    exact hfX
  · intro q hq
    rw [hheap, Array.getElem?_setIfInBounds_ne (Nat.ne_of_gt hq), hT]
    exact o1 q hq
  · rw [hheap]
    simp only [Array.size_setIfInBounds]
    omega
