/-! THE LAW'S ENTRY AND END (laid by wip/gen/start.py) -/
def ps_ad (b h0 q0 q1 q2 q3 q4 g0 g1 g2 g3 g4 g5 r0 : Nat) : Nat → Nat := fun k => match k with
  | 0 => h0
  | 1 => q0
  | 2 => q3
  | 3 => q4
  | 4 => q1
  | 5 => q2
  | 6 => g0
  | 7 => g1
  | 8 => g2
  | 9 => g3
  | 10 => g4
  | 11 => g5
  | 12 => r0
  | _ => b
def ps_ca (c1 c2 c3 c4 d1 d2 d3 d4 d5 e1 : ClassId) : Nat → ClassId := fun k => match k with
  | 2 => c3
  | 3 => c4
  | 4 => c1
  | 5 => c2
  | 7 => d1
  | 8 => d2
  | 9 => d3
  | 10 => d4
  | 11 => d5
  | _ => e1
def ps_tys (c1 c2 c3 c4 d1 d2 d3 d4 d5 e1 : ClassId) : List (ClassId × FieldType) := [(c1, .int), (c2, .int), (c3, .int), (c4, .boolean), (d1, .int), (d2, .int), (d3, .int), (d4, .boolean), (d5, .int), (e1, .long)]
def ps_σ (B : Nat) : ev_W := (fun k j => if k = 0 then (if j = 4 then -1 else 0) else if k = 6 then (if j = 5 then -1 else if j = 8 then -1 else 0) else 0, fun _ _ => 0, B)
theorem ps_f (B : Nat) : sp_inv (ps_σ B) ∧ sp_fresh (ps_σ B) := ⟨⟨sp_in rfl rfl, Or.inl rfl, Or.inl rfl⟩, fun _ => rfl, rfl, rfl, rfl, rfl⟩
theorem ps_ok (B : Nat) : md_ok (ps_σ B) := ⟨Or.inl rfl, show (0 : Int32) ≤ 0 by decide, show (0 : Int32) ≤ 0 by decide, show (0 : Int32) ≤ 0 by decide, fun h => absurd (show (0 : Int32) = 1 from h) (by decide)⟩
theorem ps_m (B : Nat) : md_fresh (ps_σ B) := ⟨fun _ => rfl, rfl, rfl, rfl, rfl⟩
theorem ps_Ty (c1 c2 c3 c4 d1 d2 d3 d4 d5 e1 : ClassId) : ev_Ty pg_lay (ps_ca c1 c2 c3 c4 d1 d2 d3 d4 d5 e1) (ps_tys c1 c2 c3 c4 d1 d2 d3 d4 d5 e1) := by
  intro k n ty h
  match k with
  | 0 => cases h
  | 1 => cases h
  | 2 => cases h; exact ⟨2, rfl⟩
  | 3 => cases h; exact ⟨3, rfl⟩
  | 4 => cases h; exact ⟨0, rfl⟩
  | 5 => cases h; exact ⟨1, rfl⟩
  | 6 => cases h
  | 7 => cases h; exact ⟨4, rfl⟩
  | 8 => cases h; exact ⟨5, rfl⟩
  | 9 => cases h; exact ⟨6, rfl⟩
  | 10 => cases h; exact ⟨7, rfl⟩
  | 11 => cases h; exact ⟨8, rfl⟩
  | 12 => cases h; exact ⟨9, rfl⟩
  | k + 13 => cases h
set_option maxRecDepth 100000 in
-- statics
set_option maxRecDepth 100000 in
theorem ps_q0 : (Jvm.Cond.classLink "TicketTagLaw" 8 "TicketTag") ∈ pg_TB := pg_mem (by decide +kernel) rfl
set_option maxRecDepth 100000 in
theorem ps_q1 : (Jvm.Cond.instantiable "TicketTag" 6) ∈ pg_TB := pg_mem (by decide +kernel) rfl
set_option maxRecDepth 100000 in
theorem ps_q2 : (Jvm.Cond.initialized "TicketTag") ∈ pg_TB := pg_mem (by decide +kernel) rfl
set_option maxRecDepth 100000 in
theorem ps_q3 : (Jvm.Cond.methodLink "TicketTagLaw" 49 ⟨"TicketTag", "<init>", "()V"⟩) ∈ pg_TB := pg_mem (by decide +kernel) rfl
set_option maxRecDepth 100000 in
theorem ps_q4 : (Jvm.Cond.instanceMethod ⟨"TicketTag", "<init>", "()V"⟩) ∈ pg_TB := pg_mem (by decide +kernel) rfl
set_option maxRecDepth 100000 in
theorem ps_q5 : (Jvm.Cond.code ⟨"TicketTag", "<init>", "()V"⟩ prog_1_method_1_code 1 none) ∈ pg_TB := pg_mem (by decide +kernel) rfl
set_option maxRecDepth 100000 in
theorem ps_q6 : (Jvm.Cond.classLink "TicketTagLaw" 50 "TicketTagModel") ∈ pg_TB := pg_mem (by decide +kernel) rfl
set_option maxRecDepth 100000 in
theorem ps_q7 : (Jvm.Cond.instantiable "TicketTagModel" 14) ∈ pg_TB := pg_mem (by decide +kernel) rfl
set_option maxRecDepth 100000 in
theorem ps_q8 : (Jvm.Cond.initialized "TicketTagModel") ∈ pg_TB := pg_mem (by decide +kernel) rfl
set_option maxRecDepth 100000 in
theorem ps_q9 : (Jvm.Cond.methodLink "TicketTagLaw" 52 ⟨"TicketTagModel", "<init>", "()V"⟩) ∈ pg_TB := pg_mem (by decide +kernel) rfl
set_option maxRecDepth 100000 in
theorem ps_q10 : (Jvm.Cond.instanceMethod ⟨"TicketTagModel", "<init>", "()V"⟩) ∈ pg_TB := pg_mem (by decide +kernel) rfl
set_option maxRecDepth 100000 in
theorem ps_q11 : (Jvm.Cond.code ⟨"TicketTagModel", "<init>", "()V"⟩ prog_4_method_1_code 1 none) ∈ pg_TB := pg_mem (by decide +kernel) rfl
set_option maxRecDepth 100000 in
theorem ps_q12 : (Jvm.Cond.arrayClass .long) ∈ pg_TB := pg_mem (by decide +kernel) rfl
theorem ps_L {ls : Array Slot} {b h0 q0 q1 q2 q3 q4 g0 g1 g2 g3 g4 g5 r0 : Nat} (hl : lv_has ls 7 [(3, .ref r0), (2, .ref g0), (1, .ref h0), (0, .ref b)]) : ev_L ls 7 (ps_ad b h0 q0 q1 q2 q3 q4 g0 g1 g2 g3 g4 g5 r0) [some (.ref 999), some (.ref 0), some (.ref 6), some (.ref 12), none, none, none] := by
  refine ⟨⟨hl.1, hl.2.1, fun q hq => ?_⟩, fun i v h => ?_⟩
  · obtain ⟨v, h1, h2⟩ := ev_pl_mem.mp hq
    obtain ⟨i, w⟩ := q
    have h2 : w = ev_tr (ps_ad b h0 q0 q1 q2 q3 q4 g0 g1 g2 g3 g4 g5 r0) v := h2
    subst h2
    have hi : i < 7 := (List.getElem?_eq_some_iff.mp h1).1
    rcases (show i = 0 ∨ i = 1 ∨ i = 2 ∨ i = 3 ∨ i = 4 ∨ i = 5 ∨ i = 6 by omega) with rfl | rfl | rfl | rfl | rfl | rfl | rfl
    · cases h1; exact lv_at hl 3 rfl
    · cases h1; exact lv_at hl 2 rfl
    · cases h1; exact lv_at hl 1 rfl
    · cases h1; exact lv_at hl 0 rfl
    · cases h1
    · cases h1
    · cases h1
  · have hi : i < 7 := (List.getElem?_eq_some_iff.mp h).1
    rcases (show i = 0 ∨ i = 1 ∨ i = 2 ∨ i = 3 ∨ i = 4 ∨ i = 5 ∨ i = 6 by omega) with rfl | rfl | rfl | rfl | rfl | rfl | rfl <;> cases h <;> rfl
section PSL
variable {p : Program} {l : Launch} {e : Env} {s : State} {m : MethodId} {below : List Frame} {meth : Method} {c : Code} {b L : Nat} {xs : Nat → Int32} {D : va_G} {ad : Nat → Nat} {ca : Nat → ClassId} {tys : List (ClassId × FieldType)} {H : Heap} {locs : List Loc} {cells slots : Nat} {lsA : Array Slot}
theorem ps_end (hx : p.tables.exec = Jvm.exec) (hb : c.code = code) (hr : meth.sig.returnType = ret) (hlocks : meth.locks = false) : ∀ pc (ls : ev_V) st (σ : ev_W), (pc = 705 ∧ st = [.int 1]) → ev_G p l e room_1 s m #[Value.ref b] below meth c (lw_Z below #[Value.ref b] s) pg_cl pg_lay 7 D ad ca (fun q : Nat => s.heap.size ≤ q) pc ls st σ := by
  rintro _ ls _ σ ⟨rfl, rfl⟩ H locs cells slots lsA ⟨hP, hD, hS, h1, h2⟩ hL
  refine va_forget (fun q hq => hS.2.2 q hq) ?_
  have h1 : cells + σ.2.2 ≤ 1050 := h1
  have h2 : slots + 6 * σ.2.2 ≤ 8886 := h2
  refine W.widen (k := 1050) (n := 8886) (by omega) (by omega) ?_
  exact lw_ret hx hb hr hlocks (by decide +kernel)
theorem ps_loop (hfl : l.flags = pinnedFlags ++ [noTraceFlag]) (hL : L ≤ 2560) (hx : p.tables.exec = Jvm.exec) (hb : c.code = code) (hr : meth.sig.returnType = ret) (hlocks : meth.locks = false) (hX : ev_X p l s m #[Value.ref b] c pg_TB pg_cl pg_lay (some (L, xs)) pg_F pg_mt "TicketTagLaw" code 7 D ad ca tys (fun q : Nat => s.heap.size ≤ q)) (hLs : ev_L lsA 7 ad [some (.ref 999), some (.ref 0), some (.ref 6), some (.ref 12), none, none, none]) (hI : ev_I0 room_1 s pg_cl pg_lay D ad ca (fun q : Nat => s.heap.size ≤ q) (ps_σ 1037) H locs cells slots) : W p l e room_1 s m #[Value.ref b] below meth c H locs cells slots (lw_Z below #[Value.ref b] s) (F0 m 20 lsA []) := by
  have hrun : ev_Run pg_TB pg_cl pg_lay (some (L, xs)) pg_F pg_mt [] "TicketTagLaw" code 7 10 394 (fun pc _ st _ => pc = 705 ∧ st = [.int 1]) 20 [some (.ref 999), some (.ref 0), some (.ref 6), some (.ref 12), none, none, none] [] (ps_σ 1037) := lw_R xs hL _ (ps_f _).1 (ps_ok _) (by decide)
  exact hrun p l e room_1 s m _ below meth c _ D ad ca tys _ hX (fun h hm => absurd hm List.not_mem_nil) (fun j y hy h => pg_all hfl _ j y hy (Nat.lt_succ_self _)) rfl rfl (ps_end hx hb hr hlocks) H locs cells slots lsA hI hLs
end PSL
set_option maxRecDepth 100000 in
theorem ps_q13 : (Jvm.Cond.instantiable "TicketTag$Memory" 8) ∈ pg_TB := pg_mem (by decide +kernel) rfl
set_option maxHeartbeats 4000000 in
theorem whole_start {p : Program} {e : Env} {s : State} {m : MethodId} {below : List Frame} {meth : Method} {c : Code} (l : Launch) (hfl : l.flags = pinnedFlags ++ [noTraceFlag]) {b L : Nat} {xs : Nat → Int32} (hL : L ≤ 2560) (C0 : lw_At p s m meth c b L xs) : W p l e room_1 s m #[Value.ref b] below meth c s.heap [] 0 0 (lw_Z below #[Value.ref b] s) (entryFrame m ([Value.ref b] : List Value).toArray 7) := by
  obtain ⟨hx, hb, hr, hml, hown, hts0, hX, hbl, hlocks, hgv⟩ := id C0
  have hts : ∀ w ∈ pg_TB, w.before #[Value.ref b] s = true := by
    intro w hw
    rcases List.mem_cons.mp hw with rfl | hw
    · exact flat_of_before _ hgv _ (by decide +kernel)
    · exact hts0 w (List.mem_filter.mp hw).1
  have hza : ∀ w ∈ ev_ZA, w.before #[Value.ref b] s = true := by
    intro w hw
    rcases List.mem_cons.mp hw with rfl | hw
    · exact hts0 _ (by decide +kernel)
    rcases List.mem_cons.mp hw with rfl | hw
    · exact hts0 _ (by decide +kernel)
    rcases List.mem_cons.mp hw with rfl | hw
    · exact flat_of_before _ hgv _ (by decide +kernel)
    rcases List.mem_cons.mp hw with rfl | hw
    · exact flat_of_before _ hgv _ (by decide +kernel)
    cases hw
  obtain ⟨cc0, iS0, hKn0⟩ := u_known (C := "TicketTag$Memory") (T := pg_T0) (N := 8) (n := 8) hts (pg_Clw (List.mem_of_getElem? (i := 0) rfl)) (hts _ ps_q13)
  obtain ⟨cc1, iS1, hKn1⟩ := u_known (C := "TicketTag") (T := pg_T1) (N := 6) (n := 6) hts (pg_Clw (List.mem_of_getElem? (i := 1) rfl)) (hts _ ps_q1)
  obtain ⟨cc2, iS2, hKn2⟩ := u_known (C := "TicketTagModel") (T := pg_T2) (N := 14) (n := 14) hts (pg_Clw (List.mem_of_getElem? (i := 2) rfl)) (hts _ ps_q7)
  obtain ⟨D, hKc⟩ : ∃ D : va_G, ∀ (k : Nat) (q : vw_C), pg_cl[k]? = some q → u_Kn s q.1 q.2.1 q.2.2 (D.1 k) (D.2 k) := by
    refine ⟨(fun k => if k = 0 then cc0 else if k = 1 then cc1 else cc2, fun k => if k = 0 then iS0 else if k = 1 then iS1 else iS2), ?_⟩
    intro k q hq
    match k, hq with
    | 0, hq => cases hq; exact hKn0
    | 1, hq => cases hq; exact hKn1
    | 2, hq => cases hq; exact hKn2
    | k + 3, hq => cases hq
  have hA : ∀ q : Nat, s.heap.size ≤ q → (fun q : Nat => s.heap.size ≤ q) q := fun _ h => h
  have hS : va_S (fun q : Nat => s.heap.size ≤ q) s.heap s.heap [] := va_S.rf
  have hK : va_K D pg_cl [] s := ⟨hKc, fun k q h => by simp at h⟩
  have hP : va_P D pg_cl [] s.heap := fun k q h => by simp at h
  have hD : va_D (fun q : Nat => s.heap.size ≤ q) [] := ⟨fun i j p q h => by simp at h, fun k q h => by simp at h⟩
  have hl := lv_entry ([.ref b]) (n := 7) (Nat.le_of_ble_eq_true rfl)
  rw [lg_entry_eq]
  generalize (lg_sl ([.ref b]) ++ List.replicate (7 - (lg_sl ([.ref b])).length) Slot.unset).toArray = ls at hl ⊢
  have hl : lv_has ls 7 [(0, .ref b)] := hl
  refine va_new (D := D) (A := fun q : Nat => s.heap.size ≤ q) (ci := 1) (fs := [.null, .null, .null, .int 0, .int 0, .int 0]) (C := "TicketTag") (T := pg_T1) (N := 6) hx hb hts (pg_Clw (List.mem_of_getElem? (i := 1) rfl)) pg_ty1 pg_tok1 hown (hts _ ps_q0) (hts _ ps_q1) (hts _ ps_q2) hK hP hD hS hA rfl (fun j hj => by rcases (show j = 0 ∨ j = 1 ∨ j = 2 ∨ j = 3 ∨ j = 4 ∨ j = 5 by omega) with rfl | rfl | rfl | rfl | rfl | rfl <;> rfl) (Nat.le_of_ble_eq_true rfl) (Nat.le_of_ble_eq_true rfl) (show decode code 0 = .ok (.new 8, 3) by decide +kernel) (fun h0 H hP hD hS => ?_)
  have hP : va_P D pg_cl [(h0, .inr (1, [.null, .null, .null, .int 0, .int 0, .int 0]))] H := hP
  have hD : va_D (fun q : Nat => s.heap.size ≤ q) [(h0, .inr (1, [.null, .null, .null, .int 0, .int 0, .int 0]))] := hD
  refine lv_dup hx hb (show decode code 3 = .ok (.dup, 1) by decide +kernel) rfl ?_
  refine ev_newC (y := ⟨"TicketTag", "<init>", "()V"⟩) (wr := []) (pi_T l) hx hown hts (Or.inl ps_q3) ps_q4 ps_q2 ps_q5 rfl (by decide) (by decide +kernel) (Nat.le_of_ble_eq_true rfl) (Nat.le_of_ble_eq_true rfl) (Nat.le_of_ble_eq_true rfl) (Nat.le_of_ble_eq_true rfl) (by rw [hml]; exact hl.1) hb (show decode code 4 = .ok (.invokespecial 49, 3) by decide +kernel) (Nat.le_of_ble_eq_true rfl) hK hP hD hS hA 0 [] rfl rfl (by decide) (by decide) (fun w1 tys1 H locs hWd hK hP hD hS => ?_)
  obtain ⟨q0, q1, c1, q2, c2, q3, c3, q4, c4, rfl, rfl⟩ := hWd
  have hP : va_P D pg_cl [(h0, .inr (1, [.ref q0, .ref q3, .ref q4, .int 0, .int (-1), .int 0])), (q0, .inr (0, [.ref q1, .ref q2, .int 0, .int 0, .int 0, .int 0, .int 0, .int 0])), (q1, .inl (c1, 256, .inl (fun _ => 0))), (q2, .inl (c2, 7, .inl (fun _ => 0))), (q3, .inl (c3, 12, .inl (fun _ => 0))), (q4, .inl (c4, 12, .inl (fun _ => 0)))] H := hP
  have hD : va_D (fun q : Nat => s.heap.size ≤ q) [(h0, .inr (1, [.ref q0, .ref q3, .ref q4, .int 0, .int (-1), .int 0])), (q0, .inr (0, [.ref q1, .ref q2, .int 0, .int 0, .int 0, .int 0, .int 0, .int 0])), (q1, .inl (c1, 256, .inl (fun _ => 0))), (q2, .inl (c2, 7, .inl (fun _ => 0))), (q3, .inl (c3, 12, .inl (fun _ => 0))), (q4, .inl (c4, 12, .inl (fun _ => 0)))] := hD
  have hK : va_K D pg_cl [(c1, .int), (c2, .int), (c3, .int), (c4, .boolean)] s := hK
  refine lv_astore_n (lv' := [(1, .ref h0), (0, .ref b)]) hx hb (show decode code 7 = .ok (.astore_n 1, 1) by decide +kernel) rfl hl (by decide) rfl (fun ls hl => ?_)
  refine va_new (D := D) (A := fun q : Nat => s.heap.size ≤ q) (ci := 2) (fs := [.int 0, .null, .null, .null, .null, .int 0, .int 0, .int 0, .int 0, .int 0, .int 0, .int 0, .int 0, .null]) (C := "TicketTagModel") (T := pg_T2) (N := 14) hx hb hts (pg_Clw (List.mem_of_getElem? (i := 2) rfl)) pg_ty2 pg_tok2 hown (hts _ ps_q6) (hts _ ps_q7) (hts _ ps_q8) hK hP hD hS hA rfl (fun j hj => by rcases (show j = 0 ∨ j = 1 ∨ j = 2 ∨ j = 3 ∨ j = 4 ∨ j = 5 ∨ j = 6 ∨ j = 7 ∨ j = 8 ∨ j = 9 ∨ j = 10 ∨ j = 11 ∨ j = 12 ∨ j = 13 by omega) with rfl | rfl | rfl | rfl | rfl | rfl | rfl | rfl | rfl | rfl | rfl | rfl | rfl | rfl <;> rfl) (Nat.le_of_ble_eq_true rfl) (Nat.le_of_ble_eq_true rfl) (show decode code 8 = .ok (.new 50, 3) by decide +kernel) (fun g0 H hP hD hS => ?_)
  have hP : va_P D pg_cl [(h0, .inr (1, [.ref q0, .ref q3, .ref q4, .int 0, .int (-1), .int 0])), (q0, .inr (0, [.ref q1, .ref q2, .int 0, .int 0, .int 0, .int 0, .int 0, .int 0])), (q1, .inl (c1, 256, .inl (fun _ => 0))), (q2, .inl (c2, 7, .inl (fun _ => 0))), (q3, .inl (c3, 12, .inl (fun _ => 0))), (q4, .inl (c4, 12, .inl (fun _ => 0))), (g0, .inr (2, [.int 0, .null, .null, .null, .null, .int 0, .int 0, .int 0, .int 0, .int 0, .int 0, .int 0, .int 0, .null]))] H := hP
  have hD : va_D (fun q : Nat => s.heap.size ≤ q) [(h0, .inr (1, [.ref q0, .ref q3, .ref q4, .int 0, .int (-1), .int 0])), (q0, .inr (0, [.ref q1, .ref q2, .int 0, .int 0, .int 0, .int 0, .int 0, .int 0])), (q1, .inl (c1, 256, .inl (fun _ => 0))), (q2, .inl (c2, 7, .inl (fun _ => 0))), (q3, .inl (c3, 12, .inl (fun _ => 0))), (q4, .inl (c4, 12, .inl (fun _ => 0))), (g0, .inr (2, [.int 0, .null, .null, .null, .null, .int 0, .int 0, .int 0, .int 0, .int 0, .int 0, .int 0, .int 0, .null]))] := hD
  refine lv_dup hx hb (show decode code 11 = .ok (.dup, 1) by decide +kernel) rfl ?_
  refine ev_newC (y := ⟨"TicketTagModel", "<init>", "()V"⟩) (wr := [(h0, .inr (1, [.ref q0, .ref q3, .ref q4, .int 0, .int (-1), .int 0])), (q0, .inr (0, [.ref q1, .ref q2, .int 0, .int 0, .int 0, .int 0, .int 0, .int 0])), (q1, .inl (c1, 256, .inl (fun _ => 0))), (q2, .inl (c2, 7, .inl (fun _ => 0))), (q3, .inl (c3, 12, .inl (fun _ => 0))), (q4, .inl (c4, 12, .inl (fun _ => 0)))]) (pi_R l) hx hown hts (Or.inl ps_q9) ps_q10 ps_q8 ps_q11 rfl (by decide) (by decide +kernel) (Nat.le_of_ble_eq_true rfl) (Nat.le_of_ble_eq_true rfl) (Nat.le_of_ble_eq_true rfl) (Nat.le_of_ble_eq_true rfl) (by rw [hml]; exact hl.1) hb (show decode code 12 = .ok (.invokespecial 52, 3) by decide +kernel) (Nat.le_of_ble_eq_true rfl) hK hP hD hS hA 6 [0, 1, 2, 3, 4, 5] rfl rfl (by decide) (by decide) (fun w1 tys1 H locs hWd hK hP hD hS => ?_)
  obtain ⟨g1, d1, g2, d2, g3, d3, g4, d4, g5, d5, rfl, rfl⟩ := hWd
  have hP : va_P D pg_cl [(h0, .inr (1, [.ref q0, .ref q3, .ref q4, .int 0, .int (-1), .int 0])), (q0, .inr (0, [.ref q1, .ref q2, .int 0, .int 0, .int 0, .int 0, .int 0, .int 0])), (q1, .inl (c1, 256, .inl (fun _ => 0))), (q2, .inl (c2, 7, .inl (fun _ => 0))), (q3, .inl (c3, 12, .inl (fun _ => 0))), (q4, .inl (c4, 12, .inl (fun _ => 0))), (g0, .inr (2, [.int 0, .ref g1, .ref g2, .ref g3, .ref g4, .int (-1), .int 0, .int 0, .int (-1), .int 0, .int 0, .int 0, .int 0, .ref g5])), (g1, .inl (d1, 256, .inl (fun _ => 0))), (g2, .inl (d2, 12, .inl (fun _ => 0))), (g3, .inl (d3, 12, .inl (fun _ => 0))), (g4, .inl (d4, 12, .inl (fun _ => 0))), (g5, .inl (d5, 8, .inl (fun _ => 0)))] H := hP
  have hD : va_D (fun q : Nat => s.heap.size ≤ q) [(h0, .inr (1, [.ref q0, .ref q3, .ref q4, .int 0, .int (-1), .int 0])), (q0, .inr (0, [.ref q1, .ref q2, .int 0, .int 0, .int 0, .int 0, .int 0, .int 0])), (q1, .inl (c1, 256, .inl (fun _ => 0))), (q2, .inl (c2, 7, .inl (fun _ => 0))), (q3, .inl (c3, 12, .inl (fun _ => 0))), (q4, .inl (c4, 12, .inl (fun _ => 0))), (g0, .inr (2, [.int 0, .ref g1, .ref g2, .ref g3, .ref g4, .int (-1), .int 0, .int 0, .int (-1), .int 0, .int 0, .int 0, .int 0, .ref g5])), (g1, .inl (d1, 256, .inl (fun _ => 0))), (g2, .inl (d2, 12, .inl (fun _ => 0))), (g3, .inl (d3, 12, .inl (fun _ => 0))), (g4, .inl (d4, 12, .inl (fun _ => 0))), (g5, .inl (d5, 8, .inl (fun _ => 0)))] := hD
  have hK : va_K D pg_cl [(c1, .int), (c2, .int), (c3, .int), (c4, .boolean), (d1, .int), (d2, .int), (d3, .int), (d4, .boolean), (d5, .int)] s := hK
  refine lv_astore_n (lv' := [(2, .ref g0), (1, .ref h0), (0, .ref b)]) hx hb (show decode code 15 = .ok (.astore_n 2, 1) by decide +kernel) rfl hl (by decide) rfl (fun ls hl => ?_)
  refine lv_iconst (v := 1) hx hb (show decode code 16 = .ok (.iconst 1, 1) by decide +kernel) (by decide) ?_
  refine va_newa (atype := .long) (D := D) (A := fun q : Nat => s.heap.size ≤ q) (ty := .long) (n := 1) (N' := 1) (a0 := (1, .inr (.inl (fun _ => 0)))) hx hb (hts _ ps_q12) rfl hK hP hD hS hA (fun cA => rfl) (by decide) (by decide) (by decide) (Nat.le_of_ble_eq_true rfl) (Nat.le_of_ble_eq_true rfl) (show decode code 17 = .ok (.newarray .long, 2) by decide +kernel) (fun r0 e1 H hK hP hD hS => ?_)
  refine lv_astore_n (lv' := [(3, .ref r0), (2, .ref g0), (1, .ref h0), (0, .ref b)]) hx hb (show decode code 19 = .ok (.astore_n 3, 1) by decide +kernel) rfl hl (by decide) rfl (fun ls hl => ?_)
  have hK : va_K D pg_cl (ps_tys c1 c2 c3 c4 d1 d2 d3 d4 d5 e1) s := hK
  have hP : va_P D pg_cl (ev_ws (ps_ad b h0 q0 q1 q2 q3 q4 g0 g1 g2 g3 g4 g5 r0) (ps_ca c1 c2 c3 c4 d1 d2 d3 d4 d5 e1) pg_lay (ps_σ 1037)) H := hP.sub [0, 1, 4, 5, 2, 3, 6, 7, 8, 9, 10, 11, 12] rfl
  have hD : va_D (fun q : Nat => s.heap.size ≤ q) (ev_ws (ps_ad b h0 q0 q1 q2 q3 q4 g0 g1 g2 g3 g4 g5 r0) (ps_ca c1 c2 c3 c4 d1 d2 d3 d4 d5 e1) pg_lay (ps_σ 1037)) := hD.sub [0, 1, 4, 5, 2, 3, 6, 7, 8, 9, 10, 11, 12] (by decide) rfl
  have hX2 : ev_X p l s m #[Value.ref b] c pg_TB pg_cl pg_lay (some (L, xs)) pg_F pg_mt "TicketTagLaw" code 7 D (ps_ad b h0 q0 q1 q2 q3 q4 g0 g1 g2 g3 g4 g5 r0) (ps_ca c1 c2 c3 c4 d1 d2 d3 d4 d5 e1) (ps_tys c1 c2 c3 c4 d1 d2 d3 d4 d5 e1) (fun q : Nat => s.heap.size ≤ q) := ⟨hx, hb, hml, hown, hts, pg_tb, pg_Cl, hK, ps_Ty _ _ _ _ _ _ _ _ _ _, hA, ev_Z.of (fun q h1 h2 => absurd h1 (Nat.not_lt.mpr h2)) hza, fun L2 xs2 h2 => by cases h2; exact ⟨hX, hbl, Nat.not_le.mpr hbl⟩⟩
  have hL2 : ev_L ls 7 (ps_ad b h0 q0 q1 q2 q3 q4 g0 g1 g2 g3 g4 g5 r0) [some (.ref 999), some (.ref 0), some (.ref 6), some (.ref 12), none, none, none] := ps_L hl
  refine ps_loop hfl hL hx hb hr hlocks hX2 hL2 ⟨hP, hD, hS, ?_, ?_⟩
  · decide
  · decide
