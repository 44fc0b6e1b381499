/-! THE CONSTRUCTORS (laid by wip/gen/ctor.py) -/
theorem pg_tok0 : ∀ k, k < 8 → parseFieldDescriptor (pg_T0 k).2.2.1 = some (pg_ty0 k) := fun k hk => of_decide_eq_true (List.all_eq_true.mp pg_tyb0 k (List.mem_range.mpr hk))
theorem pg_nap0 : ∀ a, a < 8 → ∀ b, b < 8 → a ≠ b → (pg_T0 a).2.1 ≠ (pg_T0 b).2.1 := fun a ha b hb hab => by
  have := List.all_eq_true.mp (List.all_eq_true.mp pg_apb0 a (List.mem_range.mpr ha)) b (List.mem_range.mpr hb)
  simpa [hab] using this
theorem pg_tok1 : ∀ k, k < 6 → parseFieldDescriptor (pg_T1 k).2.2.1 = some (pg_ty1 k) := fun k hk => of_decide_eq_true (List.all_eq_true.mp pg_tyb1 k (List.mem_range.mpr hk))
theorem pg_nap1 : ∀ a, a < 6 → ∀ b, b < 6 → a ≠ b → (pg_T1 a).2.1 ≠ (pg_T1 b).2.1 := fun a ha b hb hab => by
  have := List.all_eq_true.mp (List.all_eq_true.mp pg_apb1 a (List.mem_range.mpr ha)) b (List.mem_range.mpr hb)
  simpa [hab] using this
theorem pg_tok2 : ∀ k, k < 14 → parseFieldDescriptor (pg_T2 k).2.2.1 = some (pg_ty2 k) := fun k hk => of_decide_eq_true (List.all_eq_true.mp pg_tyb2 k (List.mem_range.mpr hk))
theorem pg_nap2 : ∀ a, a < 14 → ∀ b, b < 14 → a ≠ b → (pg_T2 a).2.1 ≠ (pg_T2 b).2.1 := fun a ha b hb hab => by
  have := List.all_eq_true.mp (List.all_eq_true.mp pg_apb2 a (List.mem_range.mpr ha)) b (List.mem_range.mpr hb)
  simpa [hab] using this
set_option maxRecDepth 100000 in
theorem pi_q0 : (Jvm.Cond.methodLink "TicketTag$Memory" 3 objectInit) ∈ pg_TB := pg_mem (by decide +kernel) rfl
set_option maxRecDepth 100000 in
theorem pi_q1 : (Jvm.Cond.instanceMethod objectInit) ∈ pg_TB := pg_mem (by decide +kernel) rfl
set_option maxRecDepth 100000 in
theorem pi_q2 : (Jvm.Cond.code objectInit ⟨#[0xb1]⟩ 1 none) ∈ pg_TB := pg_mem (by decide +kernel) rfl
set_option maxRecDepth 100000 in
theorem pi_q3 : (Jvm.Cond.arrayClass .int) ∈ pg_TB := pg_mem (by decide +kernel) rfl
set_option maxRecDepth 100000 in
theorem pi_q4 : (Jvm.Cond.fieldLink "TicketTag$Memory" 11 "TicketTag$Memory" "words" "[I") ∈ pg_TB := pg_mem (by decide +kernel) rfl
set_option maxRecDepth 100000 in
theorem pi_q5 : (Jvm.Cond.fieldLink "TicketTag$Memory" 15 "TicketTag$Memory" "draft" "[I") ∈ pg_TB := pg_mem (by decide +kernel) rfl
set_option maxRecDepth 100000 in
theorem pi_q6 : (Jvm.Cond.fieldLink "TicketTag$Memory" 18 "TicketTag$Memory" "written" "I") ∈ pg_TB := pg_mem (by decide +kernel) rfl
set_option maxRecDepth 100000 in
theorem pi_q7 : (Jvm.Cond.fieldLink "TicketTag$Memory" 22 "TicketTag$Memory" "tears" "I") ∈ pg_TB := pg_mem (by decide +kernel) rfl
set_option maxRecDepth 100000 in
theorem pi_q8 : (Jvm.Cond.fieldLink "TicketTag$Memory" 25 "TicketTag$Memory" "near" "Z") ∈ pg_TB := pg_mem (by decide +kernel) rfl
set_option maxRecDepth 100000 in
theorem pi_q9 : (Jvm.Cond.fieldLink "TicketTag$Memory" 29 "TicketTag$Memory" "tearing" "Z") ∈ pg_TB := pg_mem (by decide +kernel) rfl
set_option maxRecDepth 100000 in
theorem pi_q10 : (Jvm.Cond.fieldLink "TicketTag$Memory" 32 "TicketTag$Memory" "wordsBeforeTear" "I") ∈ pg_TB := pg_mem (by decide +kernel) rfl
set_option maxRecDepth 100000 in
theorem pi_q11 : (Jvm.Cond.fieldLink "TicketTag$Memory" 35 "TicketTag$Memory" "junk" "I") ∈ pg_TB := pg_mem (by decide +kernel) rfl
def pi_WM : Nat → va_W → List (ClassId × FieldType) → Prop := fun h0 ws tys => ∃ (q1 : Nat) (c1 : ClassId) (q2 : Nat) (c2 : ClassId), ws = [(h0, .inr (0, [.ref q1, .ref q2, .int 0, .int 0, .int 0, .int 0, .int 0, .int 0])), (q1, .inl (c1, 256, .inl (fun _ => 0))), (q2, .inl (c2, 7, .inl (fun _ => 0)))] ∧ tys = [(c1, .int), (c2, .int)]
set_option maxHeartbeats 4000000 in
theorem pi_M (l : Launch) : ev_CM l ⟨"TicketTag$Memory", "<init>", "()V"⟩ prog_2_method_1_code 1 12 2 263 (.inr (0, [.null, .null, .int 0, .int 0, .int 0, .int 0, .int 0, .int 0])) pi_WM := by
  intro D h0 sz
  refine ec_ofW (cc := prog_2_method_1_code) (maxL := 1) (ret := none) (by decide +kernel) (Or.inl rfl) ?_
  intro p e s m args below meth c s₁ B hml hPc
  obtain ⟨rfl, hsz, hP, hK, hD0, hnw⟩ := hPc
  have hx := B.exec
  have hb := B.bytes
  have hr := B.returns
  have hts : ∀ w ∈ pg_TB, w.before #[Value.ref h0] s = true := fun w hw => pg_tb w hw _ _ s s (State.WarmedH.refl s) (hnw w hw)
  have hown : s.vm.findClass "TicketTag$Memory" = some m.cls := findClass_of_methodNamed B.named
  have hin : meth.name = "<init>" := (name_of_methodNamed B.named B.method).1
  subst hsz
  have hD := hD0.self (sz := s.heap.size)
  generalize hAe : va_A [(h0, .inr (0, [.null, .null, .int 0, .int 0, .int 0, .int 0, .int 0, .int 0]))] s.heap.size = A at hD ⊢
  have hA : ∀ q : Nat, s.heap.size ≤ q → A q := fun q h => by rw [← hAe]; exact Or.inr h
  have hS : va_S A s.heap s.heap [] := va_S.rf
  have hl := lv_entry ([.ref h0]) (n := 1) (Nat.le_of_ble_eq_true rfl)
  rw [lg_entry_eq]
  generalize (lg_sl ([.ref h0]) ++ List.replicate (1 - (lg_sl ([.ref h0])).length) Slot.unset).toArray = ls at hl ⊢
  have hl : lv_has ls 1 [(0, .ref h0)] := hl
  refine lv_aload_n hx hb (show decode prog_2_method_1_code 0 = .ok (.aload_n 0, 1) by decide +kernel) rfl (lv_at hl 0 rfl) ?_
  refine W.objInit hx hb hown (hts _ pi_q0) (hts _ pi_q1) (hts _ pi_q2) rfl (by rw [hml]; exact hl.1) rfl (show decode prog_2_method_1_code 1 = .ok (.invokespecial 3, 3) by decide +kernel) (Nat.le_of_ble_eq_true rfl) (Nat.le_of_ble_eq_true rfl) ?_
  refine W.eq (g2 := F0 m 4 ls []) rfl ?_
  refine lv_aload_n hx hb (show decode prog_2_method_1_code 4 = .ok (.aload_n 0, 1) by decide +kernel) rfl (lv_at hl 0 rfl) ?_
  refine lv_sipush (v := 256) hx hb (show decode prog_2_method_1_code 5 = .ok (.sipush 256, 3) by decide +kernel) (by decide) ?_
  refine va_newa (atype := .int) (D := D) (A := A) (ty := .int) (n := 256) (N' := 256) (a0 := (256, .inl (fun _ => 0))) hx hb (hts _ pi_q3) rfl hK hP hD hS hA (fun cA => rfl) (by decide) (by decide) (by decide) (Nat.le_of_ble_eq_true rfl) (Nat.le_of_ble_eq_true rfl) (show decode prog_2_method_1_code 8 = .ok (.newarray .int, 2) by decide +kernel) (fun q1 c1 H hK hP hD hS => ?_)
  have hK : va_K D pg_cl [(c1, .int)] s := hK
  have hP : va_P D pg_cl [(h0, .inr (0, [.null, .null, .int 0, .int 0, .int 0, .int 0, .int 0, .int 0])), (q1, .inl (c1, 256, .inl (fun _ => 0)))] H := hP
  have hD : va_D A [(h0, .inr (0, [.null, .null, .int 0, .int 0, .int 0, .int 0, .int 0, .int 0])), (q1, .inl (c1, 256, .inl (fun _ => 0)))] := hD
  refine va_putF (D := D) (A := A) (ci := 0) (v := .ref q1) (ty := .array .int) (C := "TicketTag$Memory") (T := pg_T0) (N := 8) hx hb hts (pg_Clw (List.mem_of_getElem? (i := 0) rfl)) pg_ty0 pg_tok0 pg_nap0 hown hK hP hD hS 0 rfl rfl 0 (by decide) (hts _ pi_q4) (fun _ h9 => h9) rfl hin rfl (by decide +kernel) rfl rfl (Nat.le_of_ble_eq_true rfl) (show decode prog_2_method_1_code 10 = .ok (.putfield 11, 3) by decide +kernel) (fun H locs hP hD hS => ?_)
  have hP : va_P D pg_cl [(h0, .inr (0, [.ref q1, .null, .int 0, .int 0, .int 0, .int 0, .int 0, .int 0])), (q1, .inl (c1, 256, .inl (fun _ => 0)))] H := hP
  have hD : va_D A [(h0, .inr (0, [.ref q1, .null, .int 0, .int 0, .int 0, .int 0, .int 0, .int 0])), (q1, .inl (c1, 256, .inl (fun _ => 0)))] := hD
  refine lv_aload_n hx hb (show decode prog_2_method_1_code 13 = .ok (.aload_n 0, 1) by decide +kernel) rfl (lv_at hl 0 rfl) ?_
  refine lv_bipush (v := 7) hx hb (show decode prog_2_method_1_code 14 = .ok (.bipush 7, 2) by decide +kernel) (by decide) ?_
  refine va_newa (atype := .int) (D := D) (A := A) (ty := .int) (n := 7) (N' := 7) (a0 := (7, .inl (fun _ => 0))) hx hb (hts _ pi_q3) rfl hK hP hD hS hA (fun cA => rfl) (by decide) (by decide) (by decide) (Nat.le_of_ble_eq_true rfl) (Nat.le_of_ble_eq_true rfl) (show decode prog_2_method_1_code 16 = .ok (.newarray .int, 2) by decide +kernel) (fun q2 c2 H hK hP hD hS => ?_)
  have hK : va_K D pg_cl [(c1, .int), (c2, .int)] s := hK
  have hP : va_P D pg_cl [(h0, .inr (0, [.ref q1, .null, .int 0, .int 0, .int 0, .int 0, .int 0, .int 0])), (q1, .inl (c1, 256, .inl (fun _ => 0))), (q2, .inl (c2, 7, .inl (fun _ => 0)))] H := hP
  have hD : va_D A [(h0, .inr (0, [.ref q1, .null, .int 0, .int 0, .int 0, .int 0, .int 0, .int 0])), (q1, .inl (c1, 256, .inl (fun _ => 0))), (q2, .inl (c2, 7, .inl (fun _ => 0)))] := hD
  refine va_putF (D := D) (A := A) (ci := 0) (v := .ref q2) (ty := .array .int) (C := "TicketTag$Memory") (T := pg_T0) (N := 8) hx hb hts (pg_Clw (List.mem_of_getElem? (i := 0) rfl)) pg_ty0 pg_tok0 pg_nap0 hown hK hP hD hS 0 rfl rfl 1 (by decide) (hts _ pi_q5) (fun _ h9 => h9) rfl hin rfl (by decide +kernel) rfl rfl (Nat.le_of_ble_eq_true rfl) (show decode prog_2_method_1_code 18 = .ok (.putfield 15, 3) by decide +kernel) (fun H locs hP hD hS => ?_)
  have hP : va_P D pg_cl [(h0, .inr (0, [.ref q1, .ref q2, .int 0, .int 0, .int 0, .int 0, .int 0, .int 0])), (q1, .inl (c1, 256, .inl (fun _ => 0))), (q2, .inl (c2, 7, .inl (fun _ => 0)))] H := hP
  have hD : va_D A [(h0, .inr (0, [.ref q1, .ref q2, .int 0, .int 0, .int 0, .int 0, .int 0, .int 0])), (q1, .inl (c1, 256, .inl (fun _ => 0))), (q2, .inl (c2, 7, .inl (fun _ => 0)))] := hD
  refine lv_aload_n hx hb (show decode prog_2_method_1_code 21 = .ok (.aload_n 0, 1) by decide +kernel) rfl (lv_at hl 0 rfl) ?_
  refine lv_iconst (v := 0) hx hb (show decode prog_2_method_1_code 22 = .ok (.iconst (0), 1) by decide +kernel) (by decide) ?_
  refine va_put (D := D) (A := A) (ci := 0) (v := .int 0) (ty := .int) (C := "TicketTag$Memory") (T := pg_T0) (N := 8) hx hb hts (pg_Clw (List.mem_of_getElem? (i := 0) rfl)) pg_ty0 pg_tok0 pg_nap0 hown hK hP hD hS 0 rfl rfl 2 (by decide) (hts _ pi_q6) (fun _ h9 => h9) rfl (by decide +kernel) rfl rfl (Nat.le_of_ble_eq_true rfl) (show decode prog_2_method_1_code 23 = .ok (.putfield 18, 3) by decide +kernel) (fun H locs hP hD hS => ?_)
  have hP : va_P D pg_cl [(h0, .inr (0, [.ref q1, .ref q2, .int 0, .int 0, .int 0, .int 0, .int 0, .int 0])), (q1, .inl (c1, 256, .inl (fun _ => 0))), (q2, .inl (c2, 7, .inl (fun _ => 0)))] H := hP
  have hD : va_D A [(h0, .inr (0, [.ref q1, .ref q2, .int 0, .int 0, .int 0, .int 0, .int 0, .int 0])), (q1, .inl (c1, 256, .inl (fun _ => 0))), (q2, .inl (c2, 7, .inl (fun _ => 0)))] := hD
  refine lv_aload_n hx hb (show decode prog_2_method_1_code 26 = .ok (.aload_n 0, 1) by decide +kernel) rfl (lv_at hl 0 rfl) ?_
  refine lv_iconst (v := 0) hx hb (show decode prog_2_method_1_code 27 = .ok (.iconst (0), 1) by decide +kernel) (by decide) ?_
  refine va_put (D := D) (A := A) (ci := 0) (v := .int 0) (ty := .int) (C := "TicketTag$Memory") (T := pg_T0) (N := 8) hx hb hts (pg_Clw (List.mem_of_getElem? (i := 0) rfl)) pg_ty0 pg_tok0 pg_nap0 hown hK hP hD hS 0 rfl rfl 3 (by decide) (hts _ pi_q7) (fun _ h9 => h9) rfl (by decide +kernel) rfl rfl (Nat.le_of_ble_eq_true rfl) (show decode prog_2_method_1_code 28 = .ok (.putfield 22, 3) by decide +kernel) (fun H locs hP hD hS => ?_)
  have hP : va_P D pg_cl [(h0, .inr (0, [.ref q1, .ref q2, .int 0, .int 0, .int 0, .int 0, .int 0, .int 0])), (q1, .inl (c1, 256, .inl (fun _ => 0))), (q2, .inl (c2, 7, .inl (fun _ => 0)))] H := hP
  have hD : va_D A [(h0, .inr (0, [.ref q1, .ref q2, .int 0, .int 0, .int 0, .int 0, .int 0, .int 0])), (q1, .inl (c1, 256, .inl (fun _ => 0))), (q2, .inl (c2, 7, .inl (fun _ => 0)))] := hD
  refine lv_aload_n hx hb (show decode prog_2_method_1_code 31 = .ok (.aload_n 0, 1) by decide +kernel) rfl (lv_at hl 0 rfl) ?_
  refine lv_iconst (v := 0) hx hb (show decode prog_2_method_1_code 32 = .ok (.iconst (0), 1) by decide +kernel) (by decide) ?_
  refine va_put (D := D) (A := A) (ci := 0) (v := .int 0) (ty := .boolean) (C := "TicketTag$Memory") (T := pg_T0) (N := 8) hx hb hts (pg_Clw (List.mem_of_getElem? (i := 0) rfl)) pg_ty0 pg_tok0 pg_nap0 hown hK hP hD hS 0 rfl rfl 4 (by decide) (hts _ pi_q8) (fun _ h9 => h9) rfl (by decide +kernel) rfl rfl (Nat.le_of_ble_eq_true rfl) (show decode prog_2_method_1_code 33 = .ok (.putfield 25, 3) by decide +kernel) (fun H locs hP hD hS => ?_)
  have hP : va_P D pg_cl [(h0, .inr (0, [.ref q1, .ref q2, .int 0, .int 0, .int 0, .int 0, .int 0, .int 0])), (q1, .inl (c1, 256, .inl (fun _ => 0))), (q2, .inl (c2, 7, .inl (fun _ => 0)))] H := hP
  have hD : va_D A [(h0, .inr (0, [.ref q1, .ref q2, .int 0, .int 0, .int 0, .int 0, .int 0, .int 0])), (q1, .inl (c1, 256, .inl (fun _ => 0))), (q2, .inl (c2, 7, .inl (fun _ => 0)))] := hD
  refine lv_aload_n hx hb (show decode prog_2_method_1_code 36 = .ok (.aload_n 0, 1) by decide +kernel) rfl (lv_at hl 0 rfl) ?_
  refine lv_iconst (v := 0) hx hb (show decode prog_2_method_1_code 37 = .ok (.iconst (0), 1) by decide +kernel) (by decide) ?_
  refine va_put (D := D) (A := A) (ci := 0) (v := .int 0) (ty := .boolean) (C := "TicketTag$Memory") (T := pg_T0) (N := 8) hx hb hts (pg_Clw (List.mem_of_getElem? (i := 0) rfl)) pg_ty0 pg_tok0 pg_nap0 hown hK hP hD hS 0 rfl rfl 5 (by decide) (hts _ pi_q9) (fun _ h9 => h9) rfl (by decide +kernel) rfl rfl (Nat.le_of_ble_eq_true rfl) (show decode prog_2_method_1_code 38 = .ok (.putfield 29, 3) by decide +kernel) (fun H locs hP hD hS => ?_)
  have hP : va_P D pg_cl [(h0, .inr (0, [.ref q1, .ref q2, .int 0, .int 0, .int 0, .int 0, .int 0, .int 0])), (q1, .inl (c1, 256, .inl (fun _ => 0))), (q2, .inl (c2, 7, .inl (fun _ => 0)))] H := hP
  have hD : va_D A [(h0, .inr (0, [.ref q1, .ref q2, .int 0, .int 0, .int 0, .int 0, .int 0, .int 0])), (q1, .inl (c1, 256, .inl (fun _ => 0))), (q2, .inl (c2, 7, .inl (fun _ => 0)))] := hD
  refine lv_aload_n hx hb (show decode prog_2_method_1_code 41 = .ok (.aload_n 0, 1) by decide +kernel) rfl (lv_at hl 0 rfl) ?_
  refine lv_iconst (v := 0) hx hb (show decode prog_2_method_1_code 42 = .ok (.iconst (0), 1) by decide +kernel) (by decide) ?_
  refine va_put (D := D) (A := A) (ci := 0) (v := .int 0) (ty := .int) (C := "TicketTag$Memory") (T := pg_T0) (N := 8) hx hb hts (pg_Clw (List.mem_of_getElem? (i := 0) rfl)) pg_ty0 pg_tok0 pg_nap0 hown hK hP hD hS 0 rfl rfl 6 (by decide) (hts _ pi_q10) (fun _ h9 => h9) rfl (by decide +kernel) rfl rfl (Nat.le_of_ble_eq_true rfl) (show decode prog_2_method_1_code 43 = .ok (.putfield 32, 3) by decide +kernel) (fun H locs hP hD hS => ?_)
  have hP : va_P D pg_cl [(h0, .inr (0, [.ref q1, .ref q2, .int 0, .int 0, .int 0, .int 0, .int 0, .int 0])), (q1, .inl (c1, 256, .inl (fun _ => 0))), (q2, .inl (c2, 7, .inl (fun _ => 0)))] H := hP
  have hD : va_D A [(h0, .inr (0, [.ref q1, .ref q2, .int 0, .int 0, .int 0, .int 0, .int 0, .int 0])), (q1, .inl (c1, 256, .inl (fun _ => 0))), (q2, .inl (c2, 7, .inl (fun _ => 0)))] := hD
  refine lv_aload_n hx hb (show decode prog_2_method_1_code 46 = .ok (.aload_n 0, 1) by decide +kernel) rfl (lv_at hl 0 rfl) ?_
  refine lv_iconst (v := 0) hx hb (show decode prog_2_method_1_code 47 = .ok (.iconst (0), 1) by decide +kernel) (by decide) ?_
  refine va_put (D := D) (A := A) (ci := 0) (v := .int 0) (ty := .int) (C := "TicketTag$Memory") (T := pg_T0) (N := 8) hx hb hts (pg_Clw (List.mem_of_getElem? (i := 0) rfl)) pg_ty0 pg_tok0 pg_nap0 hown hK hP hD hS 0 rfl rfl 7 (by decide) (hts _ pi_q11) (fun _ h9 => h9) rfl (by decide +kernel) rfl rfl (Nat.le_of_ble_eq_true rfl) (show decode prog_2_method_1_code 48 = .ok (.putfield 35, 3) by decide +kernel) (fun H locs hP hD hS => ?_)
  have hP : va_P D pg_cl [(h0, .inr (0, [.ref q1, .ref q2, .int 0, .int 0, .int 0, .int 0, .int 0, .int 0])), (q1, .inl (c1, 256, .inl (fun _ => 0))), (q2, .inl (c2, 7, .inl (fun _ => 0)))] H := hP
  have hD : va_D A [(h0, .inr (0, [.ref q1, .ref q2, .int 0, .int 0, .int 0, .int 0, .int 0, .int 0])), (q1, .inl (c1, 256, .inl (fun _ => 0))), (q2, .inl (c2, 7, .inl (fun _ => 0)))] := hD
  refine W.widen (k := 2) (n := 263) (by decide) (by decide) ?_
  exact ec_end (W.vret hx hb hr (fun t ht hW => ⟨rfl, rfl, by rw [hAe]; exact hS.F ht, _, _, ⟨q1, c1, q2, c2, rfl, rfl⟩, by rw [ht]; exact hP, by rw [hAe]; exact hD, hK⟩) hS.2.2 (show decode prog_2_method_1_code 51 = .ok (.return_, 1) by decide +kernel))
set_option maxRecDepth 100000 in
theorem pi_q12 : (Jvm.Cond.methodLink "TicketTag" 1 objectInit) ∈ pg_TB := pg_mem (by decide +kernel) rfl
set_option maxRecDepth 100000 in
theorem pi_q13 : (Jvm.Cond.classLink "TicketTag" 7 "TicketTag$Memory") ∈ pg_TB := pg_mem (by decide +kernel) rfl
set_option maxRecDepth 100000 in
theorem pi_q14 : (Jvm.Cond.instantiable "TicketTag$Memory" 8) ∈ pg_TB := pg_mem (by decide +kernel) rfl
set_option maxRecDepth 100000 in
theorem pi_q15 : (Jvm.Cond.initialized "TicketTag$Memory") ∈ pg_TB := pg_mem (by decide +kernel) rfl
set_option maxRecDepth 100000 in
theorem pi_q16 : (Jvm.Cond.methodLinkNest "TicketTag" 9 ⟨"TicketTag$Memory", "<init>", "()V"⟩ "TicketTag") ∈ pg_TB := pg_mem (by decide +kernel) rfl
set_option maxRecDepth 100000 in
theorem pi_q17 : (Jvm.Cond.instanceMethod ⟨"TicketTag$Memory", "<init>", "()V"⟩) ∈ pg_TB := pg_mem (by decide +kernel) rfl
set_option maxRecDepth 100000 in
theorem pi_q18 : (Jvm.Cond.code ⟨"TicketTag$Memory", "<init>", "()V"⟩ prog_2_method_1_code 1 none) ∈ pg_TB := pg_mem (by decide +kernel) rfl
set_option maxRecDepth 100000 in
theorem pi_q19 : (Jvm.Cond.fieldLink "TicketTag" 10 "TicketTag" "memory" "LTicketTag$Memory;") ∈ pg_TB := pg_mem (by decide +kernel) rfl
set_option maxRecDepth 100000 in
theorem pi_q20 : (Jvm.Cond.fieldLink "TicketTag" 16 "TicketTag" "clocks" "[I") ∈ pg_TB := pg_mem (by decide +kernel) rfl
set_option maxRecDepth 100000 in
theorem pi_q21 : (Jvm.Cond.arrayClass .boolean) ∈ pg_TB := pg_mem (by decide +kernel) rfl
set_option maxRecDepth 100000 in
theorem pi_q22 : (Jvm.Cond.fieldLink "TicketTag" 20 "TicketTag" "barring" "[Z") ∈ pg_TB := pg_mem (by decide +kernel) rfl
set_option maxRecDepth 100000 in
theorem pi_q23 : (Jvm.Cond.fieldLink "TicketTag" 24 "TicketTag" "dialogueGate" "I") ∈ pg_TB := pg_mem (by decide +kernel) rfl
set_option maxRecDepth 100000 in
theorem pi_q24 : (Jvm.Cond.fieldLink "TicketTag" 28 "TicketTag" "openRecord" "I") ∈ pg_TB := pg_mem (by decide +kernel) rfl
set_option maxRecDepth 100000 in
theorem pi_q25 : (Jvm.Cond.fieldLink "TicketTag" 31 "TicketTag" "refusal" "I") ∈ pg_TB := pg_mem (by decide +kernel) rfl
def pi_WT : Nat → va_W → List (ClassId × FieldType) → Prop := fun h0 ws tys => ∃ (q0 : Nat) (q1 : Nat) (c1 : ClassId) (q2 : Nat) (c2 : ClassId) (q3 : Nat) (c3 : ClassId) (q4 : Nat) (c4 : ClassId), ws = [(h0, .inr (1, [.ref q0, .ref q3, .ref q4, .int 0, .int (-1), .int 0])), (q0, .inr (0, [.ref q1, .ref q2, .int 0, .int 0, .int 0, .int 0, .int 0, .int 0])), (q1, .inl (c1, 256, .inl (fun _ => 0))), (q2, .inl (c2, 7, .inl (fun _ => 0))), (q3, .inl (c3, 12, .inl (fun _ => 0))), (q4, .inl (c4, 12, .inl (fun _ => 0)))] ∧ tys = [(c1, .int), (c2, .int), (c3, .int), (c4, .boolean)]
set_option maxHeartbeats 4000000 in
theorem pi_T (l : Launch) : ev_CM l ⟨"TicketTag", "<init>", "()V"⟩ prog_1_method_1_code 2 40 5 295 (.inr (1, [.null, .null, .null, .int 0, .int 0, .int 0])) pi_WT := by
  intro D h0 sz
  refine ec_ofW (cc := prog_1_method_1_code) (maxL := 1) (ret := none) (by decide +kernel) (Or.inl rfl) ?_
  intro p e s m args below meth c s₁ B hml hPc
  obtain ⟨rfl, hsz, hP, hK, hD0, hnw⟩ := hPc
  have hx := B.exec
  have hb := B.bytes
  have hr := B.returns
  have hts : ∀ w ∈ pg_TB, w.before #[Value.ref h0] s = true := fun w hw => pg_tb w hw _ _ s s (State.WarmedH.refl s) (hnw w hw)
  have hown : s.vm.findClass "TicketTag" = some m.cls := findClass_of_methodNamed B.named
  have hin : meth.name = "<init>" := (name_of_methodNamed B.named B.method).1
  subst hsz
  have hD := hD0.self (sz := s.heap.size)
  generalize hAe : va_A [(h0, .inr (1, [.null, .null, .null, .int 0, .int 0, .int 0]))] s.heap.size = A at hD ⊢
  have hA : ∀ q : Nat, s.heap.size ≤ q → A q := fun q h => by rw [← hAe]; exact Or.inr h
  have hS : va_S A s.heap s.heap [] := va_S.rf
  have hl := lv_entry ([.ref h0]) (n := 1) (Nat.le_of_ble_eq_true rfl)
  rw [lg_entry_eq]
  generalize (lg_sl ([.ref h0]) ++ List.replicate (1 - (lg_sl ([.ref h0])).length) Slot.unset).toArray = ls at hl ⊢
  have hl : lv_has ls 1 [(0, .ref h0)] := hl
  refine lv_aload_n hx hb (show decode prog_1_method_1_code 0 = .ok (.aload_n 0, 1) by decide +kernel) rfl (lv_at hl 0 rfl) ?_
  refine W.objInit hx hb hown (hts _ pi_q12) (hts _ pi_q1) (hts _ pi_q2) rfl (by rw [hml]; exact hl.1) rfl (show decode prog_1_method_1_code 1 = .ok (.invokespecial 1, 3) by decide +kernel) (Nat.le_of_ble_eq_true rfl) (Nat.le_of_ble_eq_true rfl) ?_
  refine W.eq (g2 := F0 m 4 ls []) rfl ?_
  refine lv_aload_n hx hb (show decode prog_1_method_1_code 4 = .ok (.aload_n 0, 1) by decide +kernel) rfl (lv_at hl 0 rfl) ?_
  refine va_new (D := D) (A := A) (ci := 0) (fs := [.null, .null, .int 0, .int 0, .int 0, .int 0, .int 0, .int 0]) (C := "TicketTag$Memory") (T := pg_T0) (N := 8) hx hb hts (pg_Clw (List.mem_of_getElem? (i := 0) rfl)) pg_ty0 pg_tok0 hown (hts _ pi_q13) (hts _ pi_q14) (hts _ pi_q15) hK hP hD hS hA rfl (fun j hj => by rcases (show j = 0 ∨ j = 1 ∨ j = 2 ∨ j = 3 ∨ j = 4 ∨ j = 5 ∨ j = 6 ∨ j = 7 by omega) with rfl | rfl | rfl | rfl | rfl | rfl | rfl | rfl <;> rfl) (Nat.le_of_ble_eq_true rfl) (Nat.le_of_ble_eq_true rfl) (show decode prog_1_method_1_code 5 = .ok (.new 7, 3) by decide +kernel) (fun q0 H hP hD hS => ?_)
  have hP : va_P D pg_cl [(h0, .inr (1, [.null, .null, .null, .int 0, .int 0, .int 0])), (q0, .inr (0, [.null, .null, .int 0, .int 0, .int 0, .int 0, .int 0, .int 0]))] H := hP
  have hD : va_D A [(h0, .inr (1, [.null, .null, .null, .int 0, .int 0, .int 0])), (q0, .inr (0, [.null, .null, .int 0, .int 0, .int 0, .int 0, .int 0, .int 0]))] := hD
  refine lv_dup hx hb (show decode prog_1_method_1_code 8 = .ok (.dup, 1) by decide +kernel) rfl ?_
  refine ev_newC (y := ⟨"TicketTag$Memory", "<init>", "()V"⟩) (wr := [(h0, .inr (1, [.null, .null, .null, .int 0, .int 0, .int 0]))]) (pi_M l) hx hown hts (Or.inr ⟨_, pi_q16⟩) pi_q17 pi_q15 pi_q18 rfl (by decide) (by decide +kernel) (Nat.le_of_ble_eq_true rfl) (Nat.le_of_ble_eq_true rfl) (Nat.le_of_ble_eq_true rfl) (Nat.le_of_ble_eq_true rfl) (by rw [hml]; exact hl.1) hb (show decode prog_1_method_1_code 9 = .ok (.invokespecial 9, 3) by decide +kernel) (Nat.le_of_ble_eq_true rfl) hK hP hD hS hA 1 [0] rfl rfl (by decide) (by decide) (fun w1 tys1 H locs hWd hK hP hD hS => ?_)
  obtain ⟨q1, c1, q2, c2, rfl, rfl⟩ := hWd
  have hK : va_K D pg_cl [(c1, .int), (c2, .int)] s := hK
  have hP : va_P D pg_cl [(h0, .inr (1, [.null, .null, .null, .int 0, .int 0, .int 0])), (q0, .inr (0, [.ref q1, .ref q2, .int 0, .int 0, .int 0, .int 0, .int 0, .int 0])), (q1, .inl (c1, 256, .inl (fun _ => 0))), (q2, .inl (c2, 7, .inl (fun _ => 0)))] H := hP
  have hD : va_D A [(h0, .inr (1, [.null, .null, .null, .int 0, .int 0, .int 0])), (q0, .inr (0, [.ref q1, .ref q2, .int 0, .int 0, .int 0, .int 0, .int 0, .int 0])), (q1, .inl (c1, 256, .inl (fun _ => 0))), (q2, .inl (c2, 7, .inl (fun _ => 0)))] := hD
  refine va_putF (D := D) (A := A) (ci := 1) (v := .ref q0) (ty := .object "TicketTag$Memory") (C := "TicketTag") (T := pg_T1) (N := 6) hx hb hts (pg_Clw (List.mem_of_getElem? (i := 1) rfl)) pg_ty1 pg_tok1 pg_nap1 hown hK hP hD hS 0 rfl rfl 0 (by decide) (hts _ pi_q19) (fun _ h9 => h9) rfl hin rfl (by decide +kernel) rfl rfl (Nat.le_of_ble_eq_true rfl) (show decode prog_1_method_1_code 12 = .ok (.putfield 10, 3) by decide +kernel) (fun H locs hP hD hS => ?_)
  have hP : va_P D pg_cl [(h0, .inr (1, [.ref q0, .null, .null, .int 0, .int 0, .int 0])), (q0, .inr (0, [.ref q1, .ref q2, .int 0, .int 0, .int 0, .int 0, .int 0, .int 0])), (q1, .inl (c1, 256, .inl (fun _ => 0))), (q2, .inl (c2, 7, .inl (fun _ => 0)))] H := hP
  have hD : va_D A [(h0, .inr (1, [.ref q0, .null, .null, .int 0, .int 0, .int 0])), (q0, .inr (0, [.ref q1, .ref q2, .int 0, .int 0, .int 0, .int 0, .int 0, .int 0])), (q1, .inl (c1, 256, .inl (fun _ => 0))), (q2, .inl (c2, 7, .inl (fun _ => 0)))] := hD
  refine lv_aload_n hx hb (show decode prog_1_method_1_code 15 = .ok (.aload_n 0, 1) by decide +kernel) rfl (lv_at hl 0 rfl) ?_
  refine lv_bipush (v := 12) hx hb (show decode prog_1_method_1_code 16 = .ok (.bipush 12, 2) by decide +kernel) (by decide) ?_
  refine va_newa (atype := .int) (D := D) (A := A) (ty := .int) (n := 12) (N' := 12) (a0 := (12, .inl (fun _ => 0))) hx hb (hts _ pi_q3) rfl hK hP hD hS hA (fun cA => rfl) (by decide) (by decide) (by decide) (Nat.le_of_ble_eq_true rfl) (Nat.le_of_ble_eq_true rfl) (show decode prog_1_method_1_code 18 = .ok (.newarray .int, 2) by decide +kernel) (fun q3 c3 H hK hP hD hS => ?_)
  have hK : va_K D pg_cl [(c1, .int), (c2, .int), (c3, .int)] s := hK
  have hP : va_P D pg_cl [(h0, .inr (1, [.ref q0, .null, .null, .int 0, .int 0, .int 0])), (q0, .inr (0, [.ref q1, .ref q2, .int 0, .int 0, .int 0, .int 0, .int 0, .int 0])), (q1, .inl (c1, 256, .inl (fun _ => 0))), (q2, .inl (c2, 7, .inl (fun _ => 0))), (q3, .inl (c3, 12, .inl (fun _ => 0)))] H := hP
  have hD : va_D A [(h0, .inr (1, [.ref q0, .null, .null, .int 0, .int 0, .int 0])), (q0, .inr (0, [.ref q1, .ref q2, .int 0, .int 0, .int 0, .int 0, .int 0, .int 0])), (q1, .inl (c1, 256, .inl (fun _ => 0))), (q2, .inl (c2, 7, .inl (fun _ => 0))), (q3, .inl (c3, 12, .inl (fun _ => 0)))] := hD
  refine va_putF (D := D) (A := A) (ci := 1) (v := .ref q3) (ty := .array .int) (C := "TicketTag") (T := pg_T1) (N := 6) hx hb hts (pg_Clw (List.mem_of_getElem? (i := 1) rfl)) pg_ty1 pg_tok1 pg_nap1 hown hK hP hD hS 0 rfl rfl 1 (by decide) (hts _ pi_q20) (fun _ h9 => h9) rfl hin rfl (by decide +kernel) rfl rfl (Nat.le_of_ble_eq_true rfl) (show decode prog_1_method_1_code 20 = .ok (.putfield 16, 3) by decide +kernel) (fun H locs hP hD hS => ?_)
  have hP : va_P D pg_cl [(h0, .inr (1, [.ref q0, .ref q3, .null, .int 0, .int 0, .int 0])), (q0, .inr (0, [.ref q1, .ref q2, .int 0, .int 0, .int 0, .int 0, .int 0, .int 0])), (q1, .inl (c1, 256, .inl (fun _ => 0))), (q2, .inl (c2, 7, .inl (fun _ => 0))), (q3, .inl (c3, 12, .inl (fun _ => 0)))] H := hP
  have hD : va_D A [(h0, .inr (1, [.ref q0, .ref q3, .null, .int 0, .int 0, .int 0])), (q0, .inr (0, [.ref q1, .ref q2, .int 0, .int 0, .int 0, .int 0, .int 0, .int 0])), (q1, .inl (c1, 256, .inl (fun _ => 0))), (q2, .inl (c2, 7, .inl (fun _ => 0))), (q3, .inl (c3, 12, .inl (fun _ => 0)))] := hD
  refine lv_aload_n hx hb (show decode prog_1_method_1_code 23 = .ok (.aload_n 0, 1) by decide +kernel) rfl (lv_at hl 0 rfl) ?_
  refine lv_bipush (v := 12) hx hb (show decode prog_1_method_1_code 24 = .ok (.bipush 12, 2) by decide +kernel) (by decide) ?_
  refine va_newa (atype := .boolean) (D := D) (A := A) (ty := .boolean) (n := 12) (N' := 12) (a0 := (12, .inl (fun _ => 0))) hx hb (hts _ pi_q21) rfl hK hP hD hS hA (fun cA => rfl) (by decide) (by decide) (by decide) (Nat.le_of_ble_eq_true rfl) (Nat.le_of_ble_eq_true rfl) (show decode prog_1_method_1_code 26 = .ok (.newarray .boolean, 2) by decide +kernel) (fun q4 c4 H hK hP hD hS => ?_)
  have hK : va_K D pg_cl [(c1, .int), (c2, .int), (c3, .int), (c4, .boolean)] s := hK
  have hP : va_P D pg_cl [(h0, .inr (1, [.ref q0, .ref q3, .null, .int 0, .int 0, .int 0])), (q0, .inr (0, [.ref q1, .ref q2, .int 0, .int 0, .int 0, .int 0, .int 0, .int 0])), (q1, .inl (c1, 256, .inl (fun _ => 0))), (q2, .inl (c2, 7, .inl (fun _ => 0))), (q3, .inl (c3, 12, .inl (fun _ => 0))), (q4, .inl (c4, 12, .inl (fun _ => 0)))] H := hP
  have hD : va_D A [(h0, .inr (1, [.ref q0, .ref q3, .null, .int 0, .int 0, .int 0])), (q0, .inr (0, [.ref q1, .ref q2, .int 0, .int 0, .int 0, .int 0, .int 0, .int 0])), (q1, .inl (c1, 256, .inl (fun _ => 0))), (q2, .inl (c2, 7, .inl (fun _ => 0))), (q3, .inl (c3, 12, .inl (fun _ => 0))), (q4, .inl (c4, 12, .inl (fun _ => 0)))] := hD
  refine va_putF (D := D) (A := A) (ci := 1) (v := .ref q4) (ty := .array .boolean) (C := "TicketTag") (T := pg_T1) (N := 6) hx hb hts (pg_Clw (List.mem_of_getElem? (i := 1) rfl)) pg_ty1 pg_tok1 pg_nap1 hown hK hP hD hS 0 rfl rfl 2 (by decide) (hts _ pi_q22) (fun _ h9 => h9) rfl hin rfl (by decide +kernel) rfl rfl (Nat.le_of_ble_eq_true rfl) (show decode prog_1_method_1_code 28 = .ok (.putfield 20, 3) by decide +kernel) (fun H locs hP hD hS => ?_)
  have hP : va_P D pg_cl [(h0, .inr (1, [.ref q0, .ref q3, .ref q4, .int 0, .int 0, .int 0])), (q0, .inr (0, [.ref q1, .ref q2, .int 0, .int 0, .int 0, .int 0, .int 0, .int 0])), (q1, .inl (c1, 256, .inl (fun _ => 0))), (q2, .inl (c2, 7, .inl (fun _ => 0))), (q3, .inl (c3, 12, .inl (fun _ => 0))), (q4, .inl (c4, 12, .inl (fun _ => 0)))] H := hP
  have hD : va_D A [(h0, .inr (1, [.ref q0, .ref q3, .ref q4, .int 0, .int 0, .int 0])), (q0, .inr (0, [.ref q1, .ref q2, .int 0, .int 0, .int 0, .int 0, .int 0, .int 0])), (q1, .inl (c1, 256, .inl (fun _ => 0))), (q2, .inl (c2, 7, .inl (fun _ => 0))), (q3, .inl (c3, 12, .inl (fun _ => 0))), (q4, .inl (c4, 12, .inl (fun _ => 0)))] := hD
  refine lv_aload_n hx hb (show decode prog_1_method_1_code 31 = .ok (.aload_n 0, 1) by decide +kernel) rfl (lv_at hl 0 rfl) ?_
  refine lv_iconst (v := 0) hx hb (show decode prog_1_method_1_code 32 = .ok (.iconst (0), 1) by decide +kernel) (by decide) ?_
  refine va_put (D := D) (A := A) (ci := 1) (v := .int 0) (ty := .int) (C := "TicketTag") (T := pg_T1) (N := 6) hx hb hts (pg_Clw (List.mem_of_getElem? (i := 1) rfl)) pg_ty1 pg_tok1 pg_nap1 hown hK hP hD hS 0 rfl rfl 3 (by decide) (hts _ pi_q23) (fun _ h9 => h9) rfl (by decide +kernel) rfl rfl (Nat.le_of_ble_eq_true rfl) (show decode prog_1_method_1_code 33 = .ok (.putfield 24, 3) by decide +kernel) (fun H locs hP hD hS => ?_)
  have hP : va_P D pg_cl [(h0, .inr (1, [.ref q0, .ref q3, .ref q4, .int 0, .int 0, .int 0])), (q0, .inr (0, [.ref q1, .ref q2, .int 0, .int 0, .int 0, .int 0, .int 0, .int 0])), (q1, .inl (c1, 256, .inl (fun _ => 0))), (q2, .inl (c2, 7, .inl (fun _ => 0))), (q3, .inl (c3, 12, .inl (fun _ => 0))), (q4, .inl (c4, 12, .inl (fun _ => 0)))] H := hP
  have hD : va_D A [(h0, .inr (1, [.ref q0, .ref q3, .ref q4, .int 0, .int 0, .int 0])), (q0, .inr (0, [.ref q1, .ref q2, .int 0, .int 0, .int 0, .int 0, .int 0, .int 0])), (q1, .inl (c1, 256, .inl (fun _ => 0))), (q2, .inl (c2, 7, .inl (fun _ => 0))), (q3, .inl (c3, 12, .inl (fun _ => 0))), (q4, .inl (c4, 12, .inl (fun _ => 0)))] := hD
  refine lv_aload_n hx hb (show decode prog_1_method_1_code 36 = .ok (.aload_n 0, 1) by decide +kernel) rfl (lv_at hl 0 rfl) ?_
  refine lv_iconst (v := (-1)) hx hb (show decode prog_1_method_1_code 37 = .ok (.iconst (-1), 1) by decide +kernel) (by decide) ?_
  refine va_put (D := D) (A := A) (ci := 1) (v := .int (-1)) (ty := .int) (C := "TicketTag") (T := pg_T1) (N := 6) hx hb hts (pg_Clw (List.mem_of_getElem? (i := 1) rfl)) pg_ty1 pg_tok1 pg_nap1 hown hK hP hD hS 0 rfl rfl 4 (by decide) (hts _ pi_q24) (fun _ h9 => h9) rfl (by decide +kernel) rfl rfl (Nat.le_of_ble_eq_true rfl) (show decode prog_1_method_1_code 38 = .ok (.putfield 28, 3) by decide +kernel) (fun H locs hP hD hS => ?_)
  have hP : va_P D pg_cl [(h0, .inr (1, [.ref q0, .ref q3, .ref q4, .int 0, .int (-1), .int 0])), (q0, .inr (0, [.ref q1, .ref q2, .int 0, .int 0, .int 0, .int 0, .int 0, .int 0])), (q1, .inl (c1, 256, .inl (fun _ => 0))), (q2, .inl (c2, 7, .inl (fun _ => 0))), (q3, .inl (c3, 12, .inl (fun _ => 0))), (q4, .inl (c4, 12, .inl (fun _ => 0)))] H := hP
  have hD : va_D A [(h0, .inr (1, [.ref q0, .ref q3, .ref q4, .int 0, .int (-1), .int 0])), (q0, .inr (0, [.ref q1, .ref q2, .int 0, .int 0, .int 0, .int 0, .int 0, .int 0])), (q1, .inl (c1, 256, .inl (fun _ => 0))), (q2, .inl (c2, 7, .inl (fun _ => 0))), (q3, .inl (c3, 12, .inl (fun _ => 0))), (q4, .inl (c4, 12, .inl (fun _ => 0)))] := hD
  refine lv_aload_n hx hb (show decode prog_1_method_1_code 41 = .ok (.aload_n 0, 1) by decide +kernel) rfl (lv_at hl 0 rfl) ?_
  refine lv_iconst (v := 0) hx hb (show decode prog_1_method_1_code 42 = .ok (.iconst (0), 1) by decide +kernel) (by decide) ?_
  refine va_put (D := D) (A := A) (ci := 1) (v := .int 0) (ty := .int) (C := "TicketTag") (T := pg_T1) (N := 6) hx hb hts (pg_Clw (List.mem_of_getElem? (i := 1) rfl)) pg_ty1 pg_tok1 pg_nap1 hown hK hP hD hS 0 rfl rfl 5 (by decide) (hts _ pi_q25) (fun _ h9 => h9) rfl (by decide +kernel) rfl rfl (Nat.le_of_ble_eq_true rfl) (show decode prog_1_method_1_code 43 = .ok (.putfield 31, 3) by decide +kernel) (fun H locs hP hD hS => ?_)
  have hP : va_P D pg_cl [(h0, .inr (1, [.ref q0, .ref q3, .ref q4, .int 0, .int (-1), .int 0])), (q0, .inr (0, [.ref q1, .ref q2, .int 0, .int 0, .int 0, .int 0, .int 0, .int 0])), (q1, .inl (c1, 256, .inl (fun _ => 0))), (q2, .inl (c2, 7, .inl (fun _ => 0))), (q3, .inl (c3, 12, .inl (fun _ => 0))), (q4, .inl (c4, 12, .inl (fun _ => 0)))] H := hP
  have hD : va_D A [(h0, .inr (1, [.ref q0, .ref q3, .ref q4, .int 0, .int (-1), .int 0])), (q0, .inr (0, [.ref q1, .ref q2, .int 0, .int 0, .int 0, .int 0, .int 0, .int 0])), (q1, .inl (c1, 256, .inl (fun _ => 0))), (q2, .inl (c2, 7, .inl (fun _ => 0))), (q3, .inl (c3, 12, .inl (fun _ => 0))), (q4, .inl (c4, 12, .inl (fun _ => 0)))] := hD
  refine W.widen (k := 5) (n := 295) (by decide) (by decide) ?_
  exact ec_end (W.vret hx hb hr (fun t ht hW => ⟨rfl, rfl, by rw [hAe]; exact hS.F ht, _, _, ⟨q0, q1, c1, q2, c2, q3, c3, q4, c4, rfl, rfl⟩, by rw [ht]; exact hP, by rw [hAe]; exact hD, hK⟩) hS.2.2 (show decode prog_1_method_1_code 46 = .ok (.return_, 1) by decide +kernel))
set_option maxRecDepth 100000 in
theorem pi_q26 : (Jvm.Cond.methodLink "TicketTagModel" 1 objectInit) ∈ pg_TB := pg_mem (by decide +kernel) rfl
set_option maxRecDepth 100000 in
theorem pi_q27 : (Jvm.Cond.fieldLink "TicketTagModel" 7 "TicketTagModel" "words" "[I") ∈ pg_TB := pg_mem (by decide +kernel) rfl
set_option maxRecDepth 100000 in
theorem pi_q28 : (Jvm.Cond.fieldLink "TicketTagModel" 13 "TicketTagModel" "days" "[I") ∈ pg_TB := pg_mem (by decide +kernel) rfl
set_option maxRecDepth 100000 in
theorem pi_q29 : (Jvm.Cond.fieldLink "TicketTagModel" 16 "TicketTagModel" "minutes" "[I") ∈ pg_TB := pg_mem (by decide +kernel) rfl
set_option maxRecDepth 100000 in
theorem pi_q30 : (Jvm.Cond.fieldLink "TicketTagModel" 19 "TicketTagModel" "barred" "[Z") ∈ pg_TB := pg_mem (by decide +kernel) rfl
set_option maxRecDepth 100000 in
theorem pi_q31 : (Jvm.Cond.fieldLink "TicketTagModel" 23 "TicketTagModel" "gate" "I") ∈ pg_TB := pg_mem (by decide +kernel) rfl
set_option maxRecDepth 100000 in
theorem pi_q32 : (Jvm.Cond.fieldLink "TicketTagModel" 27 "TicketTagModel" "tear" "I") ∈ pg_TB := pg_mem (by decide +kernel) rfl
set_option maxRecDepth 100000 in
theorem pi_q33 : (Jvm.Cond.fieldLink "TicketTagModel" 30 "TicketTagModel" "record" "[I") ∈ pg_TB := pg_mem (by decide +kernel) rfl
def pi_WR : Nat → va_W → List (ClassId × FieldType) → Prop := fun h0 ws tys => ∃ (q1 : Nat) (c1 : ClassId) (q2 : Nat) (c2 : ClassId) (q3 : Nat) (c3 : ClassId) (q4 : Nat) (c4 : ClassId) (q5 : Nat) (c5 : ClassId), ws = [(h0, .inr (2, [.int 0, .ref q1, .ref q2, .ref q3, .ref q4, .int (-1), .int 0, .int 0, .int (-1), .int 0, .int 0, .int 0, .int 0, .ref q5])), (q1, .inl (c1, 256, .inl (fun _ => 0))), (q2, .inl (c2, 12, .inl (fun _ => 0))), (q3, .inl (c3, 12, .inl (fun _ => 0))), (q4, .inl (c4, 12, .inl (fun _ => 0))), (q5, .inl (c5, 8, .inl (fun _ => 0)))] ∧ tys = [(c1, .int), (c2, .int), (c3, .int), (c4, .boolean), (c5, .int)]
set_option maxHeartbeats 4000000 in
theorem pi_R (l : Launch) : ev_CM l ⟨"TicketTagModel", "<init>", "()V"⟩ prog_4_method_1_code 1 12 5 300 (.inr (2, [.int 0, .null, .null, .null, .null, .int 0, .int 0, .int 0, .int 0, .int 0, .int 0, .int 0, .int 0, .null])) pi_WR := by
  intro D h0 sz
  refine ec_ofW (cc := prog_4_method_1_code) (maxL := 1) (ret := none) (by decide +kernel) (Or.inl rfl) ?_
  intro p e s m args below meth c s₁ B hml hPc
  obtain ⟨rfl, hsz, hP, hK, hD0, hnw⟩ := hPc
  have hx := B.exec
  have hb := B.bytes
  have hr := B.returns
  have hts : ∀ w ∈ pg_TB, w.before #[Value.ref h0] s = true := fun w hw => pg_tb w hw _ _ s s (State.WarmedH.refl s) (hnw w hw)
  have hown : s.vm.findClass "TicketTagModel" = some m.cls := findClass_of_methodNamed B.named
  have hin : meth.name = "<init>" := (name_of_methodNamed B.named B.method).1
  subst hsz
  have hD := hD0.self (sz := s.heap.size)
  generalize hAe : va_A [(h0, .inr (2, [.int 0, .null, .null, .null, .null, .int 0, .int 0, .int 0, .int 0, .int 0, .int 0, .int 0, .int 0, .null]))] s.heap.size = A at hD ⊢
  have hA : ∀ q : Nat, s.heap.size ≤ q → A q := fun q h => by rw [← hAe]; exact Or.inr h
  have hS : va_S A s.heap s.heap [] := va_S.rf
  have hl := lv_entry ([.ref h0]) (n := 1) (Nat.le_of_ble_eq_true rfl)
  rw [lg_entry_eq]
  generalize (lg_sl ([.ref h0]) ++ List.replicate (1 - (lg_sl ([.ref h0])).length) Slot.unset).toArray = ls at hl ⊢
  have hl : lv_has ls 1 [(0, .ref h0)] := hl
  refine lv_aload_n hx hb (show decode prog_4_method_1_code 0 = .ok (.aload_n 0, 1) by decide +kernel) rfl (lv_at hl 0 rfl) ?_
  refine W.objInit hx hb hown (hts _ pi_q26) (hts _ pi_q1) (hts _ pi_q2) rfl (by rw [hml]; exact hl.1) rfl (show decode prog_4_method_1_code 1 = .ok (.invokespecial 1, 3) by decide +kernel) (Nat.le_of_ble_eq_true rfl) (Nat.le_of_ble_eq_true rfl) ?_
  refine W.eq (g2 := F0 m 4 ls []) rfl ?_
  refine lv_aload_n hx hb (show decode prog_4_method_1_code 4 = .ok (.aload_n 0, 1) by decide +kernel) rfl (lv_at hl 0 rfl) ?_
  refine lv_sipush (v := 256) hx hb (show decode prog_4_method_1_code 5 = .ok (.sipush 256, 3) by decide +kernel) (by decide) ?_
  refine va_newa (atype := .int) (D := D) (A := A) (ty := .int) (n := 256) (N' := 256) (a0 := (256, .inl (fun _ => 0))) hx hb (hts _ pi_q3) rfl hK hP hD hS hA (fun cA => rfl) (by decide) (by decide) (by decide) (Nat.le_of_ble_eq_true rfl) (Nat.le_of_ble_eq_true rfl) (show decode prog_4_method_1_code 8 = .ok (.newarray .int, 2) by decide +kernel) (fun q1 c1 H hK hP hD hS => ?_)
  have hK : va_K D pg_cl [(c1, .int)] s := hK
  have hP : va_P D pg_cl [(h0, .inr (2, [.int 0, .null, .null, .null, .null, .int 0, .int 0, .int 0, .int 0, .int 0, .int 0, .int 0, .int 0, .null])), (q1, .inl (c1, 256, .inl (fun _ => 0)))] H := hP
  have hD : va_D A [(h0, .inr (2, [.int 0, .null, .null, .null, .null, .int 0, .int 0, .int 0, .int 0, .int 0, .int 0, .int 0, .int 0, .null])), (q1, .inl (c1, 256, .inl (fun _ => 0)))] := hD
  refine va_putF (D := D) (A := A) (ci := 2) (v := .ref q1) (ty := .array .int) (C := "TicketTagModel") (T := pg_T2) (N := 14) hx hb hts (pg_Clw (List.mem_of_getElem? (i := 2) rfl)) pg_ty2 pg_tok2 pg_nap2 hown hK hP hD hS 0 rfl rfl 1 (by decide) (hts _ pi_q27) (fun _ h9 => h9) rfl hin rfl (by decide +kernel) rfl rfl (Nat.le_of_ble_eq_true rfl) (show decode prog_4_method_1_code 10 = .ok (.putfield 7, 3) by decide +kernel) (fun H locs hP hD hS => ?_)
  have hP : va_P D pg_cl [(h0, .inr (2, [.int 0, .ref q1, .null, .null, .null, .int 0, .int 0, .int 0, .int 0, .int 0, .int 0, .int 0, .int 0, .null])), (q1, .inl (c1, 256, .inl (fun _ => 0)))] H := hP
  have hD : va_D A [(h0, .inr (2, [.int 0, .ref q1, .null, .null, .null, .int 0, .int 0, .int 0, .int 0, .int 0, .int 0, .int 0, .int 0, .null])), (q1, .inl (c1, 256, .inl (fun _ => 0)))] := hD
  refine lv_aload_n hx hb (show decode prog_4_method_1_code 13 = .ok (.aload_n 0, 1) by decide +kernel) rfl (lv_at hl 0 rfl) ?_
  refine lv_bipush (v := 12) hx hb (show decode prog_4_method_1_code 14 = .ok (.bipush 12, 2) by decide +kernel) (by decide) ?_
  refine va_newa (atype := .int) (D := D) (A := A) (ty := .int) (n := 12) (N' := 12) (a0 := (12, .inl (fun _ => 0))) hx hb (hts _ pi_q3) rfl hK hP hD hS hA (fun cA => rfl) (by decide) (by decide) (by decide) (Nat.le_of_ble_eq_true rfl) (Nat.le_of_ble_eq_true rfl) (show decode prog_4_method_1_code 16 = .ok (.newarray .int, 2) by decide +kernel) (fun q2 c2 H hK hP hD hS => ?_)
  have hK : va_K D pg_cl [(c1, .int), (c2, .int)] s := hK
  have hP : va_P D pg_cl [(h0, .inr (2, [.int 0, .ref q1, .null, .null, .null, .int 0, .int 0, .int 0, .int 0, .int 0, .int 0, .int 0, .int 0, .null])), (q1, .inl (c1, 256, .inl (fun _ => 0))), (q2, .inl (c2, 12, .inl (fun _ => 0)))] H := hP
  have hD : va_D A [(h0, .inr (2, [.int 0, .ref q1, .null, .null, .null, .int 0, .int 0, .int 0, .int 0, .int 0, .int 0, .int 0, .int 0, .null])), (q1, .inl (c1, 256, .inl (fun _ => 0))), (q2, .inl (c2, 12, .inl (fun _ => 0)))] := hD
  refine va_putF (D := D) (A := A) (ci := 2) (v := .ref q2) (ty := .array .int) (C := "TicketTagModel") (T := pg_T2) (N := 14) hx hb hts (pg_Clw (List.mem_of_getElem? (i := 2) rfl)) pg_ty2 pg_tok2 pg_nap2 hown hK hP hD hS 0 rfl rfl 2 (by decide) (hts _ pi_q28) (fun _ h9 => h9) rfl hin rfl (by decide +kernel) rfl rfl (Nat.le_of_ble_eq_true rfl) (show decode prog_4_method_1_code 18 = .ok (.putfield 13, 3) by decide +kernel) (fun H locs hP hD hS => ?_)
  have hP : va_P D pg_cl [(h0, .inr (2, [.int 0, .ref q1, .ref q2, .null, .null, .int 0, .int 0, .int 0, .int 0, .int 0, .int 0, .int 0, .int 0, .null])), (q1, .inl (c1, 256, .inl (fun _ => 0))), (q2, .inl (c2, 12, .inl (fun _ => 0)))] H := hP
  have hD : va_D A [(h0, .inr (2, [.int 0, .ref q1, .ref q2, .null, .null, .int 0, .int 0, .int 0, .int 0, .int 0, .int 0, .int 0, .int 0, .null])), (q1, .inl (c1, 256, .inl (fun _ => 0))), (q2, .inl (c2, 12, .inl (fun _ => 0)))] := hD
  refine lv_aload_n hx hb (show decode prog_4_method_1_code 21 = .ok (.aload_n 0, 1) by decide +kernel) rfl (lv_at hl 0 rfl) ?_
  refine lv_bipush (v := 12) hx hb (show decode prog_4_method_1_code 22 = .ok (.bipush 12, 2) by decide +kernel) (by decide) ?_
  refine va_newa (atype := .int) (D := D) (A := A) (ty := .int) (n := 12) (N' := 12) (a0 := (12, .inl (fun _ => 0))) hx hb (hts _ pi_q3) rfl hK hP hD hS hA (fun cA => rfl) (by decide) (by decide) (by decide) (Nat.le_of_ble_eq_true rfl) (Nat.le_of_ble_eq_true rfl) (show decode prog_4_method_1_code 24 = .ok (.newarray .int, 2) by decide +kernel) (fun q3 c3 H hK hP hD hS => ?_)
  have hK : va_K D pg_cl [(c1, .int), (c2, .int), (c3, .int)] s := hK
  have hP : va_P D pg_cl [(h0, .inr (2, [.int 0, .ref q1, .ref q2, .null, .null, .int 0, .int 0, .int 0, .int 0, .int 0, .int 0, .int 0, .int 0, .null])), (q1, .inl (c1, 256, .inl (fun _ => 0))), (q2, .inl (c2, 12, .inl (fun _ => 0))), (q3, .inl (c3, 12, .inl (fun _ => 0)))] H := hP
  have hD : va_D A [(h0, .inr (2, [.int 0, .ref q1, .ref q2, .null, .null, .int 0, .int 0, .int 0, .int 0, .int 0, .int 0, .int 0, .int 0, .null])), (q1, .inl (c1, 256, .inl (fun _ => 0))), (q2, .inl (c2, 12, .inl (fun _ => 0))), (q3, .inl (c3, 12, .inl (fun _ => 0)))] := hD
  refine va_putF (D := D) (A := A) (ci := 2) (v := .ref q3) (ty := .array .int) (C := "TicketTagModel") (T := pg_T2) (N := 14) hx hb hts (pg_Clw (List.mem_of_getElem? (i := 2) rfl)) pg_ty2 pg_tok2 pg_nap2 hown hK hP hD hS 0 rfl rfl 3 (by decide) (hts _ pi_q29) (fun _ h9 => h9) rfl hin rfl (by decide +kernel) rfl rfl (Nat.le_of_ble_eq_true rfl) (show decode prog_4_method_1_code 26 = .ok (.putfield 16, 3) by decide +kernel) (fun H locs hP hD hS => ?_)
  have hP : va_P D pg_cl [(h0, .inr (2, [.int 0, .ref q1, .ref q2, .ref q3, .null, .int 0, .int 0, .int 0, .int 0, .int 0, .int 0, .int 0, .int 0, .null])), (q1, .inl (c1, 256, .inl (fun _ => 0))), (q2, .inl (c2, 12, .inl (fun _ => 0))), (q3, .inl (c3, 12, .inl (fun _ => 0)))] H := hP
  have hD : va_D A [(h0, .inr (2, [.int 0, .ref q1, .ref q2, .ref q3, .null, .int 0, .int 0, .int 0, .int 0, .int 0, .int 0, .int 0, .int 0, .null])), (q1, .inl (c1, 256, .inl (fun _ => 0))), (q2, .inl (c2, 12, .inl (fun _ => 0))), (q3, .inl (c3, 12, .inl (fun _ => 0)))] := hD
  refine lv_aload_n hx hb (show decode prog_4_method_1_code 29 = .ok (.aload_n 0, 1) by decide +kernel) rfl (lv_at hl 0 rfl) ?_
  refine lv_bipush (v := 12) hx hb (show decode prog_4_method_1_code 30 = .ok (.bipush 12, 2) by decide +kernel) (by decide) ?_
  refine va_newa (atype := .boolean) (D := D) (A := A) (ty := .boolean) (n := 12) (N' := 12) (a0 := (12, .inl (fun _ => 0))) hx hb (hts _ pi_q21) rfl hK hP hD hS hA (fun cA => rfl) (by decide) (by decide) (by decide) (Nat.le_of_ble_eq_true rfl) (Nat.le_of_ble_eq_true rfl) (show decode prog_4_method_1_code 32 = .ok (.newarray .boolean, 2) by decide +kernel) (fun q4 c4 H hK hP hD hS => ?_)
  have hK : va_K D pg_cl [(c1, .int), (c2, .int), (c3, .int), (c4, .boolean)] s := hK
  have hP : va_P D pg_cl [(h0, .inr (2, [.int 0, .ref q1, .ref q2, .ref q3, .null, .int 0, .int 0, .int 0, .int 0, .int 0, .int 0, .int 0, .int 0, .null])), (q1, .inl (c1, 256, .inl (fun _ => 0))), (q2, .inl (c2, 12, .inl (fun _ => 0))), (q3, .inl (c3, 12, .inl (fun _ => 0))), (q4, .inl (c4, 12, .inl (fun _ => 0)))] H := hP
  have hD : va_D A [(h0, .inr (2, [.int 0, .ref q1, .ref q2, .ref q3, .null, .int 0, .int 0, .int 0, .int 0, .int 0, .int 0, .int 0, .int 0, .null])), (q1, .inl (c1, 256, .inl (fun _ => 0))), (q2, .inl (c2, 12, .inl (fun _ => 0))), (q3, .inl (c3, 12, .inl (fun _ => 0))), (q4, .inl (c4, 12, .inl (fun _ => 0)))] := hD
  refine va_putF (D := D) (A := A) (ci := 2) (v := .ref q4) (ty := .array .boolean) (C := "TicketTagModel") (T := pg_T2) (N := 14) hx hb hts (pg_Clw (List.mem_of_getElem? (i := 2) rfl)) pg_ty2 pg_tok2 pg_nap2 hown hK hP hD hS 0 rfl rfl 4 (by decide) (hts _ pi_q30) (fun _ h9 => h9) rfl hin rfl (by decide +kernel) rfl rfl (Nat.le_of_ble_eq_true rfl) (show decode prog_4_method_1_code 34 = .ok (.putfield 19, 3) by decide +kernel) (fun H locs hP hD hS => ?_)
  have hP : va_P D pg_cl [(h0, .inr (2, [.int 0, .ref q1, .ref q2, .ref q3, .ref q4, .int 0, .int 0, .int 0, .int 0, .int 0, .int 0, .int 0, .int 0, .null])), (q1, .inl (c1, 256, .inl (fun _ => 0))), (q2, .inl (c2, 12, .inl (fun _ => 0))), (q3, .inl (c3, 12, .inl (fun _ => 0))), (q4, .inl (c4, 12, .inl (fun _ => 0)))] H := hP
  have hD : va_D A [(h0, .inr (2, [.int 0, .ref q1, .ref q2, .ref q3, .ref q4, .int 0, .int 0, .int 0, .int 0, .int 0, .int 0, .int 0, .int 0, .null])), (q1, .inl (c1, 256, .inl (fun _ => 0))), (q2, .inl (c2, 12, .inl (fun _ => 0))), (q3, .inl (c3, 12, .inl (fun _ => 0))), (q4, .inl (c4, 12, .inl (fun _ => 0)))] := hD
  refine lv_aload_n hx hb (show decode prog_4_method_1_code 37 = .ok (.aload_n 0, 1) by decide +kernel) rfl (lv_at hl 0 rfl) ?_
  refine lv_iconst (v := (-1)) hx hb (show decode prog_4_method_1_code 38 = .ok (.iconst (-1), 1) by decide +kernel) (by decide) ?_
  refine va_put (D := D) (A := A) (ci := 2) (v := .int (-1)) (ty := .int) (C := "TicketTagModel") (T := pg_T2) (N := 14) hx hb hts (pg_Clw (List.mem_of_getElem? (i := 2) rfl)) pg_ty2 pg_tok2 pg_nap2 hown hK hP hD hS 0 rfl rfl 5 (by decide) (hts _ pi_q31) (fun _ h9 => h9) rfl (by decide +kernel) rfl rfl (Nat.le_of_ble_eq_true rfl) (show decode prog_4_method_1_code 39 = .ok (.putfield 23, 3) by decide +kernel) (fun H locs hP hD hS => ?_)
  have hP : va_P D pg_cl [(h0, .inr (2, [.int 0, .ref q1, .ref q2, .ref q3, .ref q4, .int (-1), .int 0, .int 0, .int 0, .int 0, .int 0, .int 0, .int 0, .null])), (q1, .inl (c1, 256, .inl (fun _ => 0))), (q2, .inl (c2, 12, .inl (fun _ => 0))), (q3, .inl (c3, 12, .inl (fun _ => 0))), (q4, .inl (c4, 12, .inl (fun _ => 0)))] H := hP
  have hD : va_D A [(h0, .inr (2, [.int 0, .ref q1, .ref q2, .ref q3, .ref q4, .int (-1), .int 0, .int 0, .int 0, .int 0, .int 0, .int 0, .int 0, .null])), (q1, .inl (c1, 256, .inl (fun _ => 0))), (q2, .inl (c2, 12, .inl (fun _ => 0))), (q3, .inl (c3, 12, .inl (fun _ => 0))), (q4, .inl (c4, 12, .inl (fun _ => 0)))] := hD
  refine lv_aload_n hx hb (show decode prog_4_method_1_code 42 = .ok (.aload_n 0, 1) by decide +kernel) rfl (lv_at hl 0 rfl) ?_
  refine lv_iconst (v := (-1)) hx hb (show decode prog_4_method_1_code 43 = .ok (.iconst (-1), 1) by decide +kernel) (by decide) ?_
  refine va_put (D := D) (A := A) (ci := 2) (v := .int (-1)) (ty := .int) (C := "TicketTagModel") (T := pg_T2) (N := 14) hx hb hts (pg_Clw (List.mem_of_getElem? (i := 2) rfl)) pg_ty2 pg_tok2 pg_nap2 hown hK hP hD hS 0 rfl rfl 8 (by decide) (hts _ pi_q32) (fun _ h9 => h9) rfl (by decide +kernel) rfl rfl (Nat.le_of_ble_eq_true rfl) (show decode prog_4_method_1_code 44 = .ok (.putfield 27, 3) by decide +kernel) (fun H locs hP hD hS => ?_)
  have hP : va_P D pg_cl [(h0, .inr (2, [.int 0, .ref q1, .ref q2, .ref q3, .ref q4, .int (-1), .int 0, .int 0, .int (-1), .int 0, .int 0, .int 0, .int 0, .null])), (q1, .inl (c1, 256, .inl (fun _ => 0))), (q2, .inl (c2, 12, .inl (fun _ => 0))), (q3, .inl (c3, 12, .inl (fun _ => 0))), (q4, .inl (c4, 12, .inl (fun _ => 0)))] H := hP
  have hD : va_D A [(h0, .inr (2, [.int 0, .ref q1, .ref q2, .ref q3, .ref q4, .int (-1), .int 0, .int 0, .int (-1), .int 0, .int 0, .int 0, .int 0, .null])), (q1, .inl (c1, 256, .inl (fun _ => 0))), (q2, .inl (c2, 12, .inl (fun _ => 0))), (q3, .inl (c3, 12, .inl (fun _ => 0))), (q4, .inl (c4, 12, .inl (fun _ => 0)))] := hD
  refine lv_aload_n hx hb (show decode prog_4_method_1_code 47 = .ok (.aload_n 0, 1) by decide +kernel) rfl (lv_at hl 0 rfl) ?_
  refine lv_bipush (v := 8) hx hb (show decode prog_4_method_1_code 48 = .ok (.bipush 8, 2) by decide +kernel) (by decide) ?_
  refine va_newa (atype := .int) (D := D) (A := A) (ty := .int) (n := 8) (N' := 8) (a0 := (8, .inl (fun _ => 0))) hx hb (hts _ pi_q3) rfl hK hP hD hS hA (fun cA => rfl) (by decide) (by decide) (by decide) (Nat.le_of_ble_eq_true rfl) (Nat.le_of_ble_eq_true rfl) (show decode prog_4_method_1_code 50 = .ok (.newarray .int, 2) by decide +kernel) (fun q5 c5 H hK hP hD hS => ?_)
  have hK : va_K D pg_cl [(c1, .int), (c2, .int), (c3, .int), (c4, .boolean), (c5, .int)] s := hK
  have hP : va_P D pg_cl [(h0, .inr (2, [.int 0, .ref q1, .ref q2, .ref q3, .ref q4, .int (-1), .int 0, .int 0, .int (-1), .int 0, .int 0, .int 0, .int 0, .null])), (q1, .inl (c1, 256, .inl (fun _ => 0))), (q2, .inl (c2, 12, .inl (fun _ => 0))), (q3, .inl (c3, 12, .inl (fun _ => 0))), (q4, .inl (c4, 12, .inl (fun _ => 0))), (q5, .inl (c5, 8, .inl (fun _ => 0)))] H := hP
  have hD : va_D A [(h0, .inr (2, [.int 0, .ref q1, .ref q2, .ref q3, .ref q4, .int (-1), .int 0, .int 0, .int (-1), .int 0, .int 0, .int 0, .int 0, .null])), (q1, .inl (c1, 256, .inl (fun _ => 0))), (q2, .inl (c2, 12, .inl (fun _ => 0))), (q3, .inl (c3, 12, .inl (fun _ => 0))), (q4, .inl (c4, 12, .inl (fun _ => 0))), (q5, .inl (c5, 8, .inl (fun _ => 0)))] := hD
  refine va_putF (D := D) (A := A) (ci := 2) (v := .ref q5) (ty := .array .int) (C := "TicketTagModel") (T := pg_T2) (N := 14) hx hb hts (pg_Clw (List.mem_of_getElem? (i := 2) rfl)) pg_ty2 pg_tok2 pg_nap2 hown hK hP hD hS 0 rfl rfl 13 (by decide) (hts _ pi_q33) (fun _ h9 => h9) rfl hin rfl (by decide +kernel) rfl rfl (Nat.le_of_ble_eq_true rfl) (show decode prog_4_method_1_code 52 = .ok (.putfield 30, 3) by decide +kernel) (fun H locs hP hD hS => ?_)
  have hP : va_P D pg_cl [(h0, .inr (2, [.int 0, .ref q1, .ref q2, .ref q3, .ref q4, .int (-1), .int 0, .int 0, .int (-1), .int 0, .int 0, .int 0, .int 0, .ref q5])), (q1, .inl (c1, 256, .inl (fun _ => 0))), (q2, .inl (c2, 12, .inl (fun _ => 0))), (q3, .inl (c3, 12, .inl (fun _ => 0))), (q4, .inl (c4, 12, .inl (fun _ => 0))), (q5, .inl (c5, 8, .inl (fun _ => 0)))] H := hP
  have hD : va_D A [(h0, .inr (2, [.int 0, .ref q1, .ref q2, .ref q3, .ref q4, .int (-1), .int 0, .int 0, .int (-1), .int 0, .int 0, .int 0, .int 0, .ref q5])), (q1, .inl (c1, 256, .inl (fun _ => 0))), (q2, .inl (c2, 12, .inl (fun _ => 0))), (q3, .inl (c3, 12, .inl (fun _ => 0))), (q4, .inl (c4, 12, .inl (fun _ => 0))), (q5, .inl (c5, 8, .inl (fun _ => 0)))] := hD
  refine W.widen (k := 5) (n := 300) (by decide) (by decide) ?_
  exact ec_end (W.vret hx hb hr (fun t ht hW => ⟨rfl, rfl, by rw [hAe]; exact hS.F ht, _, _, ⟨q1, c1, q2, c2, q3, c3, q4, c4, q5, c5, rfl, rfl⟩, by rw [ht]; exact hP, by rw [hAe]; exact hD, hK⟩) hS.2.2 (show decode prog_4_method_1_code 55 = .ok (.return_, 1) by decide +kernel))
