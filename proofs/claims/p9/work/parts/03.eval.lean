/-! THE EVALUATOR: what the instructions of a method do to a world of fixed shape, as a predicate to be computed; and that it is so of the machine -/
/-- a world: the ints of each cell (fields or elements), the longs of each cell, how many cells may still be made -/
abbrev ev_W : Type := (Nat → Nat → Int32) × (Nat → Nat → Int64) × Nat
/-- a cell's shape: an array (type, length), or an object (class number, its fields: none: an int, some k: the cell k) -/
abbrev ev_C : Type := (FieldType × Nat) ⊕ (Nat × List (Option Nat))
abbrev ev_V : Type := List (Option Value)
abbrev ev_K : Type := Nat → ev_V → List Value → ev_W → Prop
/-- what the methods do: number, arguments, world: where they may be called, what is known of what comes back (returned, or the kind that was thrown) and of the world behind it -/
abbrev ev_F : Type := Nat → List Value → ev_W → Option (Prop × ((Option Value ⊕ Nat) → ev_W → Prop))
/-- an instruction, its length, two numbers, a constant, the roads of a switch -/
abbrev ev_I : Type := Instr × Nat × Nat × Nat × Int32 × List (Int32 × Nat)
def ev_tr (ad : Nat → Nat) (v : Value) : Value := match v with
  | .ref k => .ref (ad k)
  | v => v
def ev_up (σ : ev_W) (k j : Nat) (x : Int32) : ev_W := (fun q => if q = k then upd (σ.1 k) j x else σ.1 q, σ.2)
def ev_uL (σ : ev_W) (k j : Nat) (x : Int64) : ev_W := (σ.1, fun q => if q = k then vp_updL (σ.2.1 k) j x else σ.2.1 q, σ.2.2)
def ev_fv (ad : Nat → Nat) (σ : ev_W) (k j : Nat) (f : Option Nat) : Value := match f with
  | none => .int (σ.1 k j)
  | some r => .ref (ad r)
def ev_ce (ad : Nat → Nat) (ca : Nat → ClassId) (σ : ev_W) (k : Nat) (q : ev_C) : Nat × va_E := (ad k, match q with
  | .inl (.long, n) => .inl (ca k, n, .inr (.inl (σ.2.1 k)))
  | .inl (_, n) => .inl (ca k, n, .inl (σ.1 k))
  | .inr (ci, fs) => .inr (ci, fs.mapIdx (fun j f => ev_fv ad σ k j f)))
def ev_ws (ad : Nat → Nat) (ca : Nat → ClassId) (lay : List ev_C) (σ : ev_W) : va_W := lay.mapIdx (fun k q => ev_ce ad ca σ k q)
/-! the instructions -/
def ev_b2 (f : Int32 → Int32 → Int32) (pc : Nat) (ls : ev_V) (st : List Value) (σ : ev_W) (K : ev_K) : Prop := match st with
  | .int y :: .int x :: r => K (pc + 1) ls (.int (f x y) :: r) σ
  | _ => False
def ev_dv (f : Int32 → Int32 → Int32) (pc : Nat) (ls : ev_V) (st : List Value) (σ : ev_W) (K : ev_K) : Prop := match st with
  | .int y :: .int x :: r => if y = 0 then False else K (pc + 1) ls (.int (f x y) :: r) σ
  | _ => False
def ev_c1 (P : Int32 → Prop) (t1 t2 : Nat) (ls : ev_V) (st : List Value) (σ : ev_W) (K : ev_K) : Prop := match st with
  | .int x :: r => (P x → K t1 ls r σ) ∧ (¬ P x → K t2 ls r σ)
  | _ => False
def ev_c2 (P : Int32 → Int32 → Prop) (t1 t2 : Nat) (ls : ev_V) (st : List Value) (σ : ev_W) (K : ev_K) : Prop := match st with
  | .int y :: .int x :: r => (P x y → K t1 ls r σ) ∧ (¬ P x y → K t2 ls r σ)
  | _ => False
def ev_li (pc' i : Nat) (ls : ev_V) (st : List Value) (σ : ev_W) (K : ev_K) : Prop := match ls[i]? with
  | some (some (.int x)) => K pc' ls (.int x :: st) σ
  | _ => False
def ev_la (pc' i : Nat) (ls : ev_V) (st : List Value) (σ : ev_W) (K : ev_K) : Prop := match ls[i]? with
  | some (some (.ref x)) => K pc' ls (.ref x :: st) σ
  | _ => False
def ev_si (pc' i : Nat) (ls : ev_V) (st : List Value) (σ : ev_W) (K : ev_K) : Prop := match st with
  | .int x :: r => K pc' (ls.set i (some (.int x))) r σ
  | _ => False
def ev_sa (pc' i : Nat) (ls : ev_V) (st : List Value) (σ : ev_W) (K : ev_K) : Prop := match st with
  | .ref x :: r => K pc' (ls.set i (some (.ref x))) r σ
  | _ => False
def ev_sw (x : Int32) (K : Nat → Prop) (d : Nat) : List (Int32 × Nat) → Prop
  | [] => K d
  | (v, t) :: r => (x = v → K t) ∧ (¬ x = v → ev_sw x K d r)
def ev_gf (lay : List ev_C) (ci k pc : Nat) (ls : ev_V) (st : List Value) (σ : ev_W) (K : ev_K) : Prop := match st with
  | .ref a :: r => match lay[a]? with
    | some (.inr (cj, fs)) => if cj = ci then match fs[k]? with
      | some none => K (pc + 3) ls (.int (σ.1 a k) :: r) σ
      | some (some b) => K (pc + 3) ls (.ref b :: r) σ
      | none => False else False
    | _ => False
  | _ => False
def ev_pf (lay : List ev_C) (ci k : Nat) (z : Int32) (pc : Nat) (ls : ev_V) (st : List Value) (σ : ev_W) (K : ev_K) : Prop := match st with
  | .int x :: .ref a :: r => match lay[a]? with
    | some (.inr (cj, fs)) => if cj = ci then match fs[k]? with
      | some none => if z = 0 then K (pc + 3) ls r (ev_up σ a k x) else (x = 0 ∨ x = 1) ∧ K (pc + 3) ls r (ev_up σ a k x)
      | _ => False else False
    | _ => False
  | _ => False
def ev_ia (lay : List ev_C) (xo : Option (Nat × (Nat → Int32))) (pc : Nat) (ls : ev_V) (st : List Value) (σ : ev_W) (K : ev_K) : Prop := match st with
  | .int i :: .ref a :: r => match lay[a]? with
    | some (.inl (.int, n)) => vp_in i n ∧ K (pc + 1) ls (.int (σ.1 a i.toNatClampNeg) :: r) σ
    | none => match xo with
      | some (L, xs) => if a = 999 then vp_in i L ∧ K (pc + 1) ls (.int (xs i.toNatClampNeg) :: r) σ else False
      | none => False
    | _ => False
  | _ => False
def ev_za (lay : List ev_C) (pc : Nat) (ls : ev_V) (st : List Value) (σ : ev_W) (K : ev_K) : Prop := match st with
  | .int i :: .ref a :: r => match lay[a]? with
    | some (.inl (.boolean, n)) => vp_in i n ∧ K (pc + 1) ls (.int (σ.1 a i.toNatClampNeg) :: r) σ
    | _ => False
  | _ => False
def ev_ja (lay : List ev_C) (pc : Nat) (ls : ev_V) (st : List Value) (σ : ev_W) (K : ev_K) : Prop := match st with
  | .int i :: .ref a :: r => match lay[a]? with
    | some (.inl (.long, n)) => vp_in i n ∧ K (pc + 1) ls (.long (σ.2.1 a i.toNatClampNeg) :: r) σ
    | _ => False
  | _ => False
def ev_is (lay : List ev_C) (pc : Nat) (ls : ev_V) (st : List Value) (σ : ev_W) (K : ev_K) : Prop := match st with
  | .int x :: .int i :: .ref a :: r => match lay[a]? with
    | some (.inl (.int, n)) => vp_in i n ∧ K (pc + 1) ls r (ev_up σ a i.toNatClampNeg x)
    | _ => False
  | _ => False
def ev_zs (lay : List ev_C) (pc : Nat) (ls : ev_V) (st : List Value) (σ : ev_W) (K : ev_K) : Prop := match st with
  | .int x :: .int i :: .ref a :: r => match lay[a]? with
    | some (.inl (.boolean, n)) => vp_in i n ∧ K (pc + 1) ls r (ev_up σ a i.toNatClampNeg (vp_nar .boolean x))
    | _ => False
  | _ => False
def ev_js (lay : List ev_C) (pc : Nat) (ls : ev_V) (st : List Value) (σ : ev_W) (K : ev_K) : Prop := match st with
  | .long x :: .int i :: .ref a :: r => match lay[a]? with
    | some (.inl (.long, n)) => vp_in i n ∧ K (pc + 1) ls r (ev_uL σ a i.toNatClampNeg x)
    | _ => False
  | _ => False
def ev_al (lay : List ev_C) (xo : Option (Nat × (Nat → Int32))) (pc : Nat) (ls : ev_V) (st : List Value) (σ : ev_W) (K : ev_K) : Prop := match st with
  | .ref a :: r => match lay[a]? with
    | some (.inl (_, n)) => K (pc + 1) ls (.int (Int32.ofNat n) :: r) σ
    | none => match xo with
      | some (L, _) => if a = 999 then K (pc + 1) ls (.int (Int32.ofNat L) :: r) σ else False
      | none => False
    | _ => False
  | _ => False
def ev_ca (F : ev_F) (hd : List (Nat × Nat × Nat × Nat)) (i n pc : Nat) (ls : ev_V) (st : List Value) (σ : ev_W) (K : ev_K) : Prop :=
  if n ≤ st.length ∧ st.length ≤ n + 8 then match F i (st.take n).reverse σ with
    | some P => P.1 ∧ ∀ (o : Option Value ⊕ Nat) (σ' : ev_W), P.2 o σ' → match o with
      | .inl v => K (pc + 3) ls (v.toList ++ st.drop n) σ'
      | .inr k => match hd.find? (fun q => q.1 == pc && q.2.1 == k) with
        | some q => K q.2.2.1 (ls.set q.2.2.2 none) [] σ'
        | none => False
    | none => False else False
def ev_cv (F : ev_F) (lay : List ev_C) (hd : List (Nat × Nat × Nat × Nat)) (i n : Nat) (sw : List (Int32 × Nat)) (pc : Nat) (ls : ev_V) (st : List Value) (σ : ev_W) (K : ev_K) : Prop := match (st.take n).reverse with
  | .ref b :: _ => match lay[b]? with
    | some (.inr (cj, _)) => match sw with
      | (_, ci) :: _ => if cj = ci then ev_ca F hd i n pc ls st σ K else False
      | [] => False
    | _ => False
  | _ => False
/-- one instruction -/
def ev_st (F : ev_F) (lay : List ev_C) (xo : Option (Nat × (Nat → Int32))) (hd : List (Nat × Nat × Nat × Nat)) (q : ev_I) (pc : Nat) (ls : ev_V) (st : List Value) (σ : ev_W) (K : ev_K) : Prop :=
  match q.1 with
  | .iconst _ => K (pc + 1) ls (.int q.2.2.2.2.1 :: st) σ
  | .bipush _ => K (pc + 2) ls (.int q.2.2.2.2.1 :: st) σ
  | .sipush _ => K (pc + 3) ls (.int q.2.2.2.2.1 :: st) σ
  | .ldc _ => K (pc + 2) ls (.int q.2.2.2.2.1 :: st) σ
  | .ldc_w _ => K (pc + 3) ls (.int q.2.2.2.2.1 :: st) σ
  | .lconst n => K (pc + 1) ls (.long (Int64.ofNat n) :: st) σ
  | .iload _ => ev_li (pc + 2) q.2.2.1 ls st σ K
  | .iload_n _ => ev_li (pc + 1) q.2.2.1 ls st σ K
  | .aload _ => ev_la (pc + 2) q.2.2.1 ls st σ K
  | .aload_n _ => ev_la (pc + 1) q.2.2.1 ls st σ K
  | .istore _ => ev_si (pc + 2) q.2.2.1 ls st σ K
  | .istore_n _ => ev_si (pc + 1) q.2.2.1 ls st σ K
  | .astore _ => ev_sa (pc + 2) q.2.2.1 ls st σ K
  | .astore_n _ => ev_sa (pc + 1) q.2.2.1 ls st σ K
  | .iinc _ _ => match ls[q.2.2.1]? with
    | some (some (.int x)) => K (pc + 3) (ls.set q.2.2.1 (some (.int (x + q.2.2.2.2.1)))) st σ
    | _ => False
  | .iadd => ev_b2 (fun x y => x + y) pc ls st σ K
  | .isub => ev_b2 (fun x y => x - y) pc ls st σ K
  | .imul => ev_b2 (fun x y => x * y) pc ls st σ K
  | .iand => ev_b2 (fun x y => x &&& y) pc ls st σ K
  | .ior => ev_b2 (fun x y => x ||| y) pc ls st σ K
  | .ixor => ev_b2 (fun x y => x ^^^ y) pc ls st σ K
  | .ishl => ev_b2 (fun x y => x <<< (y &&& 31)) pc ls st σ K
  | .ishr => ev_b2 (fun x y => x >>> (y &&& 31)) pc ls st σ K
  | .iushr => ev_b2 (fun x y => (x.toUInt32 >>> (y.toUInt32 &&& Int32.toUInt32 31)).toInt32) pc ls st σ K
  | .idiv => ev_dv (fun x y => x / y) pc ls st σ K
  | .irem => ev_dv (fun x y => x - x / y * y) pc ls st σ K
  | .i2l => match st with
    | .int x :: r => K (pc + 1) ls (.long x.toInt64 :: r) σ
    | _ => False
  | .lcmp => match st with
    | .long y :: .long x :: r => K (pc + 1) ls (.int (lg_cmp x y) :: r) σ
    | _ => False
  | .dup => match st with
    | .int x :: r => K (pc + 1) ls (.int x :: .int x :: r) σ
    | .ref x :: r => K (pc + 1) ls (.ref x :: .ref x :: r) σ
    | _ => False
  | .dup2 => match st with
    | .int i :: .ref a :: r => K (pc + 1) ls (.int i :: .ref a :: .int i :: .ref a :: r) σ
    | _ => False
  | .pop => match st with
    | .int _ :: r => K (pc + 1) ls r σ
    | .ref _ :: r => K (pc + 1) ls r σ
    | _ => False
  | .ifCond .eq _ => ev_c1 (fun x => x = 0) q.2.2.1 (pc + 3) ls st σ K
  | .ifCond .ne _ => ev_c1 (fun x => x = 0) (pc + 3) q.2.2.1 ls st σ K
  | .ifCond .lt _ => ev_c1 (fun x => x < 0) q.2.2.1 (pc + 3) ls st σ K
  | .ifCond .ge _ => ev_c1 (fun x => 0 ≤ x) q.2.2.1 (pc + 3) ls st σ K
  | .ifCond .gt _ => ev_c1 (fun x => 0 < x) q.2.2.1 (pc + 3) ls st σ K
  | .ifCond .le _ => ev_c1 (fun x => x ≤ 0) q.2.2.1 (pc + 3) ls st σ K
  | .if_icmp .eq _ => ev_c2 (fun x y => x = y) q.2.2.1 (pc + 3) ls st σ K
  | .if_icmp .ne _ => ev_c2 (fun x y => x = y) (pc + 3) q.2.2.1 ls st σ K
  | .if_icmp .lt _ => ev_c2 (fun x y => x < y) q.2.2.1 (pc + 3) ls st σ K
  | .if_icmp .ge _ => ev_c2 (fun x y => y ≤ x) q.2.2.1 (pc + 3) ls st σ K
  | .if_icmp .gt _ => ev_c2 (fun x y => y < x) q.2.2.1 (pc + 3) ls st σ K
  | .if_icmp .le _ => ev_c2 (fun x y => x ≤ y) q.2.2.1 (pc + 3) ls st σ K
  | .goto _ => K q.2.2.1 ls st σ
  | .tableswitch _ _ _ _ => match st with
    | .int x :: r => ev_sw x (fun t => K t ls r σ) q.2.2.1 q.2.2.2.2.2
    | _ => False
  | .lookupswitch _ _ => match st with
    | .int x :: r => ev_sw x (fun t => K t ls r σ) q.2.2.1 q.2.2.2.2.2
    | _ => False
  | .getfield _ => ev_gf lay q.2.2.1 q.2.2.2.1 pc ls st σ K
  | .putfield _ => ev_pf lay q.2.2.1 q.2.2.2.1 q.2.2.2.2.1 pc ls st σ K
  | .iaload => ev_ia lay xo pc ls st σ K
  | .baload => ev_za lay pc ls st σ K
  | .laload => ev_ja lay pc ls st σ K
  | .iastore => ev_is lay pc ls st σ K
  | .bastore => ev_zs lay pc ls st σ K
  | .lastore => ev_js lay pc ls st σ K
  | .arraylength => ev_al lay xo pc ls st σ K
  | .invokevirtual _ => ev_cv F lay hd q.2.2.1 q.2.2.2.1 q.2.2.2.2.2 pc ls st σ K
  | .invokestatic _ => ev_ca F hd q.2.2.1 q.2.2.2.1 pc ls st σ K
  | _ => False
/-- many instructions: as far as the table cd goes, or to a place where one stops -/
def ev_wp (F : ev_F) (lay : List ev_C) (xo : Option (Nat × (Nat → Int32))) (hd : List (Nat × Nat × Nat × Nat)) (cd : Nat → Option ev_I) (stp : Nat → Bool) (Q : ev_K) : Nat → ev_K
  | 0 => fun _ _ _ _ => False
  | n + 1 => fun pc ls st σ => match cd pc with
    | none => Q pc ls st σ
    | some q => ev_st F lay xo hd q pc ls st σ (fun pc' ls' st' σ' => match stp pc' with
      | true => Q pc' ls' st' σ'
      | false => ev_wp F lay xo hd cd stp Q n pc' ls' st' σ')
/-- a table of a method's instructions, and how it is read -/
def ev_lu : List (Nat × ev_I) → Nat → Option ev_I
  | [], _ => none
  | (k, q) :: t, pc => match Nat.beq k pc with
    | true => some q
    | false => ev_lu t pc
def ev_tl : List (Nat × Nat) → Nat → Option Nat
  | [], _ => none
  | (k, q) :: t, pc => match Nat.beq k pc with
    | true => some q
    | false => ev_tl t pc
theorem ev_lu_mem : ∀ {l : List (Nat × ev_I)} {pc : Nat} {q : ev_I}, ev_lu l pc = some q → (pc, q) ∈ l
  | [], _, _, h => by cases h
  | (k, z) :: t, pc, q, h => by
    unfold ev_lu at h
    split at h
    · rename_i hb
      have : k = pc := Nat.eq_of_beq_eq_true hb
      subst this
      cases h
      exact List.mem_cons_self
    · exact List.mem_cons_of_mem _ (ev_lu_mem h)
theorem ev_tl_mem : ∀ {l : List (Nat × Nat)} {pc q : Nat}, ev_tl l pc = some q → (pc, q) ∈ l
  | [], _, _, h => by cases h
  | (k, z) :: t, pc, q, h => by
    unfold ev_tl at h
    split at h
    · rename_i hb
      have : k = pc := Nat.eq_of_beq_eq_true hb
      subst this
      cases h
      exact List.mem_cons_self
    · exact List.mem_cons_of_mem _ (ev_tl_mem h)
