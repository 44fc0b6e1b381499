/-! WHAT THE METHODS DO: the words in which it is said -/
abbrev sp_P : Type := Prop × ((Option Value ⊕ Nat) → ev_W → Prop)
/-- the answer, and the world as it was -/
def sp_e (v : Int32) (σ : ev_W) : sp_P := (True, fun o σ' => o = .inl (some (.int v)) ∧ σ = σ')
/-- an answer of a kind, and the world as it was -/
def sp_i (pre : Prop) (Q : Int32 → Prop) (σ : ev_W) : sp_P := (pre, fun o σ' => ∃ v : Int32, Q v ∧ o = .inl (some (.int v)) ∧ σ = σ')
/-- an answer, and another world -/
def sp_m (pre : Prop) (Q : Int32 → ev_W → Prop) : sp_P := (pre, fun o σ' => ∃ v : Int32, Q v σ' ∧ o = .inl (some (.int v)))
def sp_v (pre : Prop) (Q : ev_W → Prop) : sp_P := (pre, fun o σ' => Q σ' ∧ o = .inl none)
def sp_b (v : Int32) : Prop := v = 0 ∨ v = 1
theorem sp_in {i : Int32} {n : Nat} (h : decide (i < 0) = false) (h2 : decide (n ≤ i.toNatClampNeg) = false) : vp_in i n := fun z => z.elim (of_decide_eq_false h) (of_decide_eq_false h2)
theorem sp_in2 {i : Int32} {n : Nat} (hn : n < 2 ^ 31) (h : ¬ i < 0) (h2 : ¬ Int32.ofNat n ≤ i) : vp_in i n := by
  rcases pk_ix i hn with z | z | ⟨j, hj, rfl⟩
  · exact absurd z h
  · exact absurd z h2
  · exact vp_in_nI hj hn
/-- the class: gate, near and tearing are as they must be -/
def sp_inv (σ : ev_W) : Prop := vp_in (σ.1 0 3) 12 ∧ sp_b (σ.1 1 4) ∧ sp_b (σ.1 1 5)
/-- the class's memory writes: cells 1, 4, 5 alone; near and tearing stay booleans -/
def sp_w (σ σ' : ev_W) : Prop := (∀ k, k ≠ 1 → k ≠ 4 → k ≠ 5 → σ'.1 k = σ.1 k) ∧ σ'.2 = σ.2 ∧ (sp_b (σ.1 1 4) → sp_b (σ'.1 1 4)) ∧ (sp_b (σ.1 1 5) → sp_b (σ'.1 1 5))
/-- the class writes: its own cells alone; what must hold of them holds on -/
def sp_t (σ σ' : ev_W) : Prop := (∀ k, 6 ≤ k → σ'.1 k = σ.1 k) ∧ σ'.2 = σ.2 ∧ (sp_inv σ → sp_inv σ')
theorem sp_w.rf (σ : ev_W) : sp_w σ σ := ⟨fun _ _ _ _ => rfl, rfl, id, id⟩
theorem sp_t.rf (σ : ev_W) : sp_t σ σ := ⟨fun _ _ => rfl, rfl, id⟩
theorem sp_w.tr {a b c : ev_W} (h : sp_w a b) (g : sp_w b c) : sp_w a c := ⟨fun k x y z => (g.1 k x y z).trans (h.1 k x y z), g.2.1.trans h.2.1, fun x => g.2.2.1 (h.2.2.1 x), fun x => g.2.2.2 (h.2.2.2 x)⟩
theorem sp_t.tr {a b c : ev_W} (h : sp_t a b) (g : sp_t b c) : sp_t a c := ⟨fun k x => (g.1 k x).trans (h.1 k x), g.2.1.trans h.2.1, fun x => g.2.2 (h.2.2 x)⟩
theorem sp_w.t {a b : ev_W} (h : sp_w a b) : sp_t a b := ⟨fun k x => h.1 k (by omega) (by omega) (by omega), h.2.1, fun ⟨g1, g2, g3⟩ => ⟨by rw [h.1 0 (by decide) (by decide) (by decide)]; exact g1, h.2.2.1 g2, h.2.2.2 g3⟩⟩
theorem sp_w.inv {a b : ev_W} (h : sp_w a b) (i : sp_inv a) : sp_inv b := h.t.2.2 i
/-- the words of the class's memory: all 0 -/
def sp_zero (σ : ev_W) : Prop := ∀ i, σ.1 4 i = 0
theorem sp_up1 (σ : ev_W) (j : Nat) (x : Int32) (h4 : j = 4 → sp_b x) (h5 : j = 5 → sp_b x) : sp_w σ (ev_up σ 1 j x) := by
  refine ⟨fun k h _ _ => by simp [ev_up, h], rfl, fun h => ?_, fun h => ?_⟩
  · by_cases hj : j = 4
    · subst hj
      simpa [ev_up, upd] using h4 rfl
    · simpa [ev_up, upd, Ne.symm hj] using h
  · by_cases hj : j = 5
    · subst hj
      simpa [ev_up, upd] using h5 rfl
    · simpa [ev_up, upd, Ne.symm hj] using h
theorem sp_up45 (σ : ev_W) (c : Nat) (hc : c = 4 ∨ c = 5) (j : Nat) (x : Int32) : sp_w σ (ev_up σ c j x) := by
  have h1 : (1 : Nat) ≠ c := by omega
  refine ⟨fun k _ h4 h5 => ?_, rfl, fun h => ?_, fun h => ?_⟩
  · have : k ≠ c := by omega
    simp [ev_up, this]
  · simpa [ev_up, h1] using h
  · simpa [ev_up, h1] using h
theorem sp_up0 (σ : ev_W) (j : Nat) (x : Int32) (h3 : j = 3 → vp_in x 12) : sp_t σ (ev_up σ 0 j x) := by
  refine ⟨fun k h => ?_, rfl, fun ⟨g1, g2, g3⟩ => ⟨?_, ?_, ?_⟩⟩
  · have : k ≠ 0 := by omega
    simp [ev_up, this]
  · by_cases hj : j = 3
    · subst hj
      simpa [ev_up, upd] using h3 rfl
    · simpa [ev_up, upd, Ne.symm hj] using g1
  · simpa [ev_up] using g2
  · simpa [ev_up] using g3
theorem sp_up23 (σ : ev_W) (c : Nat) (hc : c = 2 ∨ c = 3) (j : Nat) (x : Int32) : sp_t σ (ev_up σ c j x) := by
  have h0 : (0 : Nat) ≠ c := by omega
  have h1 : (1 : Nat) ≠ c := by omega
  refine ⟨fun k h => ?_, rfl, fun ⟨g1, g2, g3⟩ => ⟨?_, ?_, ?_⟩⟩
  · have : k ≠ c := by omega
    simp [ev_up, this]
  · simpa [ev_up, h0] using g1
  · simpa [ev_up, h1] using g2
  · simpa [ev_up, h1] using g3
theorem sp_in3 {i : Int32} {n : Nat} (hn : n < 2 ^ 31) (h : ¬ i < 0) (h2 : i < Int32.ofNat n) : vp_in i n := sp_in2 hn h (fun z => by
  rw [Int32.lt_iff_toInt_lt] at h2
  rw [Int32.le_iff_toInt_le] at z
  omega)
/-- it throws (the kinds X), or it ends otherwise (N) -/
def sp_x (pre : Prop) (X : Nat → Prop) (N : Option Value → ev_W → Prop) (σ : ev_W) : sp_P := (pre ∧ 0 < σ.2.2, fun o σ' => (∃ k, X k ∧ o = .inr k ∧ σ'.1 = σ.1 ∧ σ'.2.1 = σ.2.1 ∧ σ'.2.2 + 1 = σ.2.2) ∨ (∃ v, N v σ' ∧ o = .inl v))
theorem sp_pos {n : Nat} (h : 0 < n) : ∃ b, n = b + 1 := ⟨n - 1, by omega⟩
def sp_upto (n t : Int32) : Int32 := if n < 0 then 0 else if t < n then 0 else 1
theorem sp_upto_b (n t : Int32) : sp_b (sp_upto n t) := by
  unfold sp_upto
  split
  · exact Or.inl rfl
  · split
    · exact Or.inl rfl
    · exact Or.inr rfl
def sp_time (a b : Int32) : Int32 := if sp_upto a 9999 = 0 then 0 else if sp_upto b 1439 = 0 then 0 else 1
def sp_add (a b : Int32) : Int32 := if a + b ≤ 65535 then a + b else a + b - 65535
def sp_at (σ : ev_W) (b w : Int32) : Int32 := if b * 4 + w < 0 then 0 else if Int32.ofNat 256 ≤ b * 4 + w then 0 else σ.1 4 (b * 4 + w).toNatClampNeg
theorem sp_at_zero {σ : ev_W} (h : sp_zero σ) (b w : Int32) : sp_at σ b w = 0 := by
  unfold sp_at
  rw [h]
  split
  · rfl
  · split <;> rfl
/-- what is to be shown of a method's body -/
def pg_Rn (F : ev_F) (j : Nat) (y : ev_M) (hd : List (Nat × Nat × Nat × Nat)) (tm : List (Nat × Nat)) : Prop := ∀ vs σ P, F j vs σ = some P → P.1 → (∀ u ∈ vs, u.category = 1) ∧ vs.length ≤ y.2.2.1 ∧ ev_Run pg_TB pg_cl pg_lay none F pg_mt hd y.1.cls y.2.1 y.2.2.1 y.2.2.2.2.2.1 y.2.2.2.2.2.2 (ev_at (ev_tl tm) σ.2.2 P.2) 0 (ev_ent vs y.2.2.1) [] σ
theorem sp_upto_in {g : Int32} (h : ¬ sp_upto g 11 = 0) : vp_in g 12 := by
  unfold sp_upto at h
  split at h
  · exact absurd rfl h
  · rename_i h1
    split at h
    · exact absurd rfl h
    · rename_i h2
      refine sp_in2 (by decide) h1 (fun z => h2 ?_)
      rw [Int32.lt_iff_toInt_lt]
      rw [Int32.le_iff_toInt_le] at z
      have e1 : (Int32.ofNat 12).toInt = 12 := by decide
      have e2 : (11 : Int32).toInt = 11 := by decide
      omega
def sp_prod (k a b c : Int32) : Int32 := if sp_upto a 65535 = 0 then 0 else if sp_upto b 65535 = 0 then 0 else if sp_upto c 65535 = 0 then 0 else if k = 1 then (if a < 1 then 0 else if 60 < a then 0 else if b = 0 then (if c = 0 then 1 else 0) else 0) else if k = 2 then (if a < 1 then 0 else if c < b then 0 else 1) else if k = 3 then (if c = 0 then 1 else 0) else 0
def sp_clk (g d m : Int32) : Int32 := if sp_upto g 11 = 0 then 0 else if sp_time d m = 0 then 0 else 1
def sp_tr (n j : Int32) : Int32 := if sp_upto n 100 = 0 then 0 else if sp_upto j 65535 = 0 then 0 else 1
def sp_val (l z d : Int32) : Int32 := if sp_upto l 255 = 0 then 0 else if sp_upto z 15 = 0 then 0 else if sp_upto d 15 = 0 then 0 else 1
def sp_top (c : Int32) : Int32 := if c < 1 then 0 else if c ≤ 65535 then 1 else 0
def sp_ins (d m z : Int32) : Int32 := if sp_time d m = 0 then 0 else if sp_upto z 15 = 0 then 0 else 1
def sp_wd (b w : Int32) : Int32 := if sp_upto b 63 = 0 then 0 else if sp_upto w 3 = 0 then 0 else 1
def sp_cnt (a : Int32) : Int32 := if a = 0 then 0 else if a = 1 then 0 else if a = 2 then 0 else if a = 3 then 0 else -1
/-- the class as it is made: nothing written, away, nothing refused -/
def sp_fresh (σ : ev_W) : Prop := sp_zero σ ∧ σ.1 1 2 = 0 ∧ σ.1 1 3 = 0 ∧ σ.1 1 4 = 0 ∧ σ.1 0 5 = 0
/-- the law's helpers: the class's cells, the exception's room -/
def sp_T (σ σ' : ev_W) : Prop := (∀ k, 6 ≤ k → σ'.1 k = σ.1 k) ∧ sp_inv σ' ∧ σ'.2.2 ≤ σ.2.2 ∧ σ.2.2 ≤ σ'.2.2 + 1
theorem sp_T_x {σ σ' : ev_W} (i : sp_inv σ) (e1 : σ'.1 = σ.1) (e3 : σ'.2.2 + 1 = σ.2.2) : sp_T σ σ' := by
  refine ⟨fun k _ => by rw [e1], ?_, by omega, by omega⟩
  unfold sp_inv
  rw [e1]
  exact i
theorem sp_T_n {σ σ' : ev_W} (i : sp_inv σ) (h : sp_t σ σ') : sp_T σ σ' := ⟨h.1, h.2.2 i, by rw [h.2.1]; exact Nat.le_refl _, by rw [h.2.1]; omega⟩
theorem sp_T_l {σ σ' : ev_W} {c j : Nat} {x : Int64} (h : sp_T σ σ') : sp_T σ (ev_uL σ' c j x) := h
