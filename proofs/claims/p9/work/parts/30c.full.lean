/-! THE REFERENCE, whatever its state: the words in which it is said -/
theorem md_nn {n : Int32} (h : 0 ≤ n) : ∃ k : Nat, k < 2147483648 ∧ n = Int32.ofNat k ∧ n.toInt = k := by
  rw [Int32.le_iff_toInt_le] at h
  have e0 : (0 : Int32).toInt = 0 := by decide
  have h2 : n.toInt < 2147483648 := Int32.toInt_lt n
  refine ⟨n.toInt.toNat, by omega, ?_, by omega⟩
  apply Int32.toInt_inj.mp
  rw [Int32.toInt_ofNat_of_lt (by omega)]
  omega
theorem md_mod {n : Int32} (h : 0 ≤ n) : ∃ j : Nat, j < 16 ∧ n - n / 16 * 16 = Int32.ofNat j := by
  obtain ⟨k, hk, rfl, -⟩ := md_nn h
  have e : Int32.ofNat k / 16 = Int32.ofNat (k / 16) := by
    apply Int32.toInt_inj.mp
    rw [Int32.toInt_div_of_ne_right _ _ (by decide), Int32.toInt_ofNat_of_lt (by omega), Int32.toInt_ofNat_of_lt (by omega)]
    have : (16 : Int32).toInt = 16 := by decide
    rw [this, Int.tdiv_eq_ediv_of_nonneg (by omega)]
    omega
  refine ⟨k % 16, by omega, ?_⟩
  rw [e, show (16 : Int32) = Int32.ofNat 16 from rfl, ← Int32.ofNat_mul]
  apply Int32.toInt_inj.mp
  rw [Int32.toInt_sub, Int32.toInt_ofNat_of_lt (by omega), Int32.toInt_ofNat_of_lt (by omega), Int32.toInt_ofNat_of_lt (by omega)]
  have : ((k : Int) - ((k / 16 * 16 : Nat) : Int)) = ((k % 16 : Nat) : Int) := by omega
  rw [this]
  apply Int.bmod_eq_of_le <;> omega
theorem md_mask (x : Int32) : 0 ≤ x &&& 65535 := by
  rw [Int32.le_iff_toInt_le]
  have e0 : (0 : Int32).toInt = 0 := by decide
  rw [e0]
  have : (x &&& 65535).toBitVec = x.toBitVec &&& 65535#32 := rfl
  show 0 ≤ (x &&& 65535).toBitVec.toInt
  rw [this, BitVec.toInt_eq_toNat_of_lt]
  · omega
  · rw [BitVec.toNat_and]
    have := @Nat.and_le_right x.toBitVec.toNat (65535#32).toNat
    have e : (65535#32).toNat = 65535 := by decide
    omega
theorem md_place {n : Int32} (h : 0 ≤ n) : ∃ j : Nat, j < 16 ∧ 9 + 2 * (n - n / 16 * 16) = Int32.ofNat (9 + 2 * j) := by
  obtain ⟨j, hj, e⟩ := md_mod h
  refine ⟨j, hj, ?_⟩
  rw [e, show (2 : Int32) = Int32.ofNat 2 from rfl, show (9 : Int32) = Int32.ofNat 9 from rfl, ← Int32.ofNat_mul, ← Int32.ofNat_add]
theorem sp_upto_nn {n t : Int32} (h : ¬ sp_upto n t = 0) : 0 ≤ n := by
  unfold sp_upto at h
  split at h
  · exact absurd rfl h
  · rename_i h1
    rw [Int32.lt_iff_toInt_lt] at h1
    rw [Int32.le_iff_toInt_le]
    omega
/-- a block with eight words from it on -/
def md_j (b : Int32) : Prop := ∃ j : Nat, j ≤ 62 ∧ b = Int32.ofNat j
theorem md_j4 {t : Int32} (h : t = 41 ∨ t = 43) : md_j t := h.elim (fun h => ⟨41, by decide, h⟩) (fun h => ⟨43, by decide, h⟩)
theorem md_j5 {t : Int32} (h : t = 5 ∨ t = 7) : md_j t := h.elim (fun h => ⟨5, by decide, h⟩) (fun h => ⟨7, by decide, h⟩)
theorem md_jp {t : Int32} (h : ∃ j : Nat, j < 16 ∧ t = Int32.ofNat (9 + 2 * j)) : md_j t := by
  obtain ⟨j, hj, rfl⟩ := h
  exact ⟨9 + 2 * j, by omega, rfl⟩
theorem md_l41 {v : Int32} (h : v = -1 ∨ v = 41 ∨ v = 43) (h2 : ¬ v < 0) : v = 41 ∨ v = 43 := by
  rcases h with rfl | h
  · exact absurd (by decide) h2
  · exact h
theorem md_l5 {v : Int32} (h : v = -1 ∨ v = 5 ∨ v = 7) (h2 : ¬ v < 0) : v = 5 ∨ v = 7 := by
  rcases h with rfl | h
  · exact absurd (by decide) h2
  · exact h
theorem md_nlt {v : Int32} (h : 0 ≤ v) : ¬ v < 0 := by
  rw [Int32.lt_iff_toInt_lt]
  rw [Int32.le_iff_toInt_le] at h
  omega
theorem md_ixk {j w : Nat} (hj : j ≤ 62) (hw : w < 8) {x : Int32} (hx : x = Int32.ofNat w) : Int32.toNatClampNeg (4 * Int32.ofNat j + x) = 4 * j + w := by
  subst hx
  rw [md_ix hj hw, md_ixn (by omega)]
theorem md_vp {b : Int32} (h : md_j b) (w : Nat) (hw : w < 8) {x : Int32} (hx : x = Int32.ofNat w) : vp_in (4 * b + x) 256 := by
  obtain ⟨j, hj, rfl⟩ := h
  subst hx
  rw [md_ix hj hw]
  exact vp_in_nI (by omega) (by decide)
/-- what holds of the reference between two calls -/
def md_ok (σ : ev_W) : Prop := (σ.1 6 5 = -1 ∨ vp_in (σ.1 6 5) 12) ∧ 0 ≤ σ.1 6 9 ∧ 0 ≤ σ.1 7 164 ∧ 0 ≤ σ.1 7 172 ∧ (σ.1 7 0 = 1 → σ.1 7 1 ≤ 60)
/-- the reference writes: its own cells alone; what must hold of them holds on -/
def md_m (σ σ' : ev_W) : Prop := (∀ c, c < 6 ∨ c = 12 → σ'.1 c = σ.1 c) ∧ σ'.2 = σ.2 ∧ (md_ok σ → md_ok σ')
theorem md_m.rf (σ : ev_W) : md_m σ σ := ⟨fun _ _ => rfl, rfl, id⟩
theorem md_m.tr {a b c : ev_W} (h : md_m a b) (g : md_m b c) : md_m a c := ⟨fun k x => (g.1 k x).trans (h.1 k x), g.2.1.trans h.2.1, fun x => g.2.2 (h.2.2 x)⟩
theorem md_of {σ σ' : ev_W} (h1 : ∀ c, c < 6 ∨ c = 12 → σ'.1 c = σ.1 c) (h2 : σ'.2 = σ.2) (h5 : σ'.1 6 5 = σ.1 6 5 ∨ σ'.1 6 5 = -1 ∨ vp_in (σ'.1 6 5) 12) (h9 : 0 ≤ σ.1 6 9 → 0 ≤ σ'.1 6 9) (ha : 0 ≤ σ.1 6 9 → 0 ≤ σ.1 7 164 → 0 ≤ σ'.1 7 164) (hb : 0 ≤ σ.1 6 9 → 0 ≤ σ.1 7 172 → 0 ≤ σ'.1 7 172) (h0 : (σ.1 7 0 = 1 → σ.1 7 1 ≤ 60) → σ'.1 7 0 = 1 → σ'.1 7 1 ≤ 60) : md_m σ σ' := by
  refine ⟨h1, h2, fun ⟨g1, g2, g3, g4, g5⟩ => ⟨?_, h9 g2, ha g2 g3, hb g2 g4, h0 g5⟩⟩
  rcases h5 with h | h | h
  · rw [h]; exact g1
  · exact Or.inl h
  · exact Or.inr h
theorem md_up6 (σ : ev_W) (f : Nat) (x : Int32) (h5 : 5 ≠ f) (h9 : 9 ≠ f) : md_m σ (ev_up σ 6 f x) := by
  refine md_of (fun c hc => ?_) rfl (Or.inl ?_) (fun h => ?_) (fun _ h => h) (fun _ h => h) (fun h => h)
  · have : c ≠ 6 := by omega
    simp [ev_up, this]
  · simp [ev_up, upd, h5]
  · simpa [ev_up, upd, h9] using h
theorem md_gate (σ : ev_W) (x : Int32) (h : x = -1 ∨ vp_in x 12) : md_m σ (ev_up σ 6 5 x) := by
  refine md_of (fun c hc => ?_) rfl (Or.inr h) (fun h => h) (fun _ h => h) (fun _ h => h) (fun h => h)
  have : c ≠ 6 := by omega
  simp [ev_up, this]
theorem md_junk (σ : ev_W) (x : Int32) (h : 0 ≤ x) : md_m σ (ev_up σ 6 9 x) := by
  refine md_of (fun c hc => ?_) rfl (Or.inl rfl) (fun _ => h) (fun _ h => h) (fun _ h => h) (fun h => h)
  have : c ≠ 6 := by omega
  simp [ev_up, this]
theorem md_upA (σ : ev_W) (c : Nat) (h8 : 8 ≤ c) (h11 : c ≤ 11) (j : Nat) (x : Int32) : md_m σ (ev_up σ c j x) := by
  have e6 : (6 : Nat) ≠ c := by omega
  have e7 : (7 : Nat) ≠ c := by omega
  refine md_of (fun k hk => ?_) rfl (Or.inl ?_) (fun h => ?_) (fun _ h => ?_) (fun _ h => ?_) (fun h => ?_)
  · have : k ≠ c := by omega
    simp [ev_up, this]
  · simp [ev_up, e6]
  · simpa [ev_up, e6] using h
  · simpa [ev_up, e7] using h
  · simpa [ev_up, e7] using h
  · simpa [ev_up, e7] using h
theorem md_c.m {σ σ' : ev_W} (h : md_c σ σ') : md_m σ σ' := by
  have e6 := h.1 6 (by decide)
  have e7 := h.1 7 (by decide)
  refine md_of (fun k hk => h.1 k (by omega)) h.2 (Or.inl (by rw [e6])) (fun g => by rw [e6]; exact g) (fun _ g => by rw [e7]; exact g) (fun _ g => by rw [e7]; exact g) (fun g => by rw [e7]; exact g)
theorem md_gin {σ : ev_W} (h : md_ok σ) (hg : 0 ≤ σ.1 6 5) : vp_in (σ.1 6 5) 12 := by
  rcases h.1 with e | e
  · rw [e] at hg
    exact absurd hg (by decide)
  · exact e
/-- a word of the reference is written -/
def md_wr (b v : Int32) (k : Nat) (σ σ' : ev_W) : Prop := (∀ c, c ≠ 6 → c ≠ 7 → σ'.1 c = σ.1 c) ∧ σ'.2 = σ.2 ∧ (∀ i, i ≠ k → σ'.1 7 i = σ.1 7 i) ∧ (σ'.1 6 5 = σ.1 6 5 ∨ σ'.1 6 5 = -1) ∧ σ'.1 6 9 = σ.1 6 9 ∧ (b ≠ 4 → 0 ≤ v → 0 ≤ σ.1 6 9 → 0 ≤ σ.1 7 k → 0 ≤ σ'.1 7 k) ∧ (σ'.1 6 10 = 0 → σ.1 6 10 = 0 ∧ (b ≠ 4 → σ'.1 7 k = v)) ∧ (σ.1 6 10 = 0 → σ.1 6 8 = -1 → σ'.1 6 10 = 0 ∧ σ'.1 6 8 = -1)
theorem md_wr.m {b v : Int32} {k : Nat} {σ σ' : ev_W} (h : md_wr b v k σ σ') (hk : 4 ≤ k) (hb : k = 164 ∨ k = 172 → b ≠ 4 ∧ 0 ≤ v) : md_m σ σ' := by
  obtain ⟨h1, h2, h3, h4, h5, h6, h7, h8⟩ := h
  refine md_of (fun c hc => h1 c (by omega) (by omega)) h2 (h4.imp id Or.inl) (fun g => by rw [h5]; exact g) (fun g9 g => ?_) (fun g9 g => ?_) (fun g => by rw [h3 0 (by omega), h3 1 (by omega)]; exact g)
  · by_cases e : 164 = k
    · subst e
      exact h6 (hb (Or.inl rfl)).1 (hb (Or.inl rfl)).2 g9 g
    · rw [h3 164 e]; exact g
  · by_cases e : 172 = k
    · subst e
      exact h6 (hb (Or.inr rfl)).1 (hb (Or.inr rfl)).2 g9 g
    · rw [h3 172 e]; exact g
theorem md_wr.mj {b v : Int32} {x : Int32} {w : Nat} {σ σ' : ev_W} (hb : b = 41 ∨ b = 43) (hv : 0 ≤ v) (hw : w < 8) (hx : x = Int32.ofNat w) (h : md_wr b v (Int32.toNatClampNeg (4 * b + x)) σ σ') : md_m σ σ' := by
  have hne : b ≠ 4 := by rcases hb with rfl | rfl <;> decide
  refine h.m ?_ (fun _ => ⟨hne, hv⟩)
  rcases hb with rfl | rfl
  · rw [show (41 : Int32) = Int32.ofNat 41 from rfl, md_ixk (by decide) hw hx]; omega
  · rw [show (43 : Int32) = Int32.ofNat 43 from rfl, md_ixk (by decide) hw hx]; omega
def md_chain (f : Nat → Int32) : Int32 := sp_add (sp_add (sp_add (sp_add (sp_add (sp_add (sp_add 0 (f 0)) (f 1)) (f 2)) (f 3)) (f 4)) (f 5)) (f 6)
/-- the record at block j is right -/
def md_right (σ : ev_W) (j : Nat) : Prop := σ.1 7 (4 * j + 7) = 65535 - md_chain (fun w => σ.1 7 (4 * j + w))
theorem md_right_of {σ σ' : ev_W} {j : Nat} (h : ∀ i, 4 * j ≤ i → i < 4 * j + 8 → σ'.1 7 i = σ.1 7 i) (r : md_right σ j) : md_right σ' j := by
  unfold md_right md_chain at r ⊢
  dsimp only at r ⊢
  rw [h _ (by omega) (by omega), h (4 * j + 0) (by omega) (by omega), h (4 * j + 1) (by omega) (by omega), h (4 * j + 2) (by omega) (by omega), h (4 * j + 3) (by omega) (by omega), h (4 * j + 4) (by omega) (by omega), h (4 * j + 5) (by omega) (by omega), h (4 * j + 6) (by omega) (by omega)]
  exact r
/-- a record is written at block j -/
def md_rc (j : Nat) (σ σ' : ev_W) : Prop := (∀ c, c ≠ 6 → c ≠ 7 → c ≠ 11 → σ'.1 c = σ.1 c) ∧ σ'.2 = σ.2 ∧ (∀ i, i < 4 * j ∨ 4 * j + 8 ≤ i → σ'.1 7 i = σ.1 7 i) ∧ (σ'.1 6 5 = σ.1 6 5 ∨ σ'.1 6 5 = -1) ∧ σ'.1 6 9 = σ.1 6 9 ∧ (0 ≤ σ.1 11 0 → 0 ≤ σ.1 6 9 → 0 ≤ σ.1 7 (4 * j) → 0 ≤ σ'.1 7 (4 * j)) ∧ (σ'.1 6 10 = 0 → σ.1 6 10 = 0 ∧ md_right σ' j) ∧ (σ.1 6 10 = 0 → σ.1 6 8 = -1 → σ'.1 6 10 = 0 ∧ σ'.1 6 8 = -1)
theorem md_rc.m {j : Nat} {σ σ' : ev_W} (h : md_rc j σ σ') (hj : 5 ≤ j) (hj2 : j ≤ 39 ∨ j = 41 ∨ j = 43) (h0 : j = 41 ∨ j = 43 → 0 ≤ σ.1 11 0) : md_m σ σ' := by
  obtain ⟨h1, h2, h3, h4, h5, h6, h7, h8⟩ := h
  refine md_of (fun c hc => h1 c (by omega) (by omega) (by omega)) h2 (h4.imp id Or.inl) (fun g => by rw [h5]; exact g) (fun g9 g => ?_) (fun g9 g => ?_) (fun g => by rw [h3 0 (by omega), h3 1 (by omega)]; exact g)
  · by_cases e : j = 41
    · subst e
      exact h6 (h0 (Or.inl rfl)) g9 g
    · rw [h3 164 (by omega)]; exact g
  · by_cases e : j = 43
    · subst e
      exact h6 (h0 (Or.inr rfl)) g9 g
    · rw [h3 172 (by omega)]; exact g
set_option maxHeartbeats 1000000 in
theorem md_rec8 {s0 s1 s2 s3 s4 s5 s6 s7 s8 : ev_W} {j : Nat} {b : Int32} (hb : b ≠ 4) (e7 : s0.1 11 7 = 65535 - md_chain (s0.1 11)) (k0 : md_wr b (s0.1 11 0) (4 * j + 0) s0 s1) (k1 : md_wr b (s1.1 11 1) (4 * j + 1) s1 s2) (k2 : md_wr b (s2.1 11 2) (4 * j + 2) s2 s3) (k3 : md_wr b (s3.1 11 3) (4 * j + 3) s3 s4) (k4 : md_wr b (s4.1 11 4) (4 * j + 4) s4 s5) (k5 : md_wr b (s5.1 11 5) (4 * j + 5) s5 s6) (k6 : md_wr b (s6.1 11 6) (4 * j + 6) s6 s7) (k7 : md_wr b (s7.1 11 7) (4 * j + 7) s7 s8) : md_rc j s0 s8 := by
  obtain ⟨a0, b0, c0, d0, e0, f0, g0, h0⟩ := k0
  obtain ⟨a1, b1, c1, d1, e1, f1, g1, h1⟩ := k1
  obtain ⟨a2, b2, c2, d2, e2, f2, g2, h2⟩ := k2
  obtain ⟨a3, b3, c3, d3, e3, f3, g3, h3⟩ := k3
  obtain ⟨a4, b4, c4, d4, e4, f4, g4, h4⟩ := k4
  obtain ⟨a5, b5, c5, d5, e5, f5, g5, h5⟩ := k5
  obtain ⟨a6, b6, c6, d6, e6, f6, g6, h6⟩ := k6
  obtain ⟨a7, b7, c7, d7, e7', f7, g7, h7⟩ := k7
  have r1 : s1.1 11 = s0.1 11 := a0 11 (by decide) (by decide)
  have r2 : s2.1 11 = s0.1 11 := (a1 11 (by decide) (by decide)).trans r1
  have r3 : s3.1 11 = s0.1 11 := (a2 11 (by decide) (by decide)).trans r2
  have r4 : s4.1 11 = s0.1 11 := (a3 11 (by decide) (by decide)).trans r3
  have r5 : s5.1 11 = s0.1 11 := (a4 11 (by decide) (by decide)).trans r4
  have r6 : s6.1 11 = s0.1 11 := (a5 11 (by decide) (by decide)).trans r5
  have r7 : s7.1 11 = s0.1 11 := (a6 11 (by decide) (by decide)).trans r6
  refine ⟨fun c x y z => ?_, ?_, fun i hi => ?_, ?_, ?_, fun x y z => ?_, fun t8 => ?_, fun x y => ?_⟩
  · rw [a7 c x y, a6 c x y, a5 c x y, a4 c x y, a3 c x y, a2 c x y, a1 c x y, a0 c x y]
  · rw [b7, b6, b5, b4, b3, b2, b1, b0]
  · rw [c7 i (by omega), c6 i (by omega), c5 i (by omega), c4 i (by omega), c3 i (by omega), c2 i (by omega), c1 i (by omega), c0 i (by omega)]
  · have st : ∀ {x y z : Int32}, (y = x ∨ y = -1) → (z = y ∨ z = -1) → (z = x ∨ z = -1) := by
      intro x y z p q
      rcases q with rfl | q
      · exact p
      · exact Or.inr q
    exact st (st (st (st (st (st (st d0 d1) d2) d3) d4) d5) d6) d7
  · rw [e7', e6, e5, e4, e3, e2, e1, e0]
  · rw [c7 _ (by omega), c6 _ (by omega), c5 _ (by omega), c4 _ (by omega), c3 _ (by omega), c2 _ (by omega), c1 _ (by omega)]
    exact f0 hb x y z
  · obtain ⟨t7, w7⟩ := g7 t8
    obtain ⟨t6, w6⟩ := g6 t7
    obtain ⟨t5, w5⟩ := g5 t6
    obtain ⟨t4, w4⟩ := g4 t5
    obtain ⟨t3, w3⟩ := g3 t4
    obtain ⟨t2, w2⟩ := g2 t3
    obtain ⟨t1, w1⟩ := g1 t2
    obtain ⟨t0, w0⟩ := g0 t1
    refine ⟨t0, ?_⟩
    have v0 : s8.1 7 (4 * j + 0) = s0.1 11 0 := by rw [c7 _ (by omega), c6 _ (by omega), c5 _ (by omega), c4 _ (by omega), c3 _ (by omega), c2 _ (by omega), c1 _ (by omega), w0 hb]
    have v1 : s8.1 7 (4 * j + 1) = s0.1 11 1 := by rw [c7 _ (by omega), c6 _ (by omega), c5 _ (by omega), c4 _ (by omega), c3 _ (by omega), c2 _ (by omega), w1 hb, r1]
    have v2 : s8.1 7 (4 * j + 2) = s0.1 11 2 := by rw [c7 _ (by omega), c6 _ (by omega), c5 _ (by omega), c4 _ (by omega), c3 _ (by omega), w2 hb, r2]
    have v3 : s8.1 7 (4 * j + 3) = s0.1 11 3 := by rw [c7 _ (by omega), c6 _ (by omega), c5 _ (by omega), c4 _ (by omega), w3 hb, r3]
    have v4 : s8.1 7 (4 * j + 4) = s0.1 11 4 := by rw [c7 _ (by omega), c6 _ (by omega), c5 _ (by omega), w4 hb, r4]
    have v5 : s8.1 7 (4 * j + 5) = s0.1 11 5 := by rw [c7 _ (by omega), c6 _ (by omega), w5 hb, r5]
    have v6 : s8.1 7 (4 * j + 6) = s0.1 11 6 := by rw [c7 _ (by omega), w6 hb, r6]
    have v7 : s8.1 7 (4 * j + 7) = s0.1 11 7 := by rw [w7 hb, r7]
    unfold md_right md_chain
    unfold md_chain at e7
    dsimp only
    rw [v7, v0, v1, v2, v3, v4, v5, v6]
    exact e7
  · obtain ⟨t1, u1⟩ := h0 x y
    obtain ⟨t2, u2⟩ := h1 t1 u1
    obtain ⟨t3, u3⟩ := h2 t2 u2
    obtain ⟨t4, u4⟩ := h3 t3 u3
    obtain ⟨t5, u5⟩ := h4 t4 u4
    obtain ⟨t6, u6⟩ := h5 t5 u5
    obtain ⟨t7, u7⟩ := h6 t6 u6
    exact h7 t7 u7
theorem md_rc.up7 {j : Nat} {σ σ' : ev_W} {x : Int32} (h : md_rc j (ev_up σ 11 7 x) σ') : md_rc j σ σ' := by
  obtain ⟨h1, h2, h3, h4, h5, h6, h7, h8⟩ := h
  exact ⟨fun c a b d => by rw [h1 c a b d]; simp [ev_up, d], h2, h3, h4, h5, h6, h7, h8⟩
/-- of twins, one is written -/
def md_tw (j : Nat) (σ σ' : ev_W) : Prop := (∀ i, i < 4 * j ∨ 4 * j + 16 ≤ i → σ'.1 7 i = σ.1 7 i) ∧ (σ'.1 6 10 = 0 → σ.1 6 10 = 0 ∧ (md_right σ' j ∨ md_right σ' (j + 2))) ∧ (σ.1 6 10 = 0 → σ.1 6 8 = -1 → σ'.1 6 10 = 0 ∧ σ'.1 6 8 = -1)
theorem md_rc.tw1 {j : Nat} {σ σ' : ev_W} (h : md_rc j σ σ') : md_tw j σ σ' := ⟨fun i hi => h.2.2.1 i (by omega), fun t => ⟨(h.2.2.2.2.2.2.1 t).1, Or.inl (h.2.2.2.2.2.2.1 t).2⟩, h.2.2.2.2.2.2.2⟩
theorem md_rc.tw2 {j : Nat} {σ σ' : ev_W} (h : md_rc (j + 2) σ σ') : md_tw j σ σ' := ⟨fun i hi => h.2.2.1 i (by omega), fun t => ⟨(h.2.2.2.2.2.2.1 t).1, Or.inr (h.2.2.2.2.2.2.1 t).2⟩, h.2.2.2.2.2.2.2⟩
/-- the product is written -/
theorem md_w4 {s0 s1 s2 s3 s4 : ev_W} {k a b c : Int32} (t0 : s0.1 6 10 = 0) (r0 : s0.1 6 8 = -1) (k0 : md_wr 0 k 0 s0 s1) (k1 : md_wr 0 a 1 s1 s2) (k2 : md_wr 0 b 2 s2 s3) (k3 : md_wr 0 c 3 s3 s4) (hC : k = 1 → a ≤ 60) : md_m s0 s4 ∧ s4.1 6 10 = 0 ∧ s4.1 6 8 = -1 := by
  obtain ⟨a0, b0, c0, d0, e0, f0, g0, h0⟩ := k0
  obtain ⟨a1, b1, c1, d1, e1, f1, g1, h1⟩ := k1
  obtain ⟨a2, b2, c2, d2, e2, f2, g2, h2⟩ := k2
  obtain ⟨a3, b3, c3, d3, e3, f3, g3, h3⟩ := k3
  obtain ⟨t1, u1⟩ := h0 t0 r0
  obtain ⟨t2, u2⟩ := h1 t1 u1
  obtain ⟨t3, u3⟩ := h2 t2 u2
  obtain ⟨t4, u4⟩ := h3 t3 u3
  have st : ∀ {x y z : Int32}, (y = x ∨ y = -1) → (z = y ∨ z = -1) → (z = x ∨ z = -1) := by
    intro x y z p q
    rcases q with rfl | q
    · exact p
    · exact Or.inr q
  have w0 : s4.1 7 0 = k := by rw [c3 0 (by decide), c2 0 (by decide), c1 0 (by decide), (g0 t1).2 (by decide)]
  have w1 : s4.1 7 1 = a := by rw [c3 1 (by decide), c2 1 (by decide), (g1 t2).2 (by decide)]
  refine ⟨md_of (fun q hq => ?_) ?_ ((st (st (st d0 d1) d2) d3).imp id Or.inl) (fun g => ?_) (fun _ g => ?_) (fun _ g => ?_) (fun _ => ?_), t4, u4⟩
  · rw [a3 q (by omega) (by omega), a2 q (by omega) (by omega), a1 q (by omega) (by omega), a0 q (by omega) (by omega)]
  · rw [b3, b2, b1, b0]
  · rw [e3, e2, e1, e0]; exact g
  · rw [c3 _ (by decide), c2 _ (by decide), c1 _ (by decide), c0 _ (by decide)]; exact g
  · rw [c3 _ (by decide), c2 _ (by decide), c1 _ (by decide), c0 _ (by decide)]; exact g
  · rw [w0, w1]; exact hC
theorem sp_prod_60 {k a b c : Int32} (h : ¬ sp_prod k a b c = 0) (hk : k = 1) : a ≤ 60 := by
  unfold sp_prod at h
  split at h
  · exact absurd rfl h
  split at h
  · exact absurd rfl h
  split at h
  · exact absurd rfl h
  try rw [if_pos hk] at h
  split at h
  · exact absurd rfl h
  split at h
  · exact absurd rfl h
  · rename_i h60
    rw [Int32.lt_iff_toInt_lt] at h60
    rw [Int32.le_iff_toInt_le]
    omega
/-- the one-time bits -/
def md_bit (σ : ev_W) (b : Nat) : Int32 := (σ.1 7 (16 + b / 16) >>> (Int32.ofNat (b % 16) &&& 31)) &&& 1
def md_cnt (σ : ev_W) : Nat → Int32
  | 0 => 0
  | n + 1 => md_cnt σ n + md_bit σ n
theorem md_cnt_all {σ : ev_W} : ∀ n, n ≤ 64 → (∀ b, b < n → md_bit σ b = 1) → md_cnt σ n = Int32.ofNat n
  | 0, _, _ => rfl
  | n + 1, h, g => by
    show md_cnt σ n + md_bit σ n = _
    rw [md_cnt_all n (by omega) (fun b hb => g b (by omega)), g n (by omega), show (1 : Int32) = Int32.ofNat 1 from rfl, ← Int32.ofNat_add]
theorem md_full {σ : ev_W} (hk : σ.1 7 0 = 1 → σ.1 7 1 ≤ 60) (h1 : σ.1 7 0 = 1) (h : ¬ σ.1 7 1 ≤ md_cnt σ 64) (g : ∀ b, b < 64 → md_bit σ b = 1) : False := by
  rw [md_cnt_all 64 (by decide) g] at h
  have := hk h1
  rw [Int32.le_iff_toInt_le] at this h
  have e1 : (60 : Int32).toInt = 60 := by decide
  have e2 : (Int32.ofNat 64).toInt = 64 := by decide
  omega
theorem md_num {σ : ev_W} (h : md_ok σ) {t : Int32} (ht : t = 41 ∨ t = 43) : 0 ≤ σ.1 7 (Int32.toNatClampNeg (4 * t + 0)) := by
  rcases ht with rfl | rfl
  · exact h.2.2.1
  · exact h.2.2.2.1
theorem md_inj {i j : Nat} (hi : i ≤ 62) (hj : j ≤ 62) (e : Int32.ofNat i = Int32.ofNat j) : i = j := by
  have := congrArg Int32.toInt e
  rw [Int32.toInt_ofNat_of_lt (by omega), Int32.toInt_ofNat_of_lt (by omega)] at this
  omega
theorem md_ne4 {j : Nat} (h : 5 ≤ j) (hj : j ≤ 62) : Int32.ofNat j ≠ 4 := fun e => by
  have := md_inj hj (by decide) (show Int32.ofNat j = Int32.ofNat 4 from e)
  omega
theorem md_l41d {v : Int32} (h : v = -1 ∨ v = 41 ∨ v = 43) (h2 : ¬ v = -1) : v = 41 ∨ v = 43 := h.resolve_left h2
theorem md_nn0 {v : Int32} (h : ¬ v < 0) : 0 ≤ v := by
  rw [Int32.lt_iff_toInt_lt] at h
  rw [Int32.le_iff_toInt_le]
  omega
theorem md_nle {a b : Int32} (h : a < b) : ¬ b ≤ a := by
  rw [Int32.lt_iff_toInt_lt] at h
  rw [Int32.le_iff_toInt_le]
  omega
theorem md_tw_up {j : Nat} {σ σ' : ev_W} {k : Nat} {x : Int32} (h : md_tw j (ev_up σ 11 k x) σ') : md_tw j σ σ' := h
theorem md_tw_c {j : Nat} {σ σ1 σ' : ev_W} (h : md_c σ σ1) (g : md_tw j σ1 σ') : md_tw j σ σ' := by
  have e6 := h.1 6 (by decide)
  have e7 := h.1 7 (by decide)
  obtain ⟨g1, g2, g3⟩ := g
  refine ⟨fun i hi => by rw [g1 i hi, e7], fun t => ?_, fun t u => ?_⟩
  · obtain ⟨a, b⟩ := g2 t
    exact ⟨by rw [← e6]; exact a, b⟩
  · exact g3 (by rw [e6]; exact t) (by rw [e6]; exact u)
theorem md_bits64 {σ s : ev_W} (e : ∀ i, i < 164 → s.1 7 i = σ.1 7 i) (h0 : md_bit σ 0 = 1) (h1 : md_bit σ 1 = 1) (h2 : md_bit σ 2 = 1) (h3 : md_bit σ 3 = 1) (h4 : md_bit σ 4 = 1) (h5 : md_bit σ 5 = 1) (h6 : md_bit σ 6 = 1) (h7 : md_bit σ 7 = 1) (h8 : md_bit σ 8 = 1) (h9 : md_bit σ 9 = 1) (h10 : md_bit σ 10 = 1) (h11 : md_bit σ 11 = 1) (h12 : md_bit σ 12 = 1) (h13 : md_bit σ 13 = 1) (h14 : md_bit σ 14 = 1) (h15 : md_bit σ 15 = 1) (h16 : md_bit σ 16 = 1) (h17 : md_bit σ 17 = 1) (h18 : md_bit σ 18 = 1) (h19 : md_bit σ 19 = 1) (h20 : md_bit σ 20 = 1) (h21 : md_bit σ 21 = 1) (h22 : md_bit σ 22 = 1) (h23 : md_bit σ 23 = 1) (h24 : md_bit σ 24 = 1) (h25 : md_bit σ 25 = 1) (h26 : md_bit σ 26 = 1) (h27 : md_bit σ 27 = 1) (h28 : md_bit σ 28 = 1) (h29 : md_bit σ 29 = 1) (h30 : md_bit σ 30 = 1) (h31 : md_bit σ 31 = 1) (h32 : md_bit σ 32 = 1) (h33 : md_bit σ 33 = 1) (h34 : md_bit σ 34 = 1) (h35 : md_bit σ 35 = 1) (h36 : md_bit σ 36 = 1) (h37 : md_bit σ 37 = 1) (h38 : md_bit σ 38 = 1) (h39 : md_bit σ 39 = 1) (h40 : md_bit σ 40 = 1) (h41 : md_bit σ 41 = 1) (h42 : md_bit σ 42 = 1) (h43 : md_bit σ 43 = 1) (h44 : md_bit σ 44 = 1) (h45 : md_bit σ 45 = 1) (h46 : md_bit σ 46 = 1) (h47 : md_bit σ 47 = 1) (h48 : md_bit σ 48 = 1) (h49 : md_bit σ 49 = 1) (h50 : md_bit σ 50 = 1) (h51 : md_bit σ 51 = 1) (h52 : md_bit σ 52 = 1) (h53 : md_bit σ 53 = 1) (h54 : md_bit σ 54 = 1) (h55 : md_bit σ 55 = 1) (h56 : md_bit σ 56 = 1) (h57 : md_bit σ 57 = 1) (h58 : md_bit σ 58 = 1) (h59 : md_bit σ 59 = 1) (h60 : md_bit σ 60 = 1) (h61 : md_bit σ 61 = 1) (h62 : md_bit σ 62 = 1) (h63 : md_bit σ 63 = 1) : ∀ b, b < 64 → md_bit s b = 1 := by
  intro b hb
  have key : md_bit s b = md_bit σ b := by
    unfold md_bit
    rw [e _ (by omega)]
  rw [key]
  have all : ∀ b ∈ [0, 1, 2, 3, 4, 5, 6, 7, 8, 9, 10, 11, 12, 13, 14, 15, 16, 17, 18, 19, 20, 21, 22, 23, 24, 25, 26, 27, 28, 29, 30, 31, 32, 33, 34, 35, 36, 37, 38, 39, 40, 41, 42, 43, 44, 45, 46, 47, 48, 49, 50, 51, 52, 53, 54, 55, 56, 57, 58, 59, 60, 61, 62, 63], md_bit σ b = 1 := List.forall_mem_cons.mpr ⟨h0, List.forall_mem_cons.mpr ⟨h1, List.forall_mem_cons.mpr ⟨h2, List.forall_mem_cons.mpr ⟨h3, List.forall_mem_cons.mpr ⟨h4, List.forall_mem_cons.mpr ⟨h5, List.forall_mem_cons.mpr ⟨h6, List.forall_mem_cons.mpr ⟨h7, List.forall_mem_cons.mpr ⟨h8, List.forall_mem_cons.mpr ⟨h9, List.forall_mem_cons.mpr ⟨h10, List.forall_mem_cons.mpr ⟨h11, List.forall_mem_cons.mpr ⟨h12, List.forall_mem_cons.mpr ⟨h13, List.forall_mem_cons.mpr ⟨h14, List.forall_mem_cons.mpr ⟨h15, List.forall_mem_cons.mpr ⟨h16, List.forall_mem_cons.mpr ⟨h17, List.forall_mem_cons.mpr ⟨h18, List.forall_mem_cons.mpr ⟨h19, List.forall_mem_cons.mpr ⟨h20, List.forall_mem_cons.mpr ⟨h21, List.forall_mem_cons.mpr ⟨h22, List.forall_mem_cons.mpr ⟨h23, List.forall_mem_cons.mpr ⟨h24, List.forall_mem_cons.mpr ⟨h25, List.forall_mem_cons.mpr ⟨h26, List.forall_mem_cons.mpr ⟨h27, List.forall_mem_cons.mpr ⟨h28, List.forall_mem_cons.mpr ⟨h29, List.forall_mem_cons.mpr ⟨h30, List.forall_mem_cons.mpr ⟨h31, List.forall_mem_cons.mpr ⟨h32, List.forall_mem_cons.mpr ⟨h33, List.forall_mem_cons.mpr ⟨h34, List.forall_mem_cons.mpr ⟨h35, List.forall_mem_cons.mpr ⟨h36, List.forall_mem_cons.mpr ⟨h37, List.forall_mem_cons.mpr ⟨h38, List.forall_mem_cons.mpr ⟨h39, List.forall_mem_cons.mpr ⟨h40, List.forall_mem_cons.mpr ⟨h41, List.forall_mem_cons.mpr ⟨h42, List.forall_mem_cons.mpr ⟨h43, List.forall_mem_cons.mpr ⟨h44, List.forall_mem_cons.mpr ⟨h45, List.forall_mem_cons.mpr ⟨h46, List.forall_mem_cons.mpr ⟨h47, List.forall_mem_cons.mpr ⟨h48, List.forall_mem_cons.mpr ⟨h49, List.forall_mem_cons.mpr ⟨h50, List.forall_mem_cons.mpr ⟨h51, List.forall_mem_cons.mpr ⟨h52, List.forall_mem_cons.mpr ⟨h53, List.forall_mem_cons.mpr ⟨h54, List.forall_mem_cons.mpr ⟨h55, List.forall_mem_cons.mpr ⟨h56, List.forall_mem_cons.mpr ⟨h57, List.forall_mem_cons.mpr ⟨h58, List.forall_mem_cons.mpr ⟨h59, List.forall_mem_cons.mpr ⟨h60, List.forall_mem_cons.mpr ⟨h61, List.forall_mem_cons.mpr ⟨h62, List.forall_mem_cons.mpr ⟨h63, fun _ h => absurd h List.not_mem_nil⟩⟩⟩⟩⟩⟩⟩⟩⟩⟩⟩⟩⟩⟩⟩⟩⟩⟩⟩⟩⟩⟩⟩⟩⟩⟩⟩⟩⟩⟩⟩⟩⟩⟩⟩⟩⟩⟩⟩⟩⟩⟩⟩⟩⟩⟩⟩⟩⟩⟩⟩⟩⟩⟩⟩⟩⟩⟩⟩⟩⟩⟩⟩⟩
  exact all b (List.mem_range.mpr hb)
