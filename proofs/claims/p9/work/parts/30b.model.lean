/-! THE REFERENCE: the words in which it is said -/
def sp_isin (v a b : Int32) : Int32 := if v < a then 0 else if b < v then 0 else 1
theorem sp_isin_0 (v b : Int32) : sp_isin v 0 b = sp_upto v b := rfl
theorem sp_top_in (c : Int32) : sp_isin c 1 65535 = sp_top c := by
  unfold sp_isin sp_top
  split
  · rfl
  · by_cases h : c ≤ 65535
    · rw [if_pos h, if_neg (fun z => by rw [Int32.lt_iff_toInt_lt] at z; rw [Int32.le_iff_toInt_le] at h; omega)]
    · rw [if_neg h, if_pos (by rw [Int32.lt_iff_toInt_lt]; rw [Int32.le_iff_toInt_le] at h; omega)]
def md_prod (k a b c : Int32) : Int32 := if sp_upto a 65535 = 0 then 0 else if sp_upto b 65535 = 0 then 0 else if sp_upto c 65535 = 0 then 0 else if k = 1 then (if sp_isin a 1 60 = 0 then 0 else if b = 0 then (if c = 0 then 1 else 0) else 0) else if k = 2 then (if a ≤ 0 then 0 else if c < b then 0 else 1) else if k = 3 then (if c = 0 then 1 else 0) else 0
theorem md_prod_eq (k a b c : Int32) : md_prod k a b c = sp_prod k a b c := by
  have e : (a ≤ 0) = (a < 1) := by
    have e1 : (1 : Int32).toInt = 1 := by decide
    have e0 : (0 : Int32).toInt = 0 := by decide
    rw [Int32.lt_iff_toInt_lt, Int32.le_iff_toInt_le, e1, e0]
    exact propext ⟨fun h => by omega, fun h => by omega⟩
  unfold md_prod sp_prod sp_isin
  simp only [e]
  by_cases h1 : a < 1
  · simp [h1]
  · by_cases h2 : 60 < a
    · simp [h1, h2]
    · simp [h1, h2]
def md_clk (g d m : Int32) : Int32 := if sp_upto g 11 = 0 then 0 else if sp_upto d 9999 = 0 then 0 else if sp_upto m 1439 = 0 then 0 else 1
theorem md_clk_eq (g d m : Int32) : md_clk g d m = sp_clk g d m := by
  unfold md_clk sp_clk sp_time
  by_cases h1 : sp_upto d 9999 = 0
  · simp [h1]
  · by_cases h2 : sp_upto m 1439 = 0
    · simp [h1, h2]
    · simp [h1, h2]
def md_ins (d m z : Int32) : Int32 := if sp_upto d 9999 = 0 then 0 else if sp_upto m 1439 = 0 then 0 else if sp_upto z 15 = 0 then 0 else 1
theorem md_ins_eq (d m z : Int32) : md_ins d m z = sp_ins d m z := by
  unfold md_ins sp_ins sp_time
  by_cases h1 : sp_upto d 9999 = 0
  · simp [h1]
  · by_cases h2 : sp_upto m 1439 = 0
    · simp [h1, h2]
    · simp [h1, h2]
/-- the reference's words from block 1 on: all 0 -/
def md_z4 (σ : ev_W) : Prop := ∀ i, 4 ≤ i → σ.1 7 i = 0
def md_fresh (σ : ev_W) : Prop := (∀ i, σ.1 7 i = 0) ∧ σ.1 6 5 = -1 ∧ σ.1 6 7 = 0 ∧ σ.1 6 11 = 0 ∧ σ.1 6 12 = 0
theorem md_fresh.z {σ : ev_W} (h : md_fresh σ) : md_z4 σ := fun i _ => h.1 i
/-- the reference writes a word -/
def md_w (k : Nat) (σ σ' : ev_W) : Prop := (∀ i, i ≠ k → σ'.1 7 i = σ.1 7 i) ∧ σ'.2 = σ.2 ∧ σ'.1 6 0 = σ.1 6 0
theorem md_w.z {k : Nat} {σ σ' : ev_W} (h : md_w k σ σ') (hk : k < 4) (z : md_z4 σ) : md_z4 σ' := fun i hi => (h.1 i (by omega)).trans (z i hi)
/-- the reference's record alone -/
def md_c (σ σ' : ev_W) : Prop := (∀ c, c ≠ 11 → σ'.1 c = σ.1 c) ∧ σ'.2 = σ.2
theorem md_c.rf (σ : ev_W) : md_c σ σ := ⟨fun _ _ => rfl, rfl⟩
theorem md_c.up {σ σ' : ev_W} (h : md_c σ σ') (j : Nat) (x : Int32) : md_c σ (ev_up σ' 11 j x) := ⟨fun c hc => by rw [← h.1 c hc]; simp [ev_up, hc], h.2⟩
def md_t (σ σ' : ev_W) : Prop := σ'.2 = σ.2
/-- a block that has words behind it -/
def md_b (b : Int32) : Prop := ∃ j : Nat, 1 ≤ j ∧ j ≤ 62 ∧ b = Int32.ofNat j
theorem md_ix {j w : Nat} (hj : j ≤ 62) (hw : w < 8) : (4 : Int32) * Int32.ofNat j + Int32.ofNat w = Int32.ofNat (4 * j + w) := by
  rw [show (4 : Int32) = Int32.ofNat 4 from rfl, ← Int32.ofNat_mul, ← Int32.ofNat_add]
theorem md_ixn {n : Nat} (h : n < 256) : (Int32.ofNat n).toNatClampNeg = n := by
  rw [Int32.toNatClampNeg_ofNat_of_lt (by omega)]
theorem md_at0 {σ : ev_W} (hz : md_z4 σ) {b : Int32} (hb : md_b b) (w : Nat) (hw : w < 8) {x : Int32} (hx : x = Int32.ofNat w) : vp_in (4 * b + x) 256 ∧ σ.1 7 (Int32.toNatClampNeg (4 * b + x)) = 0 := by
  obtain ⟨j, h1, h2, rfl⟩ := hb
  subst hx
  rw [md_ix h2 hw, md_ixn (by omega)]
  exact ⟨vp_in_nI (by omega) (by decide), hz _ (by omega)⟩
theorem md_wd_in {b w : Int32} (hb : ¬ sp_upto b 63 = 0) (hw : ¬ sp_upto w 3 = 0) : vp_in (4 * b + w) 256 := by
  unfold sp_upto at hb hw
  split at hb
  · exact absurd rfl hb
  split at hb
  · exact absurd rfl hb
  split at hw
  · exact absurd rfl hw
  split at hw
  · exact absurd rfl hw
  rename_i b0 b1 w0 w1
  obtain ⟨j, hj, rfl⟩ : ∃ j : Nat, j ≤ 63 ∧ b = Int32.ofNat j := by
    refine ⟨b.toInt.toNat, ?_, ?_⟩
    · rw [Int32.lt_iff_toInt_lt] at b0 b1
      have : (63 : Int32).toInt = 63 := by decide
      omega
    · apply Int32.toInt_inj.mp
      rw [Int32.lt_iff_toInt_lt] at b0 b1
      have : (63 : Int32).toInt = 63 := by decide
      have : (0 : Int32).toInt = 0 := by decide
      rw [Int32.toInt_ofNat_of_lt (by omega)]
      omega
  obtain ⟨k, hk, rfl⟩ : ∃ k : Nat, k ≤ 3 ∧ w = Int32.ofNat k := by
    refine ⟨w.toInt.toNat, ?_, ?_⟩
    · rw [Int32.lt_iff_toInt_lt] at w0 w1
      have : (3 : Int32).toInt = 3 := by decide
      omega
    · apply Int32.toInt_inj.mp
      rw [Int32.lt_iff_toInt_lt] at w0 w1
      have : (3 : Int32).toInt = 3 := by decide
      have : (0 : Int32).toInt = 0 := by decide
      rw [Int32.toInt_ofNat_of_lt (by omega)]
      omega
  rw [show (4 : Int32) = Int32.ofNat 4 from rfl, ← Int32.ofNat_mul, ← Int32.ofNat_add]
  exact vp_in_nI (by omega) (by decide)
