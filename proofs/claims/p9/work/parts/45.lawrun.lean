/-! ONE TURN OF THE LAW'S LOOP (laid by wip/gen/lawfull.py) -/
theorem md_ok_T {σ σ' : ev_W} (h : md_ok σ) (k : ∀ c, 6 ≤ c → σ'.1 c = σ.1 c) : md_ok σ' := by
  unfold md_ok at h ⊢
  rw [k 6 (by decide), k 7 (by decide)]
  exact h
theorem sp_turn {σ s1 s2 : ev_W} (t : sp_T σ s1) (hm : md_ok σ) (m : md_m s1 s2) : sp_inv s2 ∧ md_ok s2 ∧ s2.2.2 ≤ σ.2.2 ∧ σ.2.2 ≤ s2.2.2 + 1 := by
  refine ⟨?_, m.2.2 (md_ok_T hm t.1), ?_, ?_⟩
  · have h := t.2.1
    unfold sp_inv at h ⊢
    rw [m.1 0 (Or.inl (by decide)), m.1 1 (Or.inl (by decide))]
    exact h
  · rw [m.2.1]; exact t.2.2.1
  · rw [m.2.1]; exact t.2.2.2
theorem lw_turn120 (xs : Nat → Int32) (L : Nat) (i : Int32) (hi0 : vp_in i L) (hi1 : vp_in (i + 1) L) (hi2 : vp_in (i + 2) L) (hi3 : vp_in (i + 3) L) (hi4 : vp_in (i + 4) L) (σ : ev_W) (hf : sp_inv σ) (hm : md_ok σ) (hb : 0 < σ.2.2) (a b : Option Value) : ev_wp pg_F pg_lay (some (L, xs)) [] pg_dL (fun pc => Nat.beq pc 23) (fun pc ls st σ' => ∃ a b : Option Value, ls = [some (.ref 999), some (.ref 0), some (.ref 6), some (.ref 12), some (.int (i + 5)), a, b] ∧ (pc = 23 ∧ st = []) ∧ sp_inv σ' ∧ md_ok σ' ∧ σ'.2.2 ≤ σ.2.2 ∧ σ.2.2 ≤ σ'.2.2 + 1) 2000 120 [some (.ref 999), some (.ref 0), some (.ref 6), some (.ref 12), some (.int i), a, b] [] σ := by
  change ev_wp pg_F pg_lay (some (L, xs)) [] pg_dL (fun pc => Nat.beq pc 23) _ 2000 120 [some (.ref 999), some (.ref 0), some (.ref 6), some (.ref 12), some (.int i), a, b] [] σ
  refine ⟨hi1, ?_⟩
  change ev_wp pg_F pg_lay (some (L, xs)) [] pg_dL (fun pc => Nat.beq pc 23) _ 1994 127 [some (.ref 999), some (.ref 0), some (.ref 6), some (.ref 12), some (.int i), a, b] [.int (xs (Int32.toNatClampNeg (i + 1))), .ref 0] σ
  refine ⟨hi2, ?_⟩
  change ev_wp pg_F pg_lay (some (L, xs)) [] pg_dL (fun pc => Nat.beq pc 23) _ 1989 133 [some (.ref 999), some (.ref 0), some (.ref 6), some (.ref 12), some (.int i), a, b] [.int (xs (Int32.toNatClampNeg (i + 2))), .int (xs (Int32.toNatClampNeg (i + 1))), .ref 0] σ
  refine ⟨hi3, ?_⟩
  change ev_wp pg_F pg_lay (some (L, xs)) [] pg_dL (fun pc => Nat.beq pc 23) _ 1984 139 [some (.ref 999), some (.ref 0), some (.ref 6), some (.ref 12), some (.int i), a, b] [.int (xs (Int32.toNatClampNeg (i + 3))), .int (xs (Int32.toNatClampNeg (i + 2))), .int (xs (Int32.toNatClampNeg (i + 1))), .ref 0] σ
  refine ⟨hi4, ?_⟩
  change ev_wp pg_F pg_lay (some (L, xs)) [] pg_dL (fun pc => Nat.beq pc 23) _ 1979 145 [some (.ref 999), some (.ref 0), some (.ref 6), some (.ref 12), some (.int i), a, b] [.int (xs (Int32.toNatClampNeg (i + 4))), .int (xs (Int32.toNatClampNeg (i + 3))), .int (xs (Int32.toNatClampNeg (i + 2))), .int (xs (Int32.toNatClampNeg (i + 1))), .ref 0] σ
  refine ⟨⟨hf, hb⟩, ?_⟩
  rintro _ s3 ⟨v1, k2, rfl⟩
  change ev_wp pg_F pg_lay (some (L, xs)) [] pg_dL (fun pc => Nat.beq pc 23) _ 1977 149 [some (.ref 999), some (.ref 0), some (.ref 6), some (.ref 12), some (.int i), a, b] [.int v1] s3
  refine ⟨hi1, ?_⟩
  change ev_wp pg_F pg_lay (some (L, xs)) [] pg_dL (fun pc => Nat.beq pc 23) _ 1970 158 [some (.ref 999), some (.ref 0), some (.ref 6), some (.ref 12), some (.int i), some (.int v1), b] [.int (xs (Int32.toNatClampNeg (i + 1))), .ref 6] s3
  refine ⟨hi2, ?_⟩
  change ev_wp pg_F pg_lay (some (L, xs)) [] pg_dL (fun pc => Nat.beq pc 23) _ 1965 164 [some (.ref 999), some (.ref 0), some (.ref 6), some (.ref 12), some (.int i), some (.int v1), b] [.int (xs (Int32.toNatClampNeg (i + 2))), .int (xs (Int32.toNatClampNeg (i + 1))), .ref 6] s3
  refine ⟨hi3, ?_⟩
  change ev_wp pg_F pg_lay (some (L, xs)) [] pg_dL (fun pc => Nat.beq pc 23) _ 1960 170 [some (.ref 999), some (.ref 0), some (.ref 6), some (.ref 12), some (.int i), some (.int v1), b] [.int (xs (Int32.toNatClampNeg (i + 3))), .int (xs (Int32.toNatClampNeg (i + 2))), .int (xs (Int32.toNatClampNeg (i + 1))), .ref 6] s3
  refine ⟨hi4, ?_⟩
  change ev_wp pg_F pg_lay (some (L, xs)) [] pg_dL (fun pc => Nat.beq pc 23) _ 1955 176 [some (.ref 999), some (.ref 0), some (.ref 6), some (.ref 12), some (.int i), some (.int v1), b] [.int (xs (Int32.toNatClampNeg (i + 4))), .int (xs (Int32.toNatClampNeg (i + 3))), .int (xs (Int32.toNatClampNeg (i + 2))), .int (xs (Int32.toNatClampNeg (i + 1))), .ref 6] s3
  refine ⟨(md_ok_T hm k2.1.1), ?_⟩
  rintro _ s6 ⟨v4, k5, rfl⟩
  change ev_wp pg_F pg_lay (some (L, xs)) [] pg_dL (fun pc => Nat.beq pc 23) _ 1954 179 [some (.ref 999), some (.ref 0), some (.ref 6), some (.ref 12), some (.int i), some (.int v1), b] [.int v4] s6
  exact ⟨_, _, rfl, ⟨rfl, rfl⟩, sp_turn k2.1 hm k5⟩
theorem lw_turn184 (xs : Nat → Int32) (L : Nat) (i : Int32) (hi0 : vp_in i L) (hi1 : vp_in (i + 1) L) (hi2 : vp_in (i + 2) L) (hi3 : vp_in (i + 3) L) (hi4 : vp_in (i + 4) L) (σ : ev_W) (hf : sp_inv σ) (hm : md_ok σ) (hb : 0 < σ.2.2) (a b : Option Value) : ev_wp pg_F pg_lay (some (L, xs)) [] pg_dL (fun pc => Nat.beq pc 23) (fun pc ls st σ' => ∃ a b : Option Value, ls = [some (.ref 999), some (.ref 0), some (.ref 6), some (.ref 12), some (.int (i + 5)), a, b] ∧ (pc = 23 ∧ st = []) ∧ sp_inv σ' ∧ md_ok σ' ∧ σ'.2.2 ≤ σ.2.2 ∧ σ.2.2 ≤ σ'.2.2 + 1) 2000 184 [some (.ref 999), some (.ref 0), some (.ref 6), some (.ref 12), some (.int i), a, b] [] σ := by
  change ev_wp pg_F pg_lay (some (L, xs)) [] pg_dL (fun pc => Nat.beq pc 23) _ 2000 184 [some (.ref 999), some (.ref 0), some (.ref 6), some (.ref 12), some (.int i), a, b] [] σ
  refine ⟨hi1, ?_⟩
  change ev_wp pg_F pg_lay (some (L, xs)) [] pg_dL (fun pc => Nat.beq pc 23) _ 1994 191 [some (.ref 999), some (.ref 0), some (.ref 6), some (.ref 12), some (.int i), a, b] [.int (xs (Int32.toNatClampNeg (i + 1))), .ref 0] σ
  refine ⟨hi2, ?_⟩
  change ev_wp pg_F pg_lay (some (L, xs)) [] pg_dL (fun pc => Nat.beq pc 23) _ 1989 197 [some (.ref 999), some (.ref 0), some (.ref 6), some (.ref 12), some (.int i), a, b] [.int (xs (Int32.toNatClampNeg (i + 2))), .int (xs (Int32.toNatClampNeg (i + 1))), .ref 0] σ
  refine ⟨hi3, ?_⟩
  change ev_wp pg_F pg_lay (some (L, xs)) [] pg_dL (fun pc => Nat.beq pc 23) _ 1984 203 [some (.ref 999), some (.ref 0), some (.ref 6), some (.ref 12), some (.int i), a, b] [.int (xs (Int32.toNatClampNeg (i + 3))), .int (xs (Int32.toNatClampNeg (i + 2))), .int (xs (Int32.toNatClampNeg (i + 1))), .ref 0] σ
  refine ⟨⟨hf, hb⟩, ?_⟩
  rintro _ s3 ⟨v1, k2, rfl⟩
  change ev_wp pg_F pg_lay (some (L, xs)) [] pg_dL (fun pc => Nat.beq pc 23) _ 1983 206 [some (.ref 999), some (.ref 0), some (.ref 6), some (.ref 12), some (.int i), a, b] [.int v1] s3
  refine ⟨hi1, ?_⟩
  change ev_wp pg_F pg_lay (some (L, xs)) [] pg_dL (fun pc => Nat.beq pc 23) _ 1976 215 [some (.ref 999), some (.ref 0), some (.ref 6), some (.ref 12), some (.int i), some (.int v1), b] [.int (xs (Int32.toNatClampNeg (i + 1))), .ref 6] s3
  refine ⟨hi2, ?_⟩
  change ev_wp pg_F pg_lay (some (L, xs)) [] pg_dL (fun pc => Nat.beq pc 23) _ 1971 221 [some (.ref 999), some (.ref 0), some (.ref 6), some (.ref 12), some (.int i), some (.int v1), b] [.int (xs (Int32.toNatClampNeg (i + 2))), .int (xs (Int32.toNatClampNeg (i + 1))), .ref 6] s3
  refine ⟨hi3, ?_⟩
  change ev_wp pg_F pg_lay (some (L, xs)) [] pg_dL (fun pc => Nat.beq pc 23) _ 1966 227 [some (.ref 999), some (.ref 0), some (.ref 6), some (.ref 12), some (.int i), some (.int v1), b] [.int (xs (Int32.toNatClampNeg (i + 3))), .int (xs (Int32.toNatClampNeg (i + 2))), .int (xs (Int32.toNatClampNeg (i + 1))), .ref 6] s3
  refine ⟨(md_ok_T hm k2.1.1), ?_⟩
  rintro _ s6 ⟨k5, rfl⟩
  change ev_wp pg_F pg_lay (some (L, xs)) [] pg_dL (fun pc => Nat.beq pc 23) _ 1965 230 [some (.ref 999), some (.ref 0), some (.ref 6), some (.ref 12), some (.int i), some (.int v1), b] [] s6
  exact ⟨_, _, rfl, ⟨rfl, rfl⟩, sp_turn k2.1 hm k5.1⟩
theorem lw_turn233 (xs : Nat → Int32) (L : Nat) (i : Int32) (hi0 : vp_in i L) (hi1 : vp_in (i + 1) L) (hi2 : vp_in (i + 2) L) (hi3 : vp_in (i + 3) L) (hi4 : vp_in (i + 4) L) (σ : ev_W) (hf : sp_inv σ) (hm : md_ok σ) (hb : 0 < σ.2.2) (a b : Option Value) : ev_wp pg_F pg_lay (some (L, xs)) [] pg_dL (fun pc => Nat.beq pc 23) (fun pc ls st σ' => ∃ a b : Option Value, ls = [some (.ref 999), some (.ref 0), some (.ref 6), some (.ref 12), some (.int (i + 5)), a, b] ∧ (pc = 23 ∧ st = []) ∧ sp_inv σ' ∧ md_ok σ' ∧ σ'.2.2 ≤ σ.2.2 ∧ σ.2.2 ≤ σ'.2.2 + 1) 2000 233 [some (.ref 999), some (.ref 0), some (.ref 6), some (.ref 12), some (.int i), a, b] [] σ := by
  change ev_wp pg_F pg_lay (some (L, xs)) [] pg_dL (fun pc => Nat.beq pc 23) _ 2000 233 [some (.ref 999), some (.ref 0), some (.ref 6), some (.ref 12), some (.int i), a, b] [] σ
  refine ⟨hi1, ?_⟩
  change ev_wp pg_F pg_lay (some (L, xs)) [] pg_dL (fun pc => Nat.beq pc 23) _ 1994 240 [some (.ref 999), some (.ref 0), some (.ref 6), some (.ref 12), some (.int i), a, b] [.int (xs (Int32.toNatClampNeg (i + 1))), .ref 0] σ
  refine ⟨hi2, ?_⟩
  change ev_wp pg_F pg_lay (some (L, xs)) [] pg_dL (fun pc => Nat.beq pc 23) _ 1989 246 [some (.ref 999), some (.ref 0), some (.ref 6), some (.ref 12), some (.int i), a, b] [.int (xs (Int32.toNatClampNeg (i + 2))), .int (xs (Int32.toNatClampNeg (i + 1))), .ref 0] σ
  refine ⟨fun (h1 : (xs (Int32.toNatClampNeg (i + 2))) = 0) => ?_, fun (h1 : ¬ (xs (Int32.toNatClampNeg (i + 2))) = 0) => ?_⟩
  · skip
    change ev_wp pg_F pg_lay (some (L, xs)) [] pg_dL (fun pc => Nat.beq pc 23) _ 1988 253 [some (.ref 999), some (.ref 0), some (.ref 6), some (.ref 12), some (.int i), a, b] [.int (xs (Int32.toNatClampNeg (i + 1))), .ref 0] σ
    refine ⟨⟨hf, hb⟩, ?_⟩
    rintro _ s4 ⟨v2, k3, rfl⟩
    change ev_wp pg_F pg_lay (some (L, xs)) [] pg_dL (fun pc => Nat.beq pc 23) _ 1986 257 [some (.ref 999), some (.ref 0), some (.ref 6), some (.ref 12), some (.int i), a, b] [.int v2] s4
    refine ⟨hi1, ?_⟩
    change ev_wp pg_F pg_lay (some (L, xs)) [] pg_dL (fun pc => Nat.beq pc 23) _ 1979 266 [some (.ref 999), some (.ref 0), some (.ref 6), some (.ref 12), some (.int i), some (.int v2), b] [.int (xs (Int32.toNatClampNeg (i + 1))), .ref 6] s4
    refine ⟨hi2, ?_⟩
    change ev_wp pg_F pg_lay (some (L, xs)) [] pg_dL (fun pc => Nat.beq pc 23) _ 1974 272 [some (.ref 999), some (.ref 0), some (.ref 6), some (.ref 12), some (.int i), some (.int v2), b] [.int (xs (Int32.toNatClampNeg (i + 2))), .int (xs (Int32.toNatClampNeg (i + 1))), .ref 6] s4
    refine ⟨fun (h5 : (xs (Int32.toNatClampNeg (i + 2))) = 0) => ?_, fun (h5 : ¬ (xs (Int32.toNatClampNeg (i + 2))) = 0) => ?_⟩
    · skip
      change ev_wp pg_F pg_lay (some (L, xs)) [] pg_dL (fun pc => Nat.beq pc 23) _ 1973 279 [some (.ref 999), some (.ref 0), some (.ref 6), some (.ref 12), some (.int i), some (.int v2), b] [.int (xs (Int32.toNatClampNeg (i + 1))), .ref 6] s4
      refine ⟨(md_ok_T hm k3.1.1), ?_⟩
      rintro _ s8 ⟨k7, rfl⟩
      change ev_wp pg_F pg_lay (some (L, xs)) [] pg_dL (fun pc => Nat.beq pc 23) _ 1971 283 [some (.ref 999), some (.ref 0), some (.ref 6), some (.ref 12), some (.int i), some (.int v2), b] [] s8
      exact ⟨_, _, rfl, ⟨rfl, rfl⟩, sp_turn k3.1 hm k7.1⟩
    · skip
      change ev_wp pg_F pg_lay (some (L, xs)) [] pg_dL (fun pc => Nat.beq pc 23) _ 1973 275 [some (.ref 999), some (.ref 0), some (.ref 6), some (.ref 12), some (.int i), some (.int v2), b] [.int (xs (Int32.toNatClampNeg (i + 1))), .ref 6] s4
      refine ⟨(md_ok_T hm k3.1.1), ?_⟩
      rintro _ s11 ⟨k10, rfl⟩
      change ev_wp pg_F pg_lay (some (L, xs)) [] pg_dL (fun pc => Nat.beq pc 23) _ 1970 283 [some (.ref 999), some (.ref 0), some (.ref 6), some (.ref 12), some (.int i), some (.int v2), b] [] s11
      exact ⟨_, _, rfl, ⟨rfl, rfl⟩, sp_turn k3.1 hm k10.1⟩
  · skip
    change ev_wp pg_F pg_lay (some (L, xs)) [] pg_dL (fun pc => Nat.beq pc 23) _ 1988 249 [some (.ref 999), some (.ref 0), some (.ref 6), some (.ref 12), some (.int i), a, b] [.int (xs (Int32.toNatClampNeg (i + 1))), .ref 0] σ
    refine ⟨⟨hf, hb⟩, ?_⟩
    rintro _ s14 ⟨v12, k13, rfl⟩
    change ev_wp pg_F pg_lay (some (L, xs)) [] pg_dL (fun pc => Nat.beq pc 23) _ 1985 257 [some (.ref 999), some (.ref 0), some (.ref 6), some (.ref 12), some (.int i), a, b] [.int v12] s14
    refine ⟨hi1, ?_⟩
    change ev_wp pg_F pg_lay (some (L, xs)) [] pg_dL (fun pc => Nat.beq pc 23) _ 1978 266 [some (.ref 999), some (.ref 0), some (.ref 6), some (.ref 12), some (.int i), some (.int v12), b] [.int (xs (Int32.toNatClampNeg (i + 1))), .ref 6] s14
    refine ⟨hi2, ?_⟩
    change ev_wp pg_F pg_lay (some (L, xs)) [] pg_dL (fun pc => Nat.beq pc 23) _ 1973 272 [some (.ref 999), some (.ref 0), some (.ref 6), some (.ref 12), some (.int i), some (.int v12), b] [.int (xs (Int32.toNatClampNeg (i + 2))), .int (xs (Int32.toNatClampNeg (i + 1))), .ref 6] s14
    refine ⟨fun (h15 : (xs (Int32.toNatClampNeg (i + 2))) = 0) => ?_, fun (h15 : ¬ (xs (Int32.toNatClampNeg (i + 2))) = 0) => ?_⟩
    · skip
      change ev_wp pg_F pg_lay (some (L, xs)) [] pg_dL (fun pc => Nat.beq pc 23) _ 1972 279 [some (.ref 999), some (.ref 0), some (.ref 6), some (.ref 12), some (.int i), some (.int v12), b] [.int (xs (Int32.toNatClampNeg (i + 1))), .ref 6] s14
      refine ⟨(md_ok_T hm k13.1.1), ?_⟩
      rintro _ s18 ⟨k17, rfl⟩
      change ev_wp pg_F pg_lay (some (L, xs)) [] pg_dL (fun pc => Nat.beq pc 23) _ 1970 283 [some (.ref 999), some (.ref 0), some (.ref 6), some (.ref 12), some (.int i), some (.int v12), b] [] s18
      exact ⟨_, _, rfl, ⟨rfl, rfl⟩, sp_turn k13.1 hm k17.1⟩
    · skip
      change ev_wp pg_F pg_lay (some (L, xs)) [] pg_dL (fun pc => Nat.beq pc 23) _ 1972 275 [some (.ref 999), some (.ref 0), some (.ref 6), some (.ref 12), some (.int i), some (.int v12), b] [.int (xs (Int32.toNatClampNeg (i + 1))), .ref 6] s14
      refine ⟨(md_ok_T hm k13.1.1), ?_⟩
      rintro _ s21 ⟨k20, rfl⟩
      change ev_wp pg_F pg_lay (some (L, xs)) [] pg_dL (fun pc => Nat.beq pc 23) _ 1969 283 [some (.ref 999), some (.ref 0), some (.ref 6), some (.ref 12), some (.int i), some (.int v12), b] [] s21
      exact ⟨_, _, rfl, ⟨rfl, rfl⟩, sp_turn k13.1 hm k20.1⟩
theorem lw_turn286 (xs : Nat → Int32) (L : Nat) (i : Int32) (hi0 : vp_in i L) (hi1 : vp_in (i + 1) L) (hi2 : vp_in (i + 2) L) (hi3 : vp_in (i + 3) L) (hi4 : vp_in (i + 4) L) (σ : ev_W) (hf : sp_inv σ) (hm : md_ok σ) (hb : 0 < σ.2.2) (a b : Option Value) : ev_wp pg_F pg_lay (some (L, xs)) [] pg_dL (fun pc => Nat.beq pc 23) (fun pc ls st σ' => ∃ a b : Option Value, ls = [some (.ref 999), some (.ref 0), some (.ref 6), some (.ref 12), some (.int (i + 5)), a, b] ∧ (pc = 23 ∧ st = []) ∧ sp_inv σ' ∧ md_ok σ' ∧ σ'.2.2 ≤ σ.2.2 ∧ σ.2.2 ≤ σ'.2.2 + 1) 2000 286 [some (.ref 999), some (.ref 0), some (.ref 6), some (.ref 12), some (.int i), a, b] [] σ := by
  change ev_wp pg_F pg_lay (some (L, xs)) [] pg_dL (fun pc => Nat.beq pc 23) _ 2000 286 [some (.ref 999), some (.ref 0), some (.ref 6), some (.ref 12), some (.int i), a, b] [] σ
  refine ⟨hi1, ?_⟩
  change ev_wp pg_F pg_lay (some (L, xs)) [] pg_dL (fun pc => Nat.beq pc 23) _ 1994 293 [some (.ref 999), some (.ref 0), some (.ref 6), some (.ref 12), some (.int i), a, b] [.int (xs (Int32.toNatClampNeg (i + 1))), .ref 0] σ
  refine ⟨⟨hf, hb⟩, ?_⟩
  rintro _ s3 ⟨v1, k2, rfl⟩
  change ev_wp pg_F pg_lay (some (L, xs)) [] pg_dL (fun pc => Nat.beq pc 23) _ 1992 297 [some (.ref 999), some (.ref 0), some (.ref 6), some (.ref 12), some (.int i), a, b] [.int v1] s3
  refine ⟨hi1, ?_⟩
  change ev_wp pg_F pg_lay (some (L, xs)) [] pg_dL (fun pc => Nat.beq pc 23) _ 1985 306 [some (.ref 999), some (.ref 0), some (.ref 6), some (.ref 12), some (.int i), some (.int v1), b] [.int (xs (Int32.toNatClampNeg (i + 1))), .ref 6] s3
  refine ⟨(md_ok_T hm k2.1.1), ?_⟩
  rintro _ s6 ⟨v4, k5, rfl⟩
  change ev_wp pg_F pg_lay (some (L, xs)) [] pg_dL (fun pc => Nat.beq pc 23) _ 1984 309 [some (.ref 999), some (.ref 0), some (.ref 6), some (.ref 12), some (.int i), some (.int v1), b] [.int v4] s6
  exact ⟨_, _, rfl, ⟨rfl, rfl⟩, sp_turn k2.1 hm k5⟩
theorem lw_turn314 (xs : Nat → Int32) (L : Nat) (i : Int32) (hi0 : vp_in i L) (hi1 : vp_in (i + 1) L) (hi2 : vp_in (i + 2) L) (hi3 : vp_in (i + 3) L) (hi4 : vp_in (i + 4) L) (σ : ev_W) (hf : sp_inv σ) (hm : md_ok σ) (hb : 0 < σ.2.2) (a b : Option Value) : ev_wp pg_F pg_lay (some (L, xs)) [] pg_dL (fun pc => Nat.beq pc 23) (fun pc ls st σ' => ∃ a b : Option Value, ls = [some (.ref 999), some (.ref 0), some (.ref 6), some (.ref 12), some (.int (i + 5)), a, b] ∧ (pc = 23 ∧ st = []) ∧ sp_inv σ' ∧ md_ok σ' ∧ σ'.2.2 ≤ σ.2.2 ∧ σ.2.2 ≤ σ'.2.2 + 1) 2000 314 [some (.ref 999), some (.ref 0), some (.ref 6), some (.ref 12), some (.int i), a, b] [] σ := by
  change ev_wp pg_F pg_lay (some (L, xs)) [] pg_dL (fun pc => Nat.beq pc 23) _ 2000 314 [some (.ref 999), some (.ref 0), some (.ref 6), some (.ref 12), some (.int i), a, b] [] σ
  refine ⟨hi1, ?_⟩
  change ev_wp pg_F pg_lay (some (L, xs)) [] pg_dL (fun pc => Nat.beq pc 23) _ 1994 321 [some (.ref 999), some (.ref 0), some (.ref 6), some (.ref 12), some (.int i), a, b] [.int (xs (Int32.toNatClampNeg (i + 1))), .ref 0] σ
  refine ⟨hi2, ?_⟩
  change ev_wp pg_F pg_lay (some (L, xs)) [] pg_dL (fun pc => Nat.beq pc 23) _ 1989 327 [some (.ref 999), some (.ref 0), some (.ref 6), some (.ref 12), some (.int i), a, b] [.int (xs (Int32.toNatClampNeg (i + 2))), .int (xs (Int32.toNatClampNeg (i + 1))), .ref 0] σ
  refine ⟨hi3, ?_⟩
  change ev_wp pg_F pg_lay (some (L, xs)) [] pg_dL (fun pc => Nat.beq pc 23) _ 1984 333 [some (.ref 999), some (.ref 0), some (.ref 6), some (.ref 12), some (.int i), a, b] [.int (xs (Int32.toNatClampNeg (i + 3))), .int (xs (Int32.toNatClampNeg (i + 2))), .int (xs (Int32.toNatClampNeg (i + 1))), .ref 0] σ
  refine ⟨⟨hf, hb⟩, ?_⟩
  rintro _ s3 ⟨v1, k2, rfl⟩
  change ev_wp pg_F pg_lay (some (L, xs)) [] pg_dL (fun pc => Nat.beq pc 23) _ 1982 337 [some (.ref 999), some (.ref 0), some (.ref 6), some (.ref 12), some (.int i), a, b] [.int v1] s3
  refine ⟨hi1, ?_⟩
  change ev_wp pg_F pg_lay (some (L, xs)) [] pg_dL (fun pc => Nat.beq pc 23) _ 1975 346 [some (.ref 999), some (.ref 0), some (.ref 6), some (.ref 12), some (.int i), some (.int v1), b] [.int (xs (Int32.toNatClampNeg (i + 1))), .ref 6] s3
  refine ⟨hi2, ?_⟩
  change ev_wp pg_F pg_lay (some (L, xs)) [] pg_dL (fun pc => Nat.beq pc 23) _ 1970 352 [some (.ref 999), some (.ref 0), some (.ref 6), some (.ref 12), some (.int i), some (.int v1), b] [.int (xs (Int32.toNatClampNeg (i + 2))), .int (xs (Int32.toNatClampNeg (i + 1))), .ref 6] s3
  refine ⟨hi3, ?_⟩
  change ev_wp pg_F pg_lay (some (L, xs)) [] pg_dL (fun pc => Nat.beq pc 23) _ 1965 358 [some (.ref 999), some (.ref 0), some (.ref 6), some (.ref 12), some (.int i), some (.int v1), b] [.int (xs (Int32.toNatClampNeg (i + 3))), .int (xs (Int32.toNatClampNeg (i + 2))), .int (xs (Int32.toNatClampNeg (i + 1))), .ref 6] s3
  refine ⟨(md_ok_T hm k2.1.1), ?_⟩
  rintro _ s6 ⟨v4, k5, rfl⟩
  change ev_wp pg_F pg_lay (some (L, xs)) [] pg_dL (fun pc => Nat.beq pc 23) _ 1964 361 [some (.ref 999), some (.ref 0), some (.ref 6), some (.ref 12), some (.int i), some (.int v1), b] [.int v4] s6
  exact ⟨_, _, rfl, ⟨rfl, rfl⟩, sp_turn k2.1 hm k5⟩
theorem lw_turn366 (xs : Nat → Int32) (L : Nat) (i : Int32) (hi0 : vp_in i L) (hi1 : vp_in (i + 1) L) (hi2 : vp_in (i + 2) L) (hi3 : vp_in (i + 3) L) (hi4 : vp_in (i + 4) L) (σ : ev_W) (hf : sp_inv σ) (hm : md_ok σ) (hb : 0 < σ.2.2) (a b : Option Value) : ev_wp pg_F pg_lay (some (L, xs)) [] pg_dL (fun pc => Nat.beq pc 23) (fun pc ls st σ' => ∃ a b : Option Value, ls = [some (.ref 999), some (.ref 0), some (.ref 6), some (.ref 12), some (.int (i + 5)), a, b] ∧ (pc = 23 ∧ st = []) ∧ sp_inv σ' ∧ md_ok σ' ∧ σ'.2.2 ≤ σ.2.2 ∧ σ.2.2 ≤ σ'.2.2 + 1) 2000 366 [some (.ref 999), some (.ref 0), some (.ref 6), some (.ref 12), some (.int i), a, b] [] σ := by
  change ev_wp pg_F pg_lay (some (L, xs)) [] pg_dL (fun pc => Nat.beq pc 23) _ 2000 366 [some (.ref 999), some (.ref 0), some (.ref 6), some (.ref 12), some (.int i), a, b] [] σ
  refine ⟨hi1, ?_⟩
  change ev_wp pg_F pg_lay (some (L, xs)) [] pg_dL (fun pc => Nat.beq pc 23) _ 1994 373 [some (.ref 999), some (.ref 0), some (.ref 6), some (.ref 12), some (.int i), a, b] [.int (xs (Int32.toNatClampNeg (i + 1))), .ref 0] σ
  refine ⟨⟨hf, hb⟩, ?_⟩
  rintro _ s3 ⟨v1, k2, rfl⟩
  change ev_wp pg_F pg_lay (some (L, xs)) [] pg_dL (fun pc => Nat.beq pc 23) _ 1992 377 [some (.ref 999), some (.ref 0), some (.ref 6), some (.ref 12), some (.int i), a, b] [.int v1] s3
  refine ⟨hi1, ?_⟩
  change ev_wp pg_F pg_lay (some (L, xs)) [] pg_dL (fun pc => Nat.beq pc 23) _ 1985 386 [some (.ref 999), some (.ref 0), some (.ref 6), some (.ref 12), some (.int i), some (.int v1), b] [.int (xs (Int32.toNatClampNeg (i + 1))), .ref 6] s3
  refine ⟨(md_ok_T hm k2.1.1), ?_⟩
  rintro _ s6 ⟨v4, k5, rfl⟩
  change ev_wp pg_F pg_lay (some (L, xs)) [] pg_dL (fun pc => Nat.beq pc 23) _ 1984 389 [some (.ref 999), some (.ref 0), some (.ref 6), some (.ref 12), some (.int i), some (.int v1), b] [.int v4] s6
  exact ⟨_, _, rfl, ⟨rfl, rfl⟩, sp_turn k2.1 hm k5⟩
theorem lw_turn394 (xs : Nat → Int32) (L : Nat) (i : Int32) (hi0 : vp_in i L) (hi1 : vp_in (i + 1) L) (hi2 : vp_in (i + 2) L) (hi3 : vp_in (i + 3) L) (hi4 : vp_in (i + 4) L) (σ : ev_W) (hf : sp_inv σ) (hm : md_ok σ) (hb : 0 < σ.2.2) (a b : Option Value) : ev_wp pg_F pg_lay (some (L, xs)) [] pg_dL (fun pc => Nat.beq pc 23) (fun pc ls st σ' => ∃ a b : Option Value, ls = [some (.ref 999), some (.ref 0), some (.ref 6), some (.ref 12), some (.int (i + 5)), a, b] ∧ (pc = 23 ∧ st = []) ∧ sp_inv σ' ∧ md_ok σ' ∧ σ'.2.2 ≤ σ.2.2 ∧ σ.2.2 ≤ σ'.2.2 + 1) 2000 394 [some (.ref 999), some (.ref 0), some (.ref 6), some (.ref 12), some (.int i), a, b] [] σ := by
  change ev_wp pg_F pg_lay (some (L, xs)) [] pg_dL (fun pc => Nat.beq pc 23) _ 2000 394 [some (.ref 999), some (.ref 0), some (.ref 6), some (.ref 12), some (.int i), a, b] [] σ
  refine ⟨trivial, ?_⟩
  rintro _ _ ⟨rfl, rfl⟩
  change ev_wp pg_F pg_lay (some (L, xs)) [] pg_dL (fun pc => Nat.beq pc 23) _ 1998 398 [some (.ref 999), some (.ref 0), some (.ref 6), some (.ref 12), some (.int i), a, b] [.int (σ.1 0 5)] σ
  refine ⟨hm, ?_⟩
  rintro _ s3 ⟨v1, k2, rfl⟩
  change ev_wp pg_F pg_lay (some (L, xs)) [] pg_dL (fun pc => Nat.beq pc 23) _ 1995 403 [some (.ref 999), some (.ref 0), some (.ref 6), some (.ref 12), some (.int i), a, b] [.int v1] s3
  exact ⟨_, _, rfl, ⟨rfl, rfl⟩, sp_turn (sp_T_n hf (sp_t.rf σ)) hm k2⟩
theorem lw_turn407 (xs : Nat → Int32) (L : Nat) (i : Int32) (hi0 : vp_in i L) (hi1 : vp_in (i + 1) L) (hi2 : vp_in (i + 2) L) (hi3 : vp_in (i + 3) L) (hi4 : vp_in (i + 4) L) (σ : ev_W) (hf : sp_inv σ) (hm : md_ok σ) (hb : 0 < σ.2.2) (a b : Option Value) : ev_wp pg_F pg_lay (some (L, xs)) [] pg_dL (fun pc => Nat.beq pc 23) (fun pc ls st σ' => ∃ a b : Option Value, ls = [some (.ref 999), some (.ref 0), some (.ref 6), some (.ref 12), some (.int (i + 5)), a, b] ∧ (pc = 23 ∧ st = []) ∧ sp_inv σ' ∧ md_ok σ' ∧ σ'.2.2 ≤ σ.2.2 ∧ σ.2.2 ≤ σ'.2.2 + 1) 2000 407 [some (.ref 999), some (.ref 0), some (.ref 6), some (.ref 12), some (.int i), a, b] [] σ := by
  change ev_wp pg_F pg_lay (some (L, xs)) [] pg_dL (fun pc => Nat.beq pc 23) _ 2000 407 [some (.ref 999), some (.ref 0), some (.ref 6), some (.ref 12), some (.int i), a, b] [] σ
  refine ⟨hi1, ?_⟩
  change ev_wp pg_F pg_lay (some (L, xs)) [] pg_dL (fun pc => Nat.beq pc 23) _ 1994 414 [some (.ref 999), some (.ref 0), some (.ref 6), some (.ref 12), some (.int i), a, b] [.int (xs (Int32.toNatClampNeg (i + 1))), .ref 0] σ
  refine ⟨hi2, ?_⟩
  change ev_wp pg_F pg_lay (some (L, xs)) [] pg_dL (fun pc => Nat.beq pc 23) _ 1989 420 [some (.ref 999), some (.ref 0), some (.ref 6), some (.ref 12), some (.int i), a, b] [.int (xs (Int32.toNatClampNeg (i + 2))), .int (xs (Int32.toNatClampNeg (i + 1))), .ref 0] σ
  refine ⟨⟨hf, hb⟩, ?_⟩
  rintro _ s3 ⟨v1, k2, rfl⟩
  change ev_wp pg_F pg_lay (some (L, xs)) [] pg_dL (fun pc => Nat.beq pc 23) _ 1988 423 [some (.ref 999), some (.ref 0), some (.ref 6), some (.ref 12), some (.int i), a, b] [.int v1] s3
  refine ⟨hi1, ?_⟩
  change ev_wp pg_F pg_lay (some (L, xs)) [] pg_dL (fun pc => Nat.beq pc 23) _ 1981 432 [some (.ref 999), some (.ref 0), some (.ref 6), some (.ref 12), some (.int i), some (.int v1), b] [.int (xs (Int32.toNatClampNeg (i + 1))), .ref 6] s3
  refine ⟨hi2, ?_⟩
  change ev_wp pg_F pg_lay (some (L, xs)) [] pg_dL (fun pc => Nat.beq pc 23) _ 1976 438 [some (.ref 999), some (.ref 0), some (.ref 6), some (.ref 12), some (.int i), some (.int v1), b] [.int (xs (Int32.toNatClampNeg (i + 2))), .int (xs (Int32.toNatClampNeg (i + 1))), .ref 6] s3
  refine ⟨(md_ok_T hm k2.1.1), ?_⟩
  rintro _ s6 ⟨k5, rfl⟩
  change ev_wp pg_F pg_lay (some (L, xs)) [] pg_dL (fun pc => Nat.beq pc 23) _ 1975 441 [some (.ref 999), some (.ref 0), some (.ref 6), some (.ref 12), some (.int i), some (.int v1), b] [] s6
  refine ⟨trivial, ?_⟩
  rintro _ _ ⟨rfl, rfl⟩
  change ev_wp pg_F pg_lay (some (L, xs)) [] pg_dL (fun pc => Nat.beq pc 23) _ 1973 445 [some (.ref 999), some (.ref 0), some (.ref 6), some (.ref 12), some (.int i), some (.int v1), b] [.int (s6.1 6 0)] s6
  refine ⟨fun (h7 : (s6.1 6 0) = v1) => ?_, fun (h7 : ¬ (s6.1 6 0) = v1) => ?_⟩
  · skip
    change ev_wp pg_F pg_lay (some (L, xs)) [] pg_dL (fun pc => Nat.beq pc 23) _ 1971 452 [some (.ref 999), some (.ref 0), some (.ref 6), some (.ref 12), some (.int i), some (.int v1), b] [] s6
    exact ⟨_, _, rfl, ⟨rfl, rfl⟩, sp_turn k2.1 hm k5.1⟩
  · exact ((show False from by rcases k2.2 with z | z <;> rcases k5.2 with y | y <;> first | exact absurd z.2 y.1 | exact absurd y.1 z.2 | exact h7 (y.2.trans z.1.symm))).elim
theorem lw_turn455 (xs : Nat → Int32) (L : Nat) (i : Int32) (hi0 : vp_in i L) (hi1 : vp_in (i + 1) L) (hi2 : vp_in (i + 2) L) (hi3 : vp_in (i + 3) L) (hi4 : vp_in (i + 4) L) (σ : ev_W) (hf : sp_inv σ) (hm : md_ok σ) (hb : 0 < σ.2.2) (a b : Option Value) : ev_wp pg_F pg_lay (some (L, xs)) [] pg_dL (fun pc => Nat.beq pc 23) (fun pc ls st σ' => ∃ a b : Option Value, ls = [some (.ref 999), some (.ref 0), some (.ref 6), some (.ref 12), some (.int (i + 5)), a, b] ∧ (pc = 23 ∧ st = []) ∧ sp_inv σ' ∧ md_ok σ' ∧ σ'.2.2 ≤ σ.2.2 ∧ σ.2.2 ≤ σ'.2.2 + 1) 2000 455 [some (.ref 999), some (.ref 0), some (.ref 6), some (.ref 12), some (.int i), a, b] [] σ := by
  change ev_wp pg_F pg_lay (some (L, xs)) [] pg_dL (fun pc => Nat.beq pc 23) _ 2000 455 [some (.ref 999), some (.ref 0), some (.ref 6), some (.ref 12), some (.int i), a, b] [] σ
  refine ⟨hf, ?_⟩
  rintro _ s3 ⟨v1, k2, rfl⟩
  change ev_wp pg_F pg_lay (some (L, xs)) [] pg_dL (fun pc => Nat.beq pc 23) _ 1998 459 [some (.ref 999), some (.ref 0), some (.ref 6), some (.ref 12), some (.int i), a, b] [.int v1] s3
  refine ⟨(md_ok_T hm (sp_T_n hf k2.2.1.t).1), ?_⟩
  rintro _ s6 ⟨v4, k5, rfl⟩
  change ev_wp pg_F pg_lay (some (L, xs)) [] pg_dL (fun pc => Nat.beq pc 23) _ 1995 464 [some (.ref 999), some (.ref 0), some (.ref 6), some (.ref 12), some (.int i), a, b] [.int v4] s6
  exact ⟨_, _, rfl, ⟨rfl, rfl⟩, sp_turn (sp_T_n hf k2.2.1.t) hm k5⟩
theorem lw_turn468 (xs : Nat → Int32) (L : Nat) (i : Int32) (hi0 : vp_in i L) (hi1 : vp_in (i + 1) L) (hi2 : vp_in (i + 2) L) (hi3 : vp_in (i + 3) L) (hi4 : vp_in (i + 4) L) (σ : ev_W) (hf : sp_inv σ) (hm : md_ok σ) (hb : 0 < σ.2.2) (a b : Option Value) : ev_wp pg_F pg_lay (some (L, xs)) [] pg_dL (fun pc => Nat.beq pc 23) (fun pc ls st σ' => ∃ a b : Option Value, ls = [some (.ref 999), some (.ref 0), some (.ref 6), some (.ref 12), some (.int (i + 5)), a, b] ∧ (pc = 23 ∧ st = []) ∧ sp_inv σ' ∧ md_ok σ' ∧ σ'.2.2 ≤ σ.2.2 ∧ σ.2.2 ≤ σ'.2.2 + 1) 2000 468 [some (.ref 999), some (.ref 0), some (.ref 6), some (.ref 12), some (.int i), a, b] [] σ := by
  change ev_wp pg_F pg_lay (some (L, xs)) [] pg_dL (fun pc => Nat.beq pc 23) _ 2000 468 [some (.ref 999), some (.ref 0), some (.ref 6), some (.ref 12), some (.int i), a, b] [] σ
  refine ⟨trivial, ?_⟩
  rintro _ _ ⟨v1, k2, rfl, rfl⟩
  change ev_wp pg_F pg_lay (some (L, xs)) [] pg_dL (fun pc => Nat.beq pc 23) _ 1998 472 [some (.ref 999), some (.ref 0), some (.ref 6), some (.ref 12), some (.int i), a, b] [.int v1] σ
  refine ⟨hm, ?_⟩
  rintro _ s5 ⟨v3, k4, rfl⟩
  change ev_wp pg_F pg_lay (some (L, xs)) [] pg_dL (fun pc => Nat.beq pc 23) _ 1995 477 [some (.ref 999), some (.ref 0), some (.ref 6), some (.ref 12), some (.int i), a, b] [.int v3] s5
  exact ⟨_, _, rfl, ⟨rfl, rfl⟩, sp_turn (sp_T_n hf (sp_t.rf σ)) hm k4⟩
theorem lw_turn481 (xs : Nat → Int32) (L : Nat) (i : Int32) (hi0 : vp_in i L) (hi1 : vp_in (i + 1) L) (hi2 : vp_in (i + 2) L) (hi3 : vp_in (i + 3) L) (hi4 : vp_in (i + 4) L) (σ : ev_W) (hf : sp_inv σ) (hm : md_ok σ) (hb : 0 < σ.2.2) (a b : Option Value) : ev_wp pg_F pg_lay (some (L, xs)) [] pg_dL (fun pc => Nat.beq pc 23) (fun pc ls st σ' => ∃ a b : Option Value, ls = [some (.ref 999), some (.ref 0), some (.ref 6), some (.ref 12), some (.int (i + 5)), a, b] ∧ (pc = 23 ∧ st = []) ∧ sp_inv σ' ∧ md_ok σ' ∧ σ'.2.2 ≤ σ.2.2 ∧ σ.2.2 ≤ σ'.2.2 + 1) 2000 481 [some (.ref 999), some (.ref 0), some (.ref 6), some (.ref 12), some (.int i), a, b] [] σ := by
  change ev_wp pg_F pg_lay (some (L, xs)) [] pg_dL (fun pc => Nat.beq pc 23) _ 2000 481 [some (.ref 999), some (.ref 0), some (.ref 6), some (.ref 12), some (.int i), a, b] [] σ
  refine ⟨trivial, ?_⟩
  rintro _ _ ⟨v1, k2, rfl, rfl⟩
  change ev_wp pg_F pg_lay (some (L, xs)) [] pg_dL (fun pc => Nat.beq pc 23) _ 1998 485 [some (.ref 999), some (.ref 0), some (.ref 6), some (.ref 12), some (.int i), a, b] [.int v1] σ
  refine ⟨hm, ?_⟩
  rintro _ s5 ⟨v3, k4, rfl⟩
  change ev_wp pg_F pg_lay (some (L, xs)) [] pg_dL (fun pc => Nat.beq pc 23) _ 1995 490 [some (.ref 999), some (.ref 0), some (.ref 6), some (.ref 12), some (.int i), a, b] [.int v3] s5
  exact ⟨_, _, rfl, ⟨rfl, rfl⟩, sp_turn (sp_T_n hf (sp_t.rf σ)) hm k4⟩
theorem lw_turn494 (xs : Nat → Int32) (L : Nat) (i : Int32) (hi0 : vp_in i L) (hi1 : vp_in (i + 1) L) (hi2 : vp_in (i + 2) L) (hi3 : vp_in (i + 3) L) (hi4 : vp_in (i + 4) L) (σ : ev_W) (hf : sp_inv σ) (hm : md_ok σ) (hb : 0 < σ.2.2) (a b : Option Value) : ev_wp pg_F pg_lay (some (L, xs)) [] pg_dL (fun pc => Nat.beq pc 23) (fun pc ls st σ' => ∃ a b : Option Value, ls = [some (.ref 999), some (.ref 0), some (.ref 6), some (.ref 12), some (.int (i + 5)), a, b] ∧ (pc = 23 ∧ st = []) ∧ sp_inv σ' ∧ md_ok σ' ∧ σ'.2.2 ≤ σ.2.2 ∧ σ.2.2 ≤ σ'.2.2 + 1) 2000 494 [some (.ref 999), some (.ref 0), some (.ref 6), some (.ref 12), some (.int i), a, b] [] σ := by
  change ev_wp pg_F pg_lay (some (L, xs)) [] pg_dL (fun pc => Nat.beq pc 23) _ 2000 494 [some (.ref 999), some (.ref 0), some (.ref 6), some (.ref 12), some (.int i), a, b] [] σ
  refine ⟨hi1, ?_⟩
  change ev_wp pg_F pg_lay (some (L, xs)) [] pg_dL (fun pc => Nat.beq pc 23) _ 1994 501 [some (.ref 999), some (.ref 0), some (.ref 6), some (.ref 12), some (.int i), a, b] [.int (xs (Int32.toNatClampNeg (i + 1))), .ref 0] σ
  refine ⟨trivial, ?_⟩
  rintro _ _ ⟨v1, k2, rfl, rfl⟩
  change ev_wp pg_F pg_lay (some (L, xs)) [] pg_dL (fun pc => Nat.beq pc 23) _ 1993 504 [some (.ref 999), some (.ref 0), some (.ref 6), some (.ref 12), some (.int i), a, b] [.int v1] σ
  refine ⟨hi1, ?_⟩
  change ev_wp pg_F pg_lay (some (L, xs)) [] pg_dL (fun pc => Nat.beq pc 23) _ 1986 512 [some (.ref 999), some (.ref 0), some (.ref 6), some (.ref 12), some (.int i), a, b] [.int (xs (Int32.toNatClampNeg (i + 1))), .ref 6] σ
  refine ⟨hm, ?_⟩
  rintro _ s5 ⟨v3, k4, rfl⟩
  change ev_wp pg_F pg_lay (some (L, xs)) [] pg_dL (fun pc => Nat.beq pc 23) _ 1985 515 [some (.ref 999), some (.ref 0), some (.ref 6), some (.ref 12), some (.int i), a, b] [.int v3] s5
  exact ⟨_, _, rfl, ⟨rfl, rfl⟩, sp_turn (sp_T_n hf (sp_t.rf σ)) hm k4⟩
theorem lw_turn519 (xs : Nat → Int32) (L : Nat) (i : Int32) (hi0 : vp_in i L) (hi1 : vp_in (i + 1) L) (hi2 : vp_in (i + 2) L) (hi3 : vp_in (i + 3) L) (hi4 : vp_in (i + 4) L) (σ : ev_W) (hf : sp_inv σ) (hm : md_ok σ) (hb : 0 < σ.2.2) (a b : Option Value) : ev_wp pg_F pg_lay (some (L, xs)) [] pg_dL (fun pc => Nat.beq pc 23) (fun pc ls st σ' => ∃ a b : Option Value, ls = [some (.ref 999), some (.ref 0), some (.ref 6), some (.ref 12), some (.int (i + 5)), a, b] ∧ (pc = 23 ∧ st = []) ∧ sp_inv σ' ∧ md_ok σ' ∧ σ'.2.2 ≤ σ.2.2 ∧ σ.2.2 ≤ σ'.2.2 + 1) 2000 519 [some (.ref 999), some (.ref 0), some (.ref 6), some (.ref 12), some (.int i), a, b] [] σ := by
  change ev_wp pg_F pg_lay (some (L, xs)) [] pg_dL (fun pc => Nat.beq pc 23) _ 2000 519 [some (.ref 999), some (.ref 0), some (.ref 6), some (.ref 12), some (.int i), a, b] [] σ
  refine ⟨hi1, ?_⟩
  change ev_wp pg_F pg_lay (some (L, xs)) [] pg_dL (fun pc => Nat.beq pc 23) _ 1994 526 [some (.ref 999), some (.ref 0), some (.ref 6), some (.ref 12), some (.int i), a, b] [.int (xs (Int32.toNatClampNeg (i + 1))), .ref 0] σ
  refine ⟨hi2, ?_⟩
  change ev_wp pg_F pg_lay (some (L, xs)) [] pg_dL (fun pc => Nat.beq pc 23) _ 1989 532 [some (.ref 999), some (.ref 0), some (.ref 6), some (.ref 12), some (.int i), a, b] [.int (xs (Int32.toNatClampNeg (i + 2))), .int (xs (Int32.toNatClampNeg (i + 1))), .ref 0] σ
  refine ⟨trivial, ?_⟩
  rintro _ _ ⟨v1, k2, rfl, rfl⟩
  change ev_wp pg_F pg_lay (some (L, xs)) [] pg_dL (fun pc => Nat.beq pc 23) _ 1988 535 [some (.ref 999), some (.ref 0), some (.ref 6), some (.ref 12), some (.int i), a, b] [.int v1] σ
  refine ⟨hi1, ?_⟩
  change ev_wp pg_F pg_lay (some (L, xs)) [] pg_dL (fun pc => Nat.beq pc 23) _ 1981 543 [some (.ref 999), some (.ref 0), some (.ref 6), some (.ref 12), some (.int i), a, b] [.int (xs (Int32.toNatClampNeg (i + 1))), .ref 6] σ
  refine ⟨hi2, ?_⟩
  change ev_wp pg_F pg_lay (some (L, xs)) [] pg_dL (fun pc => Nat.beq pc 23) _ 1976 549 [some (.ref 999), some (.ref 0), some (.ref 6), some (.ref 12), some (.int i), a, b] [.int (xs (Int32.toNatClampNeg (i + 2))), .int (xs (Int32.toNatClampNeg (i + 1))), .ref 6] σ
  refine ⟨hm, ?_⟩
  rintro _ s5 ⟨v3, k4, rfl⟩
  change ev_wp pg_F pg_lay (some (L, xs)) [] pg_dL (fun pc => Nat.beq pc 23) _ 1975 552 [some (.ref 999), some (.ref 0), some (.ref 6), some (.ref 12), some (.int i), a, b] [.int v3] s5
  exact ⟨_, _, rfl, ⟨rfl, rfl⟩, sp_turn (sp_T_n hf (sp_t.rf σ)) hm k4⟩
theorem lw_turn556 (xs : Nat → Int32) (L : Nat) (i : Int32) (hi0 : vp_in i L) (hi1 : vp_in (i + 1) L) (hi2 : vp_in (i + 2) L) (hi3 : vp_in (i + 3) L) (hi4 : vp_in (i + 4) L) (σ : ev_W) (hf : sp_inv σ) (hm : md_ok σ) (hb : 0 < σ.2.2) (a b : Option Value) : ev_wp pg_F pg_lay (some (L, xs)) [] pg_dL (fun pc => Nat.beq pc 23) (fun pc ls st σ' => ∃ a b : Option Value, ls = [some (.ref 999), some (.ref 0), some (.ref 6), some (.ref 12), some (.int (i + 5)), a, b] ∧ (pc = 23 ∧ st = []) ∧ sp_inv σ' ∧ md_ok σ' ∧ σ'.2.2 ≤ σ.2.2 ∧ σ.2.2 ≤ σ'.2.2 + 1) 2000 556 [some (.ref 999), some (.ref 0), some (.ref 6), some (.ref 12), some (.int i), a, b] [] σ := by
  change ev_wp pg_F pg_lay (some (L, xs)) [] pg_dL (fun pc => Nat.beq pc 23) _ 2000 556 [some (.ref 999), some (.ref 0), some (.ref 6), some (.ref 12), some (.int i), a, b] [] σ
  refine ⟨hi1, ?_⟩
  change ev_wp pg_F pg_lay (some (L, xs)) [] pg_dL (fun pc => Nat.beq pc 23) _ 1994 563 [some (.ref 999), some (.ref 0), some (.ref 6), some (.ref 12), some (.int i), a, b] [.int (xs (Int32.toNatClampNeg (i + 1))), .ref 0] σ
  refine ⟨trivial, ?_⟩
  rintro _ _ ⟨v1, k2, rfl, rfl⟩
  change ev_wp pg_F pg_lay (some (L, xs)) [] pg_dL (fun pc => Nat.beq pc 23) _ 1993 566 [some (.ref 999), some (.ref 0), some (.ref 6), some (.ref 12), some (.int i), a, b] [.int v1] σ
  refine ⟨hi1, ?_⟩
  change ev_wp pg_F pg_lay (some (L, xs)) [] pg_dL (fun pc => Nat.beq pc 23) _ 1986 574 [some (.ref 999), some (.ref 0), some (.ref 6), some (.ref 12), some (.int i), a, b] [.int (xs (Int32.toNatClampNeg (i + 1))), .ref 6] σ
  refine ⟨hm, ?_⟩
  rintro _ s5 ⟨v3, k4, rfl⟩
  change ev_wp pg_F pg_lay (some (L, xs)) [] pg_dL (fun pc => Nat.beq pc 23) _ 1985 577 [some (.ref 999), some (.ref 0), some (.ref 6), some (.ref 12), some (.int i), a, b] [.int v3] s5
  exact ⟨_, _, rfl, ⟨rfl, rfl⟩, sp_turn (sp_T_n hf (sp_t.rf σ)) hm k4⟩
theorem lw_turn581 (xs : Nat → Int32) (L : Nat) (i : Int32) (hi0 : vp_in i L) (hi1 : vp_in (i + 1) L) (hi2 : vp_in (i + 2) L) (hi3 : vp_in (i + 3) L) (hi4 : vp_in (i + 4) L) (σ : ev_W) (hf : sp_inv σ) (hm : md_ok σ) (hb : 0 < σ.2.2) (a b : Option Value) : ev_wp pg_F pg_lay (some (L, xs)) [] pg_dL (fun pc => Nat.beq pc 23) (fun pc ls st σ' => ∃ a b : Option Value, ls = [some (.ref 999), some (.ref 0), some (.ref 6), some (.ref 12), some (.int (i + 5)), a, b] ∧ (pc = 23 ∧ st = []) ∧ sp_inv σ' ∧ md_ok σ' ∧ σ'.2.2 ≤ σ.2.2 ∧ σ.2.2 ≤ σ'.2.2 + 1) 2000 581 [some (.ref 999), some (.ref 0), some (.ref 6), some (.ref 12), some (.int i), a, b] [] σ := by
  change ev_wp pg_F pg_lay (some (L, xs)) [] pg_dL (fun pc => Nat.beq pc 23) _ 2000 581 [some (.ref 999), some (.ref 0), some (.ref 6), some (.ref 12), some (.int i), a, b] [] σ
  refine ⟨hi1, ?_⟩
  change ev_wp pg_F pg_lay (some (L, xs)) [] pg_dL (fun pc => Nat.beq pc 23) _ 1994 588 [some (.ref 999), some (.ref 0), some (.ref 6), some (.ref 12), some (.int i), a, b] [.int (xs (Int32.toNatClampNeg (i + 1))), .ref 0] σ
  refine ⟨hi2, ?_⟩
  change ev_wp pg_F pg_lay (some (L, xs)) [] pg_dL (fun pc => Nat.beq pc 23) _ 1989 594 [some (.ref 999), some (.ref 0), some (.ref 6), some (.ref 12), some (.int i), a, b] [.int (xs (Int32.toNatClampNeg (i + 2))), .int (xs (Int32.toNatClampNeg (i + 1))), .ref 0] σ
  refine ⟨hi3, ?_⟩
  change ev_wp pg_F pg_lay (some (L, xs)) [] pg_dL (fun pc => Nat.beq pc 23) _ 1984 600 [some (.ref 999), some (.ref 0), some (.ref 6), some (.ref 12), some (.int i), a, b] [.int (xs (Int32.toNatClampNeg (i + 3))), .int (xs (Int32.toNatClampNeg (i + 2))), .int (xs (Int32.toNatClampNeg (i + 1))), .ref 0] σ
  refine ⟨⟨hf, hb⟩, ?_⟩
  rintro _ s3 ⟨v1, k2, rfl⟩
  change ev_wp pg_F pg_lay (some (L, xs)) [] pg_dL (fun pc => Nat.beq pc 23) _ 1982 604 [some (.ref 999), some (.ref 0), some (.ref 6), some (.ref 12), some (.int i), a, b] [.int v1] s3
  refine ⟨hi1, ?_⟩
  change ev_wp pg_F pg_lay (some (L, xs)) [] pg_dL (fun pc => Nat.beq pc 23) _ 1975 613 [some (.ref 999), some (.ref 0), some (.ref 6), some (.ref 12), some (.int i), some (.int v1), b] [.int (xs (Int32.toNatClampNeg (i + 1))), .ref 6] s3
  refine ⟨hi2, ?_⟩
  change ev_wp pg_F pg_lay (some (L, xs)) [] pg_dL (fun pc => Nat.beq pc 23) _ 1970 619 [some (.ref 999), some (.ref 0), some (.ref 6), some (.ref 12), some (.int i), some (.int v1), b] [.int (xs (Int32.toNatClampNeg (i + 2))), .int (xs (Int32.toNatClampNeg (i + 1))), .ref 6] s3
  refine ⟨hi3, ?_⟩
  change ev_wp pg_F pg_lay (some (L, xs)) [] pg_dL (fun pc => Nat.beq pc 23) _ 1965 625 [some (.ref 999), some (.ref 0), some (.ref 6), some (.ref 12), some (.int i), some (.int v1), b] [.int (xs (Int32.toNatClampNeg (i + 3))), .int (xs (Int32.toNatClampNeg (i + 2))), .int (xs (Int32.toNatClampNeg (i + 1))), .ref 6] s3
  refine ⟨(md_ok_T hm k2.1.1), ?_⟩
  rintro _ s6 ⟨v4, k5, rfl⟩
  change ev_wp pg_F pg_lay (some (L, xs)) [] pg_dL (fun pc => Nat.beq pc 23) _ 1964 628 [some (.ref 999), some (.ref 0), some (.ref 6), some (.ref 12), some (.int i), some (.int v1), b] [.int v4] s6
  exact ⟨_, _, rfl, ⟨rfl, rfl⟩, sp_turn k2.1 hm k5⟩
theorem lw_turn633 (xs : Nat → Int32) (L : Nat) (i : Int32) (hi0 : vp_in i L) (hi1 : vp_in (i + 1) L) (hi2 : vp_in (i + 2) L) (hi3 : vp_in (i + 3) L) (hi4 : vp_in (i + 4) L) (σ : ev_W) (hf : sp_inv σ) (hm : md_ok σ) (hb : 0 < σ.2.2) (a b : Option Value) : ev_wp pg_F pg_lay (some (L, xs)) [] pg_dL (fun pc => Nat.beq pc 23) (fun pc ls st σ' => ∃ a b : Option Value, ls = [some (.ref 999), some (.ref 0), some (.ref 6), some (.ref 12), some (.int (i + 5)), a, b] ∧ (pc = 23 ∧ st = []) ∧ sp_inv σ' ∧ md_ok σ' ∧ σ'.2.2 ≤ σ.2.2 ∧ σ.2.2 ≤ σ'.2.2 + 1) 2000 633 [some (.ref 999), some (.ref 0), some (.ref 6), some (.ref 12), some (.int i), a, b] [] σ := by
  change ev_wp pg_F pg_lay (some (L, xs)) [] pg_dL (fun pc => Nat.beq pc 23) _ 2000 633 [some (.ref 999), some (.ref 0), some (.ref 6), some (.ref 12), some (.int i), a, b] [] σ
  refine ⟨hi1, ?_⟩
  change ev_wp pg_F pg_lay (some (L, xs)) [] pg_dL (fun pc => Nat.beq pc 23) _ 1994 640 [some (.ref 999), some (.ref 0), some (.ref 6), some (.ref 12), some (.int i), a, b] [.int (xs (Int32.toNatClampNeg (i + 1))), .ref 0] σ
  refine ⟨hi2, ?_⟩
  change ev_wp pg_F pg_lay (some (L, xs)) [] pg_dL (fun pc => Nat.beq pc 23) _ 1989 646 [some (.ref 999), some (.ref 0), some (.ref 6), some (.ref 12), some (.int i), a, b] [.int (xs (Int32.toNatClampNeg (i + 2))), .int (xs (Int32.toNatClampNeg (i + 1))), .ref 0] σ
  refine ⟨⟨hf, hb⟩, ?_⟩
  rintro _ s3 ⟨v1, k2, rfl⟩
  change ev_wp pg_F pg_lay (some (L, xs)) [] pg_dL (fun pc => Nat.beq pc 23) _ 1987 650 [some (.ref 999), some (.ref 0), some (.ref 6), some (.ref 12), some (.int i), a, b] [.int v1] s3
  refine ⟨hi1, ?_⟩
  change ev_wp pg_F pg_lay (some (L, xs)) [] pg_dL (fun pc => Nat.beq pc 23) _ 1980 659 [some (.ref 999), some (.ref 0), some (.ref 6), some (.ref 12), some (.int i), some (.int v1), b] [.int (xs (Int32.toNatClampNeg (i + 1))), .ref 6] s3
  refine ⟨hi2, ?_⟩
  change ev_wp pg_F pg_lay (some (L, xs)) [] pg_dL (fun pc => Nat.beq pc 23) _ 1975 665 [some (.ref 999), some (.ref 0), some (.ref 6), some (.ref 12), some (.int i), some (.int v1), b] [.int (xs (Int32.toNatClampNeg (i + 2))), .int (xs (Int32.toNatClampNeg (i + 1))), .ref 6] s3
  refine ⟨(md_ok_T hm k2.1.1), ?_⟩
  rintro _ s6 ⟨v4, k5, rfl⟩
  change ev_wp pg_F pg_lay (some (L, xs)) [] pg_dL (fun pc => Nat.beq pc 23) _ 1974 668 [some (.ref 999), some (.ref 0), some (.ref 6), some (.ref 12), some (.int i), some (.int v1), b] [.int v4] s6
  exact ⟨_, _, rfl, ⟨rfl, rfl⟩, sp_turn k2.1 hm k5⟩
theorem lw_turn673 (xs : Nat → Int32) (L : Nat) (i : Int32) (hi0 : vp_in i L) (hi1 : vp_in (i + 1) L) (hi2 : vp_in (i + 2) L) (hi3 : vp_in (i + 3) L) (hi4 : vp_in (i + 4) L) (σ : ev_W) (hf : sp_inv σ) (hm : md_ok σ) (hb : 0 < σ.2.2) (a b : Option Value) : ev_wp pg_F pg_lay (some (L, xs)) [] pg_dL (fun pc => Nat.beq pc 23) (fun pc ls st σ' => ∃ a b : Option Value, ls = [some (.ref 999), some (.ref 0), some (.ref 6), some (.ref 12), some (.int (i + 5)), a, b] ∧ (pc = 23 ∧ st = []) ∧ sp_inv σ' ∧ md_ok σ' ∧ σ'.2.2 ≤ σ.2.2 ∧ σ.2.2 ≤ σ'.2.2 + 1) 2000 673 [some (.ref 999), some (.ref 0), some (.ref 6), some (.ref 12), some (.int i), a, b] [] σ := by
  change ev_wp pg_F pg_lay (some (L, xs)) [] pg_dL (fun pc => Nat.beq pc 23) _ 2000 673 [some (.ref 999), some (.ref 0), some (.ref 6), some (.ref 12), some (.int i), a, b] [] σ
  refine ⟨hi1, ?_⟩
  change ev_wp pg_F pg_lay (some (L, xs)) [] pg_dL (fun pc => Nat.beq pc 23) _ 1994 680 [some (.ref 999), some (.ref 0), some (.ref 6), some (.ref 12), some (.int i), a, b] [.int (xs (Int32.toNatClampNeg (i + 1))), .ref 0] σ
  refine ⟨hf, ?_⟩
  rintro _ _ ⟨v1, k2, rfl, rfl⟩
  change ev_wp pg_F pg_lay (some (L, xs)) [] pg_dL (fun pc => Nat.beq pc 23) _ 1993 683 [some (.ref 999), some (.ref 0), some (.ref 6), some (.ref 12), some (.int i), a, b] [.int v1] σ
  refine ⟨hi1, ?_⟩
  change ev_wp pg_F pg_lay (some (L, xs)) [] pg_dL (fun pc => Nat.beq pc 23) _ 1986 691 [some (.ref 999), some (.ref 0), some (.ref 6), some (.ref 12), some (.int i), a, b] [.int (xs (Int32.toNatClampNeg (i + 1))), .ref 6] σ
  refine ⟨hm, ?_⟩
  rintro _ s5 ⟨v3, k4, rfl⟩
  change ev_wp pg_F pg_lay (some (L, xs)) [] pg_dL (fun pc => Nat.beq pc 23) _ 1985 694 [some (.ref 999), some (.ref 0), some (.ref 6), some (.ref 12), some (.int i), a, b] [.int v3] s5
  exact ⟨_, _, rfl, ⟨rfl, rfl⟩, sp_turn (sp_T_n hf (sp_t.rf σ)) hm k4⟩
theorem lw_turn698 (xs : Nat → Int32) (L : Nat) (i : Int32) (hi0 : vp_in i L) (hi1 : vp_in (i + 1) L) (hi2 : vp_in (i + 2) L) (hi3 : vp_in (i + 3) L) (hi4 : vp_in (i + 4) L) (σ : ev_W) (hf : sp_inv σ) (hm : md_ok σ) (hb : 0 < σ.2.2) (a b : Option Value) : ev_wp pg_F pg_lay (some (L, xs)) [] pg_dL (fun pc => Nat.beq pc 23) (fun pc ls st σ' => ∃ a b : Option Value, ls = [some (.ref 999), some (.ref 0), some (.ref 6), some (.ref 12), some (.int (i + 5)), a, b] ∧ (pc = 23 ∧ st = []) ∧ sp_inv σ' ∧ md_ok σ' ∧ σ'.2.2 ≤ σ.2.2 ∧ σ.2.2 ≤ σ'.2.2 + 1) 2000 698 [some (.ref 999), some (.ref 0), some (.ref 6), some (.ref 12), some (.int i), a, b] [] σ := by
  change ev_wp pg_F pg_lay (some (L, xs)) [] pg_dL (fun pc => Nat.beq pc 23) _ 2000 698 [some (.ref 999), some (.ref 0), some (.ref 6), some (.ref 12), some (.int i), a, b] [] σ
  exact ⟨_, _, rfl, ⟨rfl, rfl⟩, hf, hm, Nat.le_refl _, Nat.le_succ _⟩
theorem lw_head (xs : Nat → Int32) (L : Nat) (i : Int32) (σ : ev_W) (a b : Option Value) : ev_wp pg_F pg_lay (some (L, xs)) [] pg_dL (fun pc => Nat.ble 32 pc) (fun pc ls st σ' => ((pc = 704 ∧ Int32.ofNat L - 5 < i) ∨ (pc = 32 ∧ ¬ Int32.ofNat L - 5 < i)) ∧ ls = [some (.ref 999), some (.ref 0), some (.ref 6), some (.ref 12), some (.int i), a, b] ∧ st = [] ∧ σ' = σ) 2000 23 [some (.ref 999), some (.ref 0), some (.ref 6), some (.ref 12), some (.int i), a, b] [] σ := by
  refine ⟨fun (h : Int32.ofNat L - 5 < i) => ?_, fun (h : ¬ Int32.ofNat L - 5 < i) => ?_⟩
  · exact ⟨Or.inl ⟨rfl, h⟩, rfl, rfl, rfl⟩
  · exact ⟨Or.inr ⟨rfl, h⟩, rfl, rfl, rfl⟩
theorem lw_sw (xs : Nat → Int32) (L : Nat) (i : Int32) (hi0 : vp_in i L) (hi1 : vp_in (i + 1) L) (hi2 : vp_in (i + 2) L) (hi3 : vp_in (i + 3) L) (hi4 : vp_in (i + 4) L) (σ : ev_W) (hf : sp_inv σ) (hm : md_ok σ) (hb : 0 < σ.2.2) (a b : Option Value) : ev_wp pg_F pg_lay (some (L, xs)) [] pg_dL (fun pc => Nat.ble 120 pc) (fun pc ls st σ' => pc ∈ [120, 184, 233, 286, 314, 366, 394, 407, 455, 468, 481, 494, 519, 556, 581, 633, 673, 698] ∧ ls = [some (.ref 999), some (.ref 0), some (.ref 6), some (.ref 12), some (.int i), a, b] ∧ st = [] ∧ σ' = σ) 2000 32 [some (.ref 999), some (.ref 0), some (.ref 6), some (.ref 12), some (.int i), a, b] [] σ := by
  change ev_wp pg_F pg_lay (some (L, xs)) [] pg_dL (fun pc => Nat.ble 120 pc) _ 2000 32 [some (.ref 999), some (.ref 0), some (.ref 6), some (.ref 12), some (.int i), a, b] [] σ
  refine ⟨hi0, ?_⟩
  change ev_wp pg_F pg_lay (some (L, xs)) [] pg_dL (fun pc => Nat.ble 120 pc) _ 1997 36 [some (.ref 999), some (.ref 0), some (.ref 6), some (.ref 12), some (.int i), a, b] [.int (xs (Int32.toNatClampNeg i))] σ
  refine ⟨fun (h1 : ((xs (Int32.toNatClampNeg i)) &&& 31) = 0) => ?_, fun (h1 : ¬ ((xs (Int32.toNatClampNeg i)) &&& 31) = 0) => ?_⟩
  · exact ⟨by decide, rfl, rfl, rfl⟩
  refine ⟨fun (h2 : ((xs (Int32.toNatClampNeg i)) &&& 31) = 1) => ?_, fun (h2 : ¬ ((xs (Int32.toNatClampNeg i)) &&& 31) = 1) => ?_⟩
  · exact ⟨by decide, rfl, rfl, rfl⟩
  refine ⟨fun (h3 : ((xs (Int32.toNatClampNeg i)) &&& 31) = 2) => ?_, fun (h3 : ¬ ((xs (Int32.toNatClampNeg i)) &&& 31) = 2) => ?_⟩
  · exact ⟨by decide, rfl, rfl, rfl⟩
  refine ⟨fun (h4 : ((xs (Int32.toNatClampNeg i)) &&& 31) = 3) => ?_, fun (h4 : ¬ ((xs (Int32.toNatClampNeg i)) &&& 31) = 3) => ?_⟩
  · exact ⟨by decide, rfl, rfl, rfl⟩
  refine ⟨fun (h5 : ((xs (Int32.toNatClampNeg i)) &&& 31) = 4) => ?_, fun (h5 : ¬ ((xs (Int32.toNatClampNeg i)) &&& 31) = 4) => ?_⟩
  · exact ⟨by decide, rfl, rfl, rfl⟩
  refine ⟨fun (h6 : ((xs (Int32.toNatClampNeg i)) &&& 31) = 5) => ?_, fun (h6 : ¬ ((xs (Int32.toNatClampNeg i)) &&& 31) = 5) => ?_⟩
  · exact ⟨by decide, rfl, rfl, rfl⟩
  refine ⟨fun (h7 : ((xs (Int32.toNatClampNeg i)) &&& 31) = 6) => ?_, fun (h7 : ¬ ((xs (Int32.toNatClampNeg i)) &&& 31) = 6) => ?_⟩
  · exact ⟨by decide, rfl, rfl, rfl⟩
  refine ⟨fun (h8 : ((xs (Int32.toNatClampNeg i)) &&& 31) = 7) => ?_, fun (h8 : ¬ ((xs (Int32.toNatClampNeg i)) &&& 31) = 7) => ?_⟩
  · exact ⟨by decide, rfl, rfl, rfl⟩
  refine ⟨fun (h9 : ((xs (Int32.toNatClampNeg i)) &&& 31) = 8) => ?_, fun (h9 : ¬ ((xs (Int32.toNatClampNeg i)) &&& 31) = 8) => ?_⟩
  · exact ⟨by decide, rfl, rfl, rfl⟩
  refine ⟨fun (h10 : ((xs (Int32.toNatClampNeg i)) &&& 31) = 9) => ?_, fun (h10 : ¬ ((xs (Int32.toNatClampNeg i)) &&& 31) = 9) => ?_⟩
  · exact ⟨by decide, rfl, rfl, rfl⟩
  refine ⟨fun (h11 : ((xs (Int32.toNatClampNeg i)) &&& 31) = 10) => ?_, fun (h11 : ¬ ((xs (Int32.toNatClampNeg i)) &&& 31) = 10) => ?_⟩
  · exact ⟨by decide, rfl, rfl, rfl⟩
  refine ⟨fun (h12 : ((xs (Int32.toNatClampNeg i)) &&& 31) = 11) => ?_, fun (h12 : ¬ ((xs (Int32.toNatClampNeg i)) &&& 31) = 11) => ?_⟩
  · exact ⟨by decide, rfl, rfl, rfl⟩
  refine ⟨fun (h13 : ((xs (Int32.toNatClampNeg i)) &&& 31) = 12) => ?_, fun (h13 : ¬ ((xs (Int32.toNatClampNeg i)) &&& 31) = 12) => ?_⟩
  · exact ⟨by decide, rfl, rfl, rfl⟩
  refine ⟨fun (h14 : ((xs (Int32.toNatClampNeg i)) &&& 31) = 13) => ?_, fun (h14 : ¬ ((xs (Int32.toNatClampNeg i)) &&& 31) = 13) => ?_⟩
  · exact ⟨by decide, rfl, rfl, rfl⟩
  refine ⟨fun (h15 : ((xs (Int32.toNatClampNeg i)) &&& 31) = 14) => ?_, fun (h15 : ¬ ((xs (Int32.toNatClampNeg i)) &&& 31) = 14) => ?_⟩
  · exact ⟨by decide, rfl, rfl, rfl⟩
  refine ⟨fun (h16 : ((xs (Int32.toNatClampNeg i)) &&& 31) = 15) => ?_, fun (h16 : ¬ ((xs (Int32.toNatClampNeg i)) &&& 31) = 15) => ?_⟩
  · exact ⟨by decide, rfl, rfl, rfl⟩
  refine ⟨fun (h17 : ((xs (Int32.toNatClampNeg i)) &&& 31) = 16) => ?_, fun (h17 : ¬ ((xs (Int32.toNatClampNeg i)) &&& 31) = 16) => ?_⟩
  · exact ⟨by decide, rfl, rfl, rfl⟩
  exact ⟨by decide, rfl, rfl, rfl⟩
theorem lw_out (xs : Nat → Int32) (L : Nat) (ls : ev_V) (σ : ev_W) : ev_wp pg_F pg_lay (some (L, xs)) [] pg_dL (fun _ => false) (fun pc _ st _ => pc = 705 ∧ st = [.int 1]) 2000 704 ls [] σ := ⟨rfl, rfl⟩
theorem lw_le {L n : Nat} (hL : L ≤ 2560) (hn : n ≤ 513) (h : ¬ Int32.ofNat L - 5 < Int32.ofNat (5 * n)) : 5 * n + 5 ≤ L := by
  rw [Int32.lt_iff_toInt_lt, Int32.toInt_sub, Int32.toInt_ofNat_of_lt (by omega), Int32.toInt_ofNat_of_lt (by omega)] at h
  have e : (5 : Int32).toInt = 5 := by decide
  rw [e, Int.bmod_eq_of_le (by omega) (by omega)] at h
  omega
theorem lw_in {L n k : Nat} (hL : L ≤ 2560) (h : 5 * n + 5 ≤ L) (hk : k < 5) {x : Int32} (hx : x = Int32.ofNat k) : vp_in (Int32.ofNat (5 * n) + x) L := by
  subst hx
  rw [← Int32.ofNat_add]
  exact vp_in_nI (by omega) (by omega)
set_option maxHeartbeats 1000000 in
theorem lw_loop (xs : Nat → Int32) {L : Nat} (hL : L ≤ 2560) : ∀ (m n : Nat) (σ : ev_W) (a b : Option Value), 513 ≤ m + n → n ≤ 513 → sp_inv σ → md_ok σ → 513 < σ.2.2 + n → ev_Run pg_TB pg_cl pg_lay (some (L, xs)) pg_F pg_mt [] "TicketTagLaw" code 7 10 394 (fun pc _ st _ => pc = 705 ∧ st = [.int 1]) 23 [some (.ref 999), some (.ref 0), some (.ref 6), some (.ref 12), some (.int (Int32.ofNat (5 * n))), a, b] [] σ := by
  intro m
  induction m with
  | zero =>
    intro n σ a b hmn hn hf hm hbd
    refine ev_go (host := "TicketTag") pg_hhs pg_cd pg_oL _ 2000 (lw_head xs L _ σ a b) (fun pc ls st σ2 h => ?_)
    obtain ⟨h, rfl, rfl, rfl⟩ := h
    rcases h with ⟨rfl, h⟩ | ⟨rfl, h⟩
    · exact ev_go (host := "TicketTag") pg_hhs pg_cd pg_oL (fun _ => false) 2000 (lw_out xs L _ _) (fun _ _ _ _ h => ev_fin h)
    · have h5 := lw_le hL hn h
      omega
  | succ m ih =>
    intro n σ a b hmn hn hf hm hbd
    refine ev_go (host := "TicketTag") pg_hhs pg_cd pg_oL _ 2000 (lw_head xs L _ σ a b) (fun pc ls st σ2 h => ?_)
    obtain ⟨h, rfl, rfl, rfl⟩ := h
    rcases h with ⟨rfl, h⟩ | ⟨rfl, h⟩
    · exact ev_go (host := "TicketTag") pg_hhs pg_cd pg_oL (fun _ => false) 2000 (lw_out xs L _ _) (fun _ _ _ _ h => ev_fin h)
    · have h5 := lw_le hL hn h
      have hb : 0 < σ2.2.2 := by omega
      have hi0 : vp_in (Int32.ofNat (5 * n)) L := vp_in_nI (by omega) (by omega)
      have hi1 := lw_in hL h5 (k := 1) (by decide) (x := 1) rfl
      have hi2 := lw_in hL h5 (k := 2) (by decide) (x := 2) rfl
      have hi3 := lw_in hL h5 (k := 3) (by decide) (x := 3) rfl
      have hi4 := lw_in hL h5 (k := 4) (by decide) (x := 4) rfl
      have nx : ∀ pc ls st σ3, (∃ a b : Option Value, ls = [some (.ref 999), some (.ref 0), some (.ref 6), some (.ref 12), some (.int (Int32.ofNat (5 * n) + 5)), a, b] ∧ (pc = 23 ∧ st = []) ∧ sp_inv σ3 ∧ md_ok σ3 ∧ σ3.2.2 ≤ σ2.2.2 ∧ σ2.2.2 ≤ σ3.2.2 + 1) → ev_Run pg_TB pg_cl pg_lay (some (L, xs)) pg_F pg_mt [] "TicketTagLaw" code 7 10 394 (fun pc _ st _ => pc = 705 ∧ st = [.int 1]) pc ls st σ3 := by
        rintro pc ls st σ3 ⟨a2, b2, rfl, ⟨rfl, rfl⟩, g1, g2, g3, g4⟩
        have e : Int32.ofNat (5 * n) + 5 = Int32.ofNat (5 * (n + 1)) := by rw [show (5 : Int32) = Int32.ofNat 5 from rfl, ← Int32.ofNat_add]; rfl
        rw [e]
        exact ih (n + 1) σ3 a2 b2 (by omega) (by omega) g1 g2 (by omega)
      refine ev_go (host := "TicketTag") pg_hhs pg_cd pg_oL _ 2000 (lw_sw xs L _ hi0 hi1 hi2 hi3 hi4 σ2 hf hm hb a b) (fun pc ls st σ4 h => ?_)
      obtain ⟨h, rfl, rfl, rfl⟩ := h
      simp only [List.mem_cons, List.not_mem_nil, or_false] at h
      rcases h with rfl | rfl | rfl | rfl | rfl | rfl | rfl | rfl | rfl | rfl | rfl | rfl | rfl | rfl | rfl | rfl | rfl | rfl
      · exact ev_go (host := "TicketTag") pg_hhs pg_cd pg_oL _ 2000 (lw_turn120 xs L _ hi0 hi1 hi2 hi3 hi4 _ hf hm hb a b) nx
      · exact ev_go (host := "TicketTag") pg_hhs pg_cd pg_oL _ 2000 (lw_turn184 xs L _ hi0 hi1 hi2 hi3 hi4 _ hf hm hb a b) nx
      · exact ev_go (host := "TicketTag") pg_hhs pg_cd pg_oL _ 2000 (lw_turn233 xs L _ hi0 hi1 hi2 hi3 hi4 _ hf hm hb a b) nx
      · exact ev_go (host := "TicketTag") pg_hhs pg_cd pg_oL _ 2000 (lw_turn286 xs L _ hi0 hi1 hi2 hi3 hi4 _ hf hm hb a b) nx
      · exact ev_go (host := "TicketTag") pg_hhs pg_cd pg_oL _ 2000 (lw_turn314 xs L _ hi0 hi1 hi2 hi3 hi4 _ hf hm hb a b) nx
      · exact ev_go (host := "TicketTag") pg_hhs pg_cd pg_oL _ 2000 (lw_turn366 xs L _ hi0 hi1 hi2 hi3 hi4 _ hf hm hb a b) nx
      · exact ev_go (host := "TicketTag") pg_hhs pg_cd pg_oL _ 2000 (lw_turn394 xs L _ hi0 hi1 hi2 hi3 hi4 _ hf hm hb a b) nx
      · exact ev_go (host := "TicketTag") pg_hhs pg_cd pg_oL _ 2000 (lw_turn407 xs L _ hi0 hi1 hi2 hi3 hi4 _ hf hm hb a b) nx
      · exact ev_go (host := "TicketTag") pg_hhs pg_cd pg_oL _ 2000 (lw_turn455 xs L _ hi0 hi1 hi2 hi3 hi4 _ hf hm hb a b) nx
      · exact ev_go (host := "TicketTag") pg_hhs pg_cd pg_oL _ 2000 (lw_turn468 xs L _ hi0 hi1 hi2 hi3 hi4 _ hf hm hb a b) nx
      · exact ev_go (host := "TicketTag") pg_hhs pg_cd pg_oL _ 2000 (lw_turn481 xs L _ hi0 hi1 hi2 hi3 hi4 _ hf hm hb a b) nx
      · exact ev_go (host := "TicketTag") pg_hhs pg_cd pg_oL _ 2000 (lw_turn494 xs L _ hi0 hi1 hi2 hi3 hi4 _ hf hm hb a b) nx
      · exact ev_go (host := "TicketTag") pg_hhs pg_cd pg_oL _ 2000 (lw_turn519 xs L _ hi0 hi1 hi2 hi3 hi4 _ hf hm hb a b) nx
      · exact ev_go (host := "TicketTag") pg_hhs pg_cd pg_oL _ 2000 (lw_turn556 xs L _ hi0 hi1 hi2 hi3 hi4 _ hf hm hb a b) nx
      · exact ev_go (host := "TicketTag") pg_hhs pg_cd pg_oL _ 2000 (lw_turn581 xs L _ hi0 hi1 hi2 hi3 hi4 _ hf hm hb a b) nx
      · exact ev_go (host := "TicketTag") pg_hhs pg_cd pg_oL _ 2000 (lw_turn633 xs L _ hi0 hi1 hi2 hi3 hi4 _ hf hm hb a b) nx
      · exact ev_go (host := "TicketTag") pg_hhs pg_cd pg_oL _ 2000 (lw_turn673 xs L _ hi0 hi1 hi2 hi3 hi4 _ hf hm hb a b) nx
      · exact ev_go (host := "TicketTag") pg_hhs pg_cd pg_oL _ 2000 (lw_turn698 xs L _ hi0 hi1 hi2 hi3 hi4 _ hf hm hb a b) nx
theorem lw_begin (xs : Nat → Int32) (L : Nat) (σ : ev_W) : ev_wp pg_F pg_lay (some (L, xs)) [] pg_dL (fun pc => Nat.beq pc 23) (fun pc ls st σ' => pc = 23 ∧ ls = [some (.ref 999), some (.ref 0), some (.ref 6), some (.ref 12), some (.int (Int32.ofNat (5 * 0))), none, none] ∧ st = [] ∧ σ' = σ) 2000 20 [some (.ref 999), some (.ref 0), some (.ref 6), some (.ref 12), none, none, none] [] σ := ⟨rfl, rfl, rfl, rfl⟩
theorem lw_R (xs : Nat → Int32) {L : Nat} (hL : L ≤ 2560) (σ : ev_W) (hf : sp_inv σ) (hm : md_ok σ) (hb : 513 < σ.2.2) : ev_Run pg_TB pg_cl pg_lay (some (L, xs)) pg_F pg_mt [] "TicketTagLaw" code 7 10 394 (fun pc _ st _ => pc = 705 ∧ st = [.int 1]) 20 [some (.ref 999), some (.ref 0), some (.ref 6), some (.ref 12), none, none, none] [] σ := by
  refine ev_go (host := "TicketTag") pg_hhs pg_cd pg_oL _ 2000 (lw_begin xs L σ) (fun pc ls st σ2 h => ?_)
  obtain ⟨rfl, rfl, rfl, rfl⟩ := h
  exact lw_loop xs hL 513 0 _ none none (by decide) (by decide) hf hm (by omega)
