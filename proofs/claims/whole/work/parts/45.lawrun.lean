/-! THE LAW ON A SCRIPT OF ONE CALL AT MOST (laid by wip/gen/law.py) -/
theorem lw_cmp {a b : Int64} (h : a = b) : lg_cmp a b = 0 := by
  subst h
  simp [lg_cmp]
theorem md_fresh_T {σ σ' : ev_W} (h : md_fresh σ) (k : ∀ c, 6 ≤ c → σ'.1 c = σ.1 c) : md_fresh σ' := by
  unfold md_fresh at h ⊢
  rw [k 6 (by decide), k 7 (by decide)]
  exact h
theorem lw_run0 (xs : Nat → Int32) (σ : ev_W) (hf : sp_inv σ ∧ sp_fresh σ) (hm : md_fresh σ) (hb : 0 < σ.2.2) : ev_wp pg_F pg_lay (some (0, xs)) [] (ev_lu pg_cL) (fun _ => false) (fun pc _ st _ => pc = 902 ∧ st = [.int 1]) 2000 20 [some (.ref 999), some (.ref 0), some (.ref 6), some (.ref 12), none, none, none] [] σ := by
  change ev_wp pg_F pg_lay (some (0, xs)) [] (ev_lu pg_cL) (fun _ => false) _ 2000 20 [some (.ref 999), some (.ref 0), some (.ref 6), some (.ref 12), none, none, none] [] σ
  refine ⟨fun _ => ?_, fun h => absurd (by decide) h⟩
  change ev_wp pg_F pg_lay (some (0, xs)) [] (ev_lu pg_cL) (fun _ => false) _ 1992 901 [some (.ref 999), some (.ref 0), some (.ref 6), some (.ref 12), some (.int 0), none, none] [] σ
  exact ⟨rfl, rfl⟩
theorem lw_run1 (xs : Nat → Int32) (σ : ev_W) (hf : sp_inv σ ∧ sp_fresh σ) (hm : md_fresh σ) (hb : 0 < σ.2.2) : ev_wp pg_F pg_lay (some (1, xs)) [] (ev_lu pg_cL) (fun _ => false) (fun pc _ st _ => pc = 902 ∧ st = [.int 1]) 2000 20 [some (.ref 999), some (.ref 0), some (.ref 6), some (.ref 12), none, none, none] [] σ := by
  change ev_wp pg_F pg_lay (some (1, xs)) [] (ev_lu pg_cL) (fun _ => false) _ 2000 20 [some (.ref 999), some (.ref 0), some (.ref 6), some (.ref 12), none, none, none] [] σ
  refine ⟨fun _ => ?_, fun h => absurd (by decide) h⟩
  change ev_wp pg_F pg_lay (some (1, xs)) [] (ev_lu pg_cL) (fun _ => false) _ 1992 901 [some (.ref 999), some (.ref 0), some (.ref 6), some (.ref 12), some (.int 0), none, none] [] σ
  exact ⟨rfl, rfl⟩
theorem lw_run2 (xs : Nat → Int32) (σ : ev_W) (hf : sp_inv σ ∧ sp_fresh σ) (hm : md_fresh σ) (hb : 0 < σ.2.2) : ev_wp pg_F pg_lay (some (2, xs)) [] (ev_lu pg_cL) (fun _ => false) (fun pc _ st _ => pc = 902 ∧ st = [.int 1]) 2000 20 [some (.ref 999), some (.ref 0), some (.ref 6), some (.ref 12), none, none, none] [] σ := by
  change ev_wp pg_F pg_lay (some (2, xs)) [] (ev_lu pg_cL) (fun _ => false) _ 2000 20 [some (.ref 999), some (.ref 0), some (.ref 6), some (.ref 12), none, none, none] [] σ
  refine ⟨fun _ => ?_, fun h => absurd (by decide) h⟩
  change ev_wp pg_F pg_lay (some (2, xs)) [] (ev_lu pg_cL) (fun _ => false) _ 1992 901 [some (.ref 999), some (.ref 0), some (.ref 6), some (.ref 12), some (.int 0), none, none] [] σ
  exact ⟨rfl, rfl⟩
theorem lw_run3 (xs : Nat → Int32) (σ : ev_W) (hf : sp_inv σ ∧ sp_fresh σ) (hm : md_fresh σ) (hb : 0 < σ.2.2) : ev_wp pg_F pg_lay (some (3, xs)) [] (ev_lu pg_cL) (fun _ => false) (fun pc _ st _ => pc = 902 ∧ st = [.int 1]) 2000 20 [some (.ref 999), some (.ref 0), some (.ref 6), some (.ref 12), none, none, none] [] σ := by
  change ev_wp pg_F pg_lay (some (3, xs)) [] (ev_lu pg_cL) (fun _ => false) _ 2000 20 [some (.ref 999), some (.ref 0), some (.ref 6), some (.ref 12), none, none, none] [] σ
  refine ⟨fun _ => ?_, fun h => absurd (by decide) h⟩
  change ev_wp pg_F pg_lay (some (3, xs)) [] (ev_lu pg_cL) (fun _ => false) _ 1992 901 [some (.ref 999), some (.ref 0), some (.ref 6), some (.ref 12), some (.int 0), none, none] [] σ
  exact ⟨rfl, rfl⟩
theorem lw_run4 (xs : Nat → Int32) (σ : ev_W) (hf : sp_inv σ ∧ sp_fresh σ) (hm : md_fresh σ) (hb : 0 < σ.2.2) : ev_wp pg_F pg_lay (some (4, xs)) [] (ev_lu pg_cL) (fun _ => false) (fun pc _ st _ => pc = 902 ∧ st = [.int 1]) 2000 20 [some (.ref 999), some (.ref 0), some (.ref 6), some (.ref 12), none, none, none] [] σ := by
  change ev_wp pg_F pg_lay (some (4, xs)) [] (ev_lu pg_cL) (fun _ => false) _ 2000 20 [some (.ref 999), some (.ref 0), some (.ref 6), some (.ref 12), none, none, none] [] σ
  refine ⟨fun _ => ?_, fun h => absurd (by decide) h⟩
  change ev_wp pg_F pg_lay (some (4, xs)) [] (ev_lu pg_cL) (fun _ => false) _ 1992 901 [some (.ref 999), some (.ref 0), some (.ref 6), some (.ref 12), some (.int 0), none, none] [] σ
  exact ⟨rfl, rfl⟩
theorem lw_run5 (xs : Nat → Int32) (σ : ev_W) (hf : sp_inv σ ∧ sp_fresh σ) (hm : md_fresh σ) (hb : 0 < σ.2.2) : ev_wp pg_F pg_lay (some (5, xs)) [] (ev_lu pg_cL) (fun _ => false) (fun pc _ st _ => pc = 902 ∧ st = [.int 1]) 2000 20 [some (.ref 999), some (.ref 0), some (.ref 6), some (.ref 12), none, none, none] [] σ := by
  change ev_wp pg_F pg_lay (some (5, xs)) [] (ev_lu pg_cL) (fun _ => false) _ 2000 20 [some (.ref 999), some (.ref 0), some (.ref 6), some (.ref 12), none, none, none] [] σ
  refine ⟨fun h => absurd h (by decide), fun _ => ?_⟩
  change ev_wp pg_F pg_lay (some (5, xs)) [] (ev_lu pg_cL) (fun _ => false) _ 1992 32 [some (.ref 999), some (.ref 0), some (.ref 6), some (.ref 12), some (.int 0), none, none] [] σ
  refine ⟨sp_in rfl rfl, ?_⟩
  change ev_wp pg_F pg_lay (some (5, xs)) [] (ev_lu pg_cL) (fun _ => false) _ 1989 36 [some (.ref 999), some (.ref 0), some (.ref 6), some (.ref 12), some (.int 0), none, none] [.int (xs (Int32.toNatClampNeg 0))] σ
  refine ⟨fun (h1 : ((xs (Int32.toNatClampNeg 0)) &&& 31) = 0) => ?_, fun (h1 : ¬ ((xs (Int32.toNatClampNeg 0)) &&& 31) = 0) => ?_⟩
  · skip
    change ev_wp pg_F pg_lay (some (5, xs)) [] (ev_lu pg_cL) (fun _ => false) _ 1986 120 [some (.ref 999), some (.ref 0), some (.ref 6), some (.ref 12), some (.int 0), none, none] [] σ
    refine ⟨sp_in rfl rfl, ?_⟩
    change ev_wp pg_F pg_lay (some (5, xs)) [] (ev_lu pg_cL) (fun _ => false) _ 1980 127 [some (.ref 999), some (.ref 0), some (.ref 6), some (.ref 12), some (.int 0), none, none] [.int (xs (Int32.toNatClampNeg 1)), .ref 0] σ
    refine ⟨sp_in rfl rfl, ?_⟩
    change ev_wp pg_F pg_lay (some (5, xs)) [] (ev_lu pg_cL) (fun _ => false) _ 1975 133 [some (.ref 999), some (.ref 0), some (.ref 6), some (.ref 12), some (.int 0), none, none] [.int (xs (Int32.toNatClampNeg 2)), .int (xs (Int32.toNatClampNeg 1)), .ref 0] σ
    refine ⟨sp_in rfl rfl, ?_⟩
    change ev_wp pg_F pg_lay (some (5, xs)) [] (ev_lu pg_cL) (fun _ => false) _ 1970 139 [some (.ref 999), some (.ref 0), some (.ref 6), some (.ref 12), some (.int 0), none, none] [.int (xs (Int32.toNatClampNeg 3)), .int (xs (Int32.toNatClampNeg 2)), .int (xs (Int32.toNatClampNeg 1)), .ref 0] σ
    refine ⟨sp_in rfl rfl, ?_⟩
    change ev_wp pg_F pg_lay (some (5, xs)) [] (ev_lu pg_cL) (fun _ => false) _ 1965 145 [some (.ref 999), some (.ref 0), some (.ref 6), some (.ref 12), some (.int 0), none, none] [.int (xs (Int32.toNatClampNeg 4)), .int (xs (Int32.toNatClampNeg 3)), .int (xs (Int32.toNatClampNeg 2)), .int (xs (Int32.toNatClampNeg 1)), .ref 0] σ
    refine ⟨⟨hf.1, hb⟩, ?_⟩
    rintro _ s4 ⟨v2, k3, rfl⟩
    change ev_wp pg_F pg_lay (some (5, xs)) [] (ev_lu pg_cL) (fun _ => false) _ 1963 149 [some (.ref 999), some (.ref 0), some (.ref 6), some (.ref 12), some (.int 0), none, none] [.int v2] s4
    refine ⟨sp_in rfl rfl, ?_⟩
    change ev_wp pg_F pg_lay (some (5, xs)) [] (ev_lu pg_cL) (fun _ => false) _ 1956 158 [some (.ref 999), some (.ref 0), some (.ref 6), some (.ref 12), some (.int 0), some (.int v2), none] [.int (xs (Int32.toNatClampNeg 1)), .ref 6] s4
    refine ⟨sp_in rfl rfl, ?_⟩
    change ev_wp pg_F pg_lay (some (5, xs)) [] (ev_lu pg_cL) (fun _ => false) _ 1951 164 [some (.ref 999), some (.ref 0), some (.ref 6), some (.ref 12), some (.int 0), some (.int v2), none] [.int (xs (Int32.toNatClampNeg 2)), .int (xs (Int32.toNatClampNeg 1)), .ref 6] s4
    refine ⟨sp_in rfl rfl, ?_⟩
    change ev_wp pg_F pg_lay (some (5, xs)) [] (ev_lu pg_cL) (fun _ => false) _ 1946 170 [some (.ref 999), some (.ref 0), some (.ref 6), some (.ref 12), some (.int 0), some (.int v2), none] [.int (xs (Int32.toNatClampNeg 3)), .int (xs (Int32.toNatClampNeg 2)), .int (xs (Int32.toNatClampNeg 1)), .ref 6] s4
    refine ⟨sp_in rfl rfl, ?_⟩
    change ev_wp pg_F pg_lay (some (5, xs)) [] (ev_lu pg_cL) (fun _ => false) _ 1941 176 [some (.ref 999), some (.ref 0), some (.ref 6), some (.ref 12), some (.int 0), some (.int v2), none] [.int (xs (Int32.toNatClampNeg 4)), .int (xs (Int32.toNatClampNeg 3)), .int (xs (Int32.toNatClampNeg 2)), .int (xs (Int32.toNatClampNeg 1)), .ref 6] s4
    refine ⟨(md_fresh_T hm k3.1.1), ?_⟩
    rintro _ s7 ⟨v5, k6, rfl⟩
    have ok6 : s7.2.1 12 0 = s4.2.1 12 0 := congrFun (congrFun (congrArg Prod.fst k6.1) 12) 0
    change ev_wp pg_F pg_lay (some (5, xs)) [] (ev_lu pg_cL) (fun _ => false) _ 1940 179 [some (.ref 999), some (.ref 0), some (.ref 6), some (.ref 12), some (.int 0), some (.int v2), none] [.int v5] s7
    refine ⟨trivial, ?_⟩
    rintro _ _ ⟨rfl, rfl⟩
    change ev_wp pg_F pg_lay (some (5, xs)) [] (ev_lu pg_cL) (fun _ => false) _ 1937 185 [some (.ref 999), some (.ref 0), some (.ref 6), some (.ref 12), some (.int 0), some (.int v2), some (.int v5)] [.int (s7.1 6 0)] s7
    refine ⟨fun (h8 : (s7.1 6 0) = v2) => ?_, fun (h8 : ¬ (s7.1 6 0) = v2) => ?_⟩
    · skip
      change ev_wp pg_F pg_lay (some (5, xs)) [] (ev_lu pg_cL) (fun _ => false) _ 1935 192 [some (.ref 999), some (.ref 0), some (.ref 6), some (.ref 12), some (.int 0), some (.int v2), some (.int v5)] [] s7
      refine ⟨fun (h9 : v2 = 0) => ?_, fun (h9 : ¬ v2 = 0) => ?_⟩
      · skip
        change ev_wp pg_F pg_lay (some (5, xs)) [] (ev_lu pg_cL) (fun _ => false) _ 1933 197 [some (.ref 999), some (.ref 0), some (.ref 6), some (.ref 12), some (.int 0), some (.int v2), some (.int v5)] [] s7
        refine ⟨sp_in rfl rfl, ?_⟩
        change ev_wp pg_F pg_lay (some (5, xs)) [] (ev_lu pg_cL) (fun _ => false) _ 1930 200 [some (.ref 999), some (.ref 0), some (.ref 6), some (.ref 12), some (.int 0), some (.int v2), some (.int v5)] [.long (s7.2.1 12 (Int32.toNatClampNeg 0))] s7
        refine ⟨fun (h10 : v5 = 0) => ?_, fun (h10 : ¬ v5 = 0) => ?_⟩
        · exact ((show False from by rcases k3.2 with z | z | z <;> rcases k6.2 with y | y <;> first | exact absurd (z.1.symm.trans h9) (by decide) | exact absurd y.1 z.2.1 | exact absurd (y.2.2.symm.trans h10) (by decide))).elim
        · skip
          change ev_wp pg_F pg_lay (some (5, xs)) [] (ev_lu pg_cL) (fun _ => false) _ 1928 205 [some (.ref 999), some (.ref 0), some (.ref 6), some (.ref 12), some (.int 0), some (.int v2), some (.int v5)] [.long (s7.2.1 12 (Int32.toNatClampNeg 0))] s7
          refine ⟨fun (h11 : (lg_cmp (s7.2.1 12 (Int32.toNatClampNeg 0)) (Int64.ofNat 1)) = 0) => ?_, fun (h11 : ¬ (lg_cmp (s7.2.1 12 (Int32.toNatClampNeg 0)) (Int64.ofNat 1)) = 0) => ?_⟩
          · skip
            change ev_wp pg_F pg_lay (some (5, xs)) [] (ev_lu pg_cL) (fun _ => false) _ 1924 216 [some (.ref 999), some (.ref 0), some (.ref 6), some (.ref 12), some (.int 0), some (.int v2), some (.int v5)] [] s7
            refine ⟨fun _ => ?_, fun h => absurd (by decide) h⟩
            change ev_wp pg_F pg_lay (some (5, xs)) [] (ev_lu pg_cL) (fun _ => false) _ 1915 901 [some (.ref 999), some (.ref 0), some (.ref 6), some (.ref 12), some (.int 5), some (.int v2), some (.int v5)] [] s7
            exact ⟨rfl, rfl⟩
          · exact ((show False from by rcases k3.2 with z | z | z <;> rcases k6.2 with y | y <;> first | exact absurd (z.1.symm.trans h9) (by decide) | exact absurd y.1 z.2.1 | exact h11 (lw_cmp (ok6.trans (z.2.2.2 (sp_at_zero hf.2.1 _ _)))))).elim
      · skip
        change ev_wp pg_F pg_lay (some (5, xs)) [] (ev_lu pg_cL) (fun _ => false) _ 1933 216 [some (.ref 999), some (.ref 0), some (.ref 6), some (.ref 12), some (.int 0), some (.int v2), some (.int v5)] [] s7
        refine ⟨fun _ => ?_, fun h => absurd (by decide) h⟩
        change ev_wp pg_F pg_lay (some (5, xs)) [] (ev_lu pg_cL) (fun _ => false) _ 1924 901 [some (.ref 999), some (.ref 0), some (.ref 6), some (.ref 12), some (.int 5), some (.int v2), some (.int v5)] [] s7
        exact ⟨rfl, rfl⟩
    · exact ((show False from by rcases k3.2 with z | z | z <;> rcases k6.2 with y | y <;> first | exact absurd z.2 y.1 | exact absurd y.1 z.2 | exact absurd y.1 z.2.1 | exact h8 (y.2.trans z.1.symm) | exact h8 (y.2.1.trans z.1.symm) | exact absurd hf.2.2.2.2.1 z.2.2 | exact absurd hf.2.2.2.2.1 z.2.2.1 | exact z.2.2 hf.2.2.2.2.1)).elim
  refine ⟨fun (h12 : ((xs (Int32.toNatClampNeg 0)) &&& 31) = 1) => ?_, fun (h12 : ¬ ((xs (Int32.toNatClampNeg 0)) &&& 31) = 1) => ?_⟩
  · skip
    change ev_wp pg_F pg_lay (some (5, xs)) [] (ev_lu pg_cL) (fun _ => false) _ 1986 219 [some (.ref 999), some (.ref 0), some (.ref 6), some (.ref 12), some (.int 0), none, none] [] σ
    refine ⟨sp_in rfl rfl, ?_⟩
    change ev_wp pg_F pg_lay (some (5, xs)) [] (ev_lu pg_cL) (fun _ => false) _ 1980 226 [some (.ref 999), some (.ref 0), some (.ref 6), some (.ref 12), some (.int 0), none, none] [.int (xs (Int32.toNatClampNeg 1)), .ref 0] σ
    refine ⟨sp_in rfl rfl, ?_⟩
    change ev_wp pg_F pg_lay (some (5, xs)) [] (ev_lu pg_cL) (fun _ => false) _ 1975 232 [some (.ref 999), some (.ref 0), some (.ref 6), some (.ref 12), some (.int 0), none, none] [.int (xs (Int32.toNatClampNeg 2)), .int (xs (Int32.toNatClampNeg 1)), .ref 0] σ
    refine ⟨sp_in rfl rfl, ?_⟩
    change ev_wp pg_F pg_lay (some (5, xs)) [] (ev_lu pg_cL) (fun _ => false) _ 1970 238 [some (.ref 999), some (.ref 0), some (.ref 6), some (.ref 12), some (.int 0), none, none] [.int (xs (Int32.toNatClampNeg 3)), .int (xs (Int32.toNatClampNeg 2)), .int (xs (Int32.toNatClampNeg 1)), .ref 0] σ
    refine ⟨⟨hf.1, hb⟩, ?_⟩
    rintro _ s15 ⟨v13, k14, rfl⟩
    change ev_wp pg_F pg_lay (some (5, xs)) [] (ev_lu pg_cL) (fun _ => false) _ 1969 241 [some (.ref 999), some (.ref 0), some (.ref 6), some (.ref 12), some (.int 0), none, none] [.int v13] s15
    refine ⟨sp_in rfl rfl, ?_⟩
    change ev_wp pg_F pg_lay (some (5, xs)) [] (ev_lu pg_cL) (fun _ => false) _ 1962 250 [some (.ref 999), some (.ref 0), some (.ref 6), some (.ref 12), some (.int 0), some (.int v13), none] [.int (xs (Int32.toNatClampNeg 1)), .ref 6] s15
    refine ⟨sp_in rfl rfl, ?_⟩
    change ev_wp pg_F pg_lay (some (5, xs)) [] (ev_lu pg_cL) (fun _ => false) _ 1957 256 [some (.ref 999), some (.ref 0), some (.ref 6), some (.ref 12), some (.int 0), some (.int v13), none] [.int (xs (Int32.toNatClampNeg 2)), .int (xs (Int32.toNatClampNeg 1)), .ref 6] s15
    refine ⟨sp_in rfl rfl, ?_⟩
    change ev_wp pg_F pg_lay (some (5, xs)) [] (ev_lu pg_cL) (fun _ => false) _ 1952 262 [some (.ref 999), some (.ref 0), some (.ref 6), some (.ref 12), some (.int 0), some (.int v13), none] [.int (xs (Int32.toNatClampNeg 3)), .int (xs (Int32.toNatClampNeg 2)), .int (xs (Int32.toNatClampNeg 1)), .ref 6] s15
    refine ⟨(md_fresh_T hm k14.1.1), ?_⟩
    rintro _ s18 ⟨k17, rfl⟩
    have ok17 : s18.2.1 12 0 = s15.2.1 12 0 := congrFun (congrFun (congrArg Prod.fst k17.1) 12) 0
    change ev_wp pg_F pg_lay (some (5, xs)) [] (ev_lu pg_cL) (fun _ => false) _ 1951 265 [some (.ref 999), some (.ref 0), some (.ref 6), some (.ref 12), some (.int 0), some (.int v13), none] [] s18
    refine ⟨trivial, ?_⟩
    rintro _ _ ⟨rfl, rfl⟩
    change ev_wp pg_F pg_lay (some (5, xs)) [] (ev_lu pg_cL) (fun _ => false) _ 1949 269 [some (.ref 999), some (.ref 0), some (.ref 6), some (.ref 12), some (.int 0), some (.int v13), none] [.int (s18.1 6 0)] s18
    refine ⟨fun (h19 : (s18.1 6 0) = v13) => ?_, fun (h19 : ¬ (s18.1 6 0) = v13) => ?_⟩
    · skip
      change ev_wp pg_F pg_lay (some (5, xs)) [] (ev_lu pg_cL) (fun _ => false) _ 1947 276 [some (.ref 999), some (.ref 0), some (.ref 6), some (.ref 12), some (.int 0), some (.int v13), none] [] s18
      refine ⟨fun _ => ?_, fun h => absurd (by decide) h⟩
      change ev_wp pg_F pg_lay (some (5, xs)) [] (ev_lu pg_cL) (fun _ => false) _ 1938 901 [some (.ref 999), some (.ref 0), some (.ref 6), some (.ref 12), some (.int 5), some (.int v13), none] [] s18
      exact ⟨rfl, rfl⟩
    · exact ((show False from by rcases k14.2 with z | z <;> rcases k17.2 with y | y <;> first | exact absurd z.2 y.1 | exact absurd y.1 z.2 | exact absurd y.1 z.2.1 | exact h19 (y.2.trans z.1.symm) | exact h19 (y.2.1.trans z.1.symm) | exact absurd hf.2.2.2.2.1 z.2.2 | exact absurd hf.2.2.2.2.1 z.2.2.1 | exact z.2.2 hf.2.2.2.2.1)).elim
  refine ⟨fun (h20 : ((xs (Int32.toNatClampNeg 0)) &&& 31) = 2) => ?_, fun (h20 : ¬ ((xs (Int32.toNatClampNeg 0)) &&& 31) = 2) => ?_⟩
  · skip
    change ev_wp pg_F pg_lay (some (5, xs)) [] (ev_lu pg_cL) (fun _ => false) _ 1986 279 [some (.ref 999), some (.ref 0), some (.ref 6), some (.ref 12), some (.int 0), none, none] [] σ
    refine ⟨sp_in rfl rfl, ?_⟩
    change ev_wp pg_F pg_lay (some (5, xs)) [] (ev_lu pg_cL) (fun _ => false) _ 1980 286 [some (.ref 999), some (.ref 0), some (.ref 6), some (.ref 12), some (.int 0), none, none] [.int (xs (Int32.toNatClampNeg 1)), .ref 0] σ
    refine ⟨sp_in rfl rfl, ?_⟩
    change ev_wp pg_F pg_lay (some (5, xs)) [] (ev_lu pg_cL) (fun _ => false) _ 1975 292 [some (.ref 999), some (.ref 0), some (.ref 6), some (.ref 12), some (.int 0), none, none] [.int (xs (Int32.toNatClampNeg 2)), .int (xs (Int32.toNatClampNeg 1)), .ref 0] σ
    refine ⟨fun (h21 : (xs (Int32.toNatClampNeg 2)) = 0) => ?_, fun (h21 : ¬ (xs (Int32.toNatClampNeg 2)) = 0) => ?_⟩
    · skip
      change ev_wp pg_F pg_lay (some (5, xs)) [] (ev_lu pg_cL) (fun _ => false) _ 1974 299 [some (.ref 999), some (.ref 0), some (.ref 6), some (.ref 12), some (.int 0), none, none] [.int (xs (Int32.toNatClampNeg 1)), .ref 0] σ
      refine ⟨⟨hf.1, hb⟩, ?_⟩
      rintro _ s24 ⟨v22, k23, rfl⟩
      change ev_wp pg_F pg_lay (some (5, xs)) [] (ev_lu pg_cL) (fun _ => false) _ 1972 303 [some (.ref 999), some (.ref 0), some (.ref 6), some (.ref 12), some (.int 0), none, none] [.int v22] s24
      refine ⟨sp_in rfl rfl, ?_⟩
      change ev_wp pg_F pg_lay (some (5, xs)) [] (ev_lu pg_cL) (fun _ => false) _ 1965 312 [some (.ref 999), some (.ref 0), some (.ref 6), some (.ref 12), some (.int 0), some (.int v22), none] [.int (xs (Int32.toNatClampNeg 1)), .ref 6] s24
      refine ⟨sp_in rfl rfl, ?_⟩
      change ev_wp pg_F pg_lay (some (5, xs)) [] (ev_lu pg_cL) (fun _ => false) _ 1960 318 [some (.ref 999), some (.ref 0), some (.ref 6), some (.ref 12), some (.int 0), some (.int v22), none] [.int (xs (Int32.toNatClampNeg 2)), .int (xs (Int32.toNatClampNeg 1)), .ref 6] s24
      refine ⟨fun (h25 : (xs (Int32.toNatClampNeg 2)) = 0) => ?_, fun (h25 : ¬ (xs (Int32.toNatClampNeg 2)) = 0) => ?_⟩
      · skip
        change ev_wp pg_F pg_lay (some (5, xs)) [] (ev_lu pg_cL) (fun _ => false) _ 1959 325 [some (.ref 999), some (.ref 0), some (.ref 6), some (.ref 12), some (.int 0), some (.int v22), none] [.int (xs (Int32.toNatClampNeg 1)), .ref 6] s24
        refine ⟨(md_fresh_T hm k23.1.1), ?_⟩
        rintro _ s28 ⟨k27, rfl⟩
        have ok27 : s28.2.1 12 0 = s24.2.1 12 0 := congrFun (congrFun (congrArg Prod.fst k27.1) 12) 0
        change ev_wp pg_F pg_lay (some (5, xs)) [] (ev_lu pg_cL) (fun _ => false) _ 1957 329 [some (.ref 999), some (.ref 0), some (.ref 6), some (.ref 12), some (.int 0), some (.int v22), none] [] s28
        refine ⟨trivial, ?_⟩
        rintro _ _ ⟨rfl, rfl⟩
        change ev_wp pg_F pg_lay (some (5, xs)) [] (ev_lu pg_cL) (fun _ => false) _ 1955 333 [some (.ref 999), some (.ref 0), some (.ref 6), some (.ref 12), some (.int 0), some (.int v22), none] [.int (s28.1 6 0)] s28
        refine ⟨fun (h29 : (s28.1 6 0) = v22) => ?_, fun (h29 : ¬ (s28.1 6 0) = v22) => ?_⟩
        · skip
          change ev_wp pg_F pg_lay (some (5, xs)) [] (ev_lu pg_cL) (fun _ => false) _ 1953 340 [some (.ref 999), some (.ref 0), some (.ref 6), some (.ref 12), some (.int 0), some (.int v22), none] [] s28
          refine ⟨fun _ => ?_, fun h => absurd (by decide) h⟩
          change ev_wp pg_F pg_lay (some (5, xs)) [] (ev_lu pg_cL) (fun _ => false) _ 1944 901 [some (.ref 999), some (.ref 0), some (.ref 6), some (.ref 12), some (.int 5), some (.int v22), none] [] s28
          exact ⟨rfl, rfl⟩
        · exact ((show False from by rcases k23.2 with z | z <;> rcases k27.2 with y | y <;> first | exact absurd z.2 y.1 | exact absurd y.1 z.2 | exact absurd y.1 z.2.1 | exact h29 (y.2.trans z.1.symm) | exact h29 (y.2.1.trans z.1.symm) | exact absurd hf.2.2.2.2.1 z.2.2 | exact absurd hf.2.2.2.2.1 z.2.2.1 | exact z.2.2 hf.2.2.2.2.1)).elim
      · skip
        change ev_wp pg_F pg_lay (some (5, xs)) [] (ev_lu pg_cL) (fun _ => false) _ 1959 321 [some (.ref 999), some (.ref 0), some (.ref 6), some (.ref 12), some (.int 0), some (.int v22), none] [.int (xs (Int32.toNatClampNeg 1)), .ref 6] s24
        refine ⟨(md_fresh_T hm k23.1.1), ?_⟩
        rintro _ s32 ⟨k31, rfl⟩
        have ok31 : s32.2.1 12 0 = s24.2.1 12 0 := congrFun (congrFun (congrArg Prod.fst k31.1) 12) 0
        change ev_wp pg_F pg_lay (some (5, xs)) [] (ev_lu pg_cL) (fun _ => false) _ 1956 329 [some (.ref 999), some (.ref 0), some (.ref 6), some (.ref 12), some (.int 0), some (.int v22), none] [] s32
        refine ⟨trivial, ?_⟩
        rintro _ _ ⟨rfl, rfl⟩
        change ev_wp pg_F pg_lay (some (5, xs)) [] (ev_lu pg_cL) (fun _ => false) _ 1954 333 [some (.ref 999), some (.ref 0), some (.ref 6), some (.ref 12), some (.int 0), some (.int v22), none] [.int (s32.1 6 0)] s32
        refine ⟨fun (h33 : (s32.1 6 0) = v22) => ?_, fun (h33 : ¬ (s32.1 6 0) = v22) => ?_⟩
        · skip
          change ev_wp pg_F pg_lay (some (5, xs)) [] (ev_lu pg_cL) (fun _ => false) _ 1952 340 [some (.ref 999), some (.ref 0), some (.ref 6), some (.ref 12), some (.int 0), some (.int v22), none] [] s32
          refine ⟨fun _ => ?_, fun h => absurd (by decide) h⟩
          change ev_wp pg_F pg_lay (some (5, xs)) [] (ev_lu pg_cL) (fun _ => false) _ 1943 901 [some (.ref 999), some (.ref 0), some (.ref 6), some (.ref 12), some (.int 5), some (.int v22), none] [] s32
          exact ⟨rfl, rfl⟩
        · exact ((show False from by rcases k23.2 with z | z <;> rcases k31.2 with y | y <;> first | exact absurd z.2 y.1 | exact absurd y.1 z.2 | exact absurd y.1 z.2.1 | exact h33 (y.2.trans z.1.symm) | exact h33 (y.2.1.trans z.1.symm) | exact absurd hf.2.2.2.2.1 z.2.2 | exact absurd hf.2.2.2.2.1 z.2.2.1 | exact z.2.2 hf.2.2.2.2.1)).elim
    · skip
      change ev_wp pg_F pg_lay (some (5, xs)) [] (ev_lu pg_cL) (fun _ => false) _ 1974 295 [some (.ref 999), some (.ref 0), some (.ref 6), some (.ref 12), some (.int 0), none, none] [.int (xs (Int32.toNatClampNeg 1)), .ref 0] σ
      refine ⟨⟨hf.1, hb⟩, ?_⟩
      rintro _ s36 ⟨v34, k35, rfl⟩
      change ev_wp pg_F pg_lay (some (5, xs)) [] (ev_lu pg_cL) (fun _ => false) _ 1971 303 [some (.ref 999), some (.ref 0), some (.ref 6), some (.ref 12), some (.int 0), none, none] [.int v34] s36
      refine ⟨sp_in rfl rfl, ?_⟩
      change ev_wp pg_F pg_lay (some (5, xs)) [] (ev_lu pg_cL) (fun _ => false) _ 1964 312 [some (.ref 999), some (.ref 0), some (.ref 6), some (.ref 12), some (.int 0), some (.int v34), none] [.int (xs (Int32.toNatClampNeg 1)), .ref 6] s36
      refine ⟨sp_in rfl rfl, ?_⟩
      change ev_wp pg_F pg_lay (some (5, xs)) [] (ev_lu pg_cL) (fun _ => false) _ 1959 318 [some (.ref 999), some (.ref 0), some (.ref 6), some (.ref 12), some (.int 0), some (.int v34), none] [.int (xs (Int32.toNatClampNeg 2)), .int (xs (Int32.toNatClampNeg 1)), .ref 6] s36
      refine ⟨fun (h37 : (xs (Int32.toNatClampNeg 2)) = 0) => ?_, fun (h37 : ¬ (xs (Int32.toNatClampNeg 2)) = 0) => ?_⟩
      · skip
        change ev_wp pg_F pg_lay (some (5, xs)) [] (ev_lu pg_cL) (fun _ => false) _ 1958 325 [some (.ref 999), some (.ref 0), some (.ref 6), some (.ref 12), some (.int 0), some (.int v34), none] [.int (xs (Int32.toNatClampNeg 1)), .ref 6] s36
        refine ⟨(md_fresh_T hm k35.1.1), ?_⟩
        rintro _ s40 ⟨k39, rfl⟩
        have ok39 : s40.2.1 12 0 = s36.2.1 12 0 := congrFun (congrFun (congrArg Prod.fst k39.1) 12) 0
        change ev_wp pg_F pg_lay (some (5, xs)) [] (ev_lu pg_cL) (fun _ => false) _ 1956 329 [some (.ref 999), some (.ref 0), some (.ref 6), some (.ref 12), some (.int 0), some (.int v34), none] [] s40
        refine ⟨trivial, ?_⟩
        rintro _ _ ⟨rfl, rfl⟩
        change ev_wp pg_F pg_lay (some (5, xs)) [] (ev_lu pg_cL) (fun _ => false) _ 1954 333 [some (.ref 999), some (.ref 0), some (.ref 6), some (.ref 12), some (.int 0), some (.int v34), none] [.int (s40.1 6 0)] s40
        refine ⟨fun (h41 : (s40.1 6 0) = v34) => ?_, fun (h41 : ¬ (s40.1 6 0) = v34) => ?_⟩
        · skip
          change ev_wp pg_F pg_lay (some (5, xs)) [] (ev_lu pg_cL) (fun _ => false) _ 1952 340 [some (.ref 999), some (.ref 0), some (.ref 6), some (.ref 12), some (.int 0), some (.int v34), none] [] s40
          refine ⟨fun _ => ?_, fun h => absurd (by decide) h⟩
          change ev_wp pg_F pg_lay (some (5, xs)) [] (ev_lu pg_cL) (fun _ => false) _ 1943 901 [some (.ref 999), some (.ref 0), some (.ref 6), some (.ref 12), some (.int 5), some (.int v34), none] [] s40
          exact ⟨rfl, rfl⟩
        · exact ((show False from by rcases k35.2 with z | z <;> rcases k39.2 with y | y <;> first | exact absurd z.2 y.1 | exact absurd y.1 z.2 | exact absurd y.1 z.2.1 | exact h41 (y.2.trans z.1.symm) | exact h41 (y.2.1.trans z.1.symm) | exact absurd hf.2.2.2.2.1 z.2.2 | exact absurd hf.2.2.2.2.1 z.2.2.1 | exact z.2.2 hf.2.2.2.2.1)).elim
      · skip
        change ev_wp pg_F pg_lay (some (5, xs)) [] (ev_lu pg_cL) (fun _ => false) _ 1958 321 [some (.ref 999), some (.ref 0), some (.ref 6), some (.ref 12), some (.int 0), some (.int v34), none] [.int (xs (Int32.toNatClampNeg 1)), .ref 6] s36
        refine ⟨(md_fresh_T hm k35.1.1), ?_⟩
        rintro _ s44 ⟨k43, rfl⟩
        have ok43 : s44.2.1 12 0 = s36.2.1 12 0 := congrFun (congrFun (congrArg Prod.fst k43.1) 12) 0
        change ev_wp pg_F pg_lay (some (5, xs)) [] (ev_lu pg_cL) (fun _ => false) _ 1955 329 [some (.ref 999), some (.ref 0), some (.ref 6), some (.ref 12), some (.int 0), some (.int v34), none] [] s44
        refine ⟨trivial, ?_⟩
        rintro _ _ ⟨rfl, rfl⟩
        change ev_wp pg_F pg_lay (some (5, xs)) [] (ev_lu pg_cL) (fun _ => false) _ 1953 333 [some (.ref 999), some (.ref 0), some (.ref 6), some (.ref 12), some (.int 0), some (.int v34), none] [.int (s44.1 6 0)] s44
        refine ⟨fun (h45 : (s44.1 6 0) = v34) => ?_, fun (h45 : ¬ (s44.1 6 0) = v34) => ?_⟩
        · skip
          change ev_wp pg_F pg_lay (some (5, xs)) [] (ev_lu pg_cL) (fun _ => false) _ 1951 340 [some (.ref 999), some (.ref 0), some (.ref 6), some (.ref 12), some (.int 0), some (.int v34), none] [] s44
          refine ⟨fun _ => ?_, fun h => absurd (by decide) h⟩
          change ev_wp pg_F pg_lay (some (5, xs)) [] (ev_lu pg_cL) (fun _ => false) _ 1942 901 [some (.ref 999), some (.ref 0), some (.ref 6), some (.ref 12), some (.int 5), some (.int v34), none] [] s44
          exact ⟨rfl, rfl⟩
        · exact ((show False from by rcases k35.2 with z | z <;> rcases k43.2 with y | y <;> first | exact absurd z.2 y.1 | exact absurd y.1 z.2 | exact absurd y.1 z.2.1 | exact h45 (y.2.trans z.1.symm) | exact h45 (y.2.1.trans z.1.symm) | exact absurd hf.2.2.2.2.1 z.2.2 | exact absurd hf.2.2.2.2.1 z.2.2.1 | exact z.2.2 hf.2.2.2.2.1)).elim
  refine ⟨fun (h46 : ((xs (Int32.toNatClampNeg 0)) &&& 31) = 3) => ?_, fun (h46 : ¬ ((xs (Int32.toNatClampNeg 0)) &&& 31) = 3) => ?_⟩
  · skip
    change ev_wp pg_F pg_lay (some (5, xs)) [] (ev_lu pg_cL) (fun _ => false) _ 1986 343 [some (.ref 999), some (.ref 0), some (.ref 6), some (.ref 12), some (.int 0), none, none] [] σ
    refine ⟨sp_in rfl rfl, ?_⟩
    change ev_wp pg_F pg_lay (some (5, xs)) [] (ev_lu pg_cL) (fun _ => false) _ 1980 350 [some (.ref 999), some (.ref 0), some (.ref 6), some (.ref 12), some (.int 0), none, none] [.int (xs (Int32.toNatClampNeg 1)), .ref 0] σ
    refine ⟨⟨hf.1, hb⟩, ?_⟩
    rintro _ s49 ⟨v47, k48, rfl⟩
    change ev_wp pg_F pg_lay (some (5, xs)) [] (ev_lu pg_cL) (fun _ => false) _ 1978 354 [some (.ref 999), some (.ref 0), some (.ref 6), some (.ref 12), some (.int 0), none, none] [.int v47] s49
    refine ⟨sp_in rfl rfl, ?_⟩
    change ev_wp pg_F pg_lay (some (5, xs)) [] (ev_lu pg_cL) (fun _ => false) _ 1971 363 [some (.ref 999), some (.ref 0), some (.ref 6), some (.ref 12), some (.int 0), some (.int v47), none] [.int (xs (Int32.toNatClampNeg 1)), .ref 6] s49
    refine ⟨(md_fresh_T hm k48.1.1), ?_⟩
    rintro _ s52 ⟨v50, k51, rfl⟩
    have ok51 : s52.2.1 12 0 = s49.2.1 12 0 := congrFun (congrFun (congrArg Prod.fst k51.1) 12) 0
    change ev_wp pg_F pg_lay (some (5, xs)) [] (ev_lu pg_cL) (fun _ => false) _ 1970 366 [some (.ref 999), some (.ref 0), some (.ref 6), some (.ref 12), some (.int 0), some (.int v47), none] [.int v50] s52
    refine ⟨trivial, ?_⟩
    rintro _ _ ⟨rfl, rfl⟩
    change ev_wp pg_F pg_lay (some (5, xs)) [] (ev_lu pg_cL) (fun _ => false) _ 1967 372 [some (.ref 999), some (.ref 0), some (.ref 6), some (.ref 12), some (.int 0), some (.int v47), some (.int v50)] [.int (s52.1 6 0)] s52
    refine ⟨fun (h53 : (s52.1 6 0) = v47) => ?_, fun (h53 : ¬ (s52.1 6 0) = v47) => ?_⟩
    · skip
      change ev_wp pg_F pg_lay (some (5, xs)) [] (ev_lu pg_cL) (fun _ => false) _ 1965 379 [some (.ref 999), some (.ref 0), some (.ref 6), some (.ref 12), some (.int 0), some (.int v47), some (.int v50)] [] s52
      refine ⟨fun (h54 : v47 = 0) => ?_, fun (h54 : ¬ v47 = 0) => ?_⟩
      · skip
        change ev_wp pg_F pg_lay (some (5, xs)) [] (ev_lu pg_cL) (fun _ => false) _ 1963 384 [some (.ref 999), some (.ref 0), some (.ref 6), some (.ref 12), some (.int 0), some (.int v47), some (.int v50)] [] s52
        refine ⟨sp_in rfl rfl, ?_⟩
        change ev_wp pg_F pg_lay (some (5, xs)) [] (ev_lu pg_cL) (fun _ => false) _ 1960 387 [some (.ref 999), some (.ref 0), some (.ref 6), some (.ref 12), some (.int 0), some (.int v47), some (.int v50)] [.long (s52.2.1 12 (Int32.toNatClampNeg 0))] s52
        refine ⟨fun (h55 : (lg_cmp (s52.2.1 12 (Int32.toNatClampNeg 0)) (Int32.toInt64 v50)) = 0) => ?_, fun (h55 : ¬ (lg_cmp (s52.2.1 12 (Int32.toNatClampNeg 0)) (Int32.toInt64 v50)) = 0) => ?_⟩
        · skip
          change ev_wp pg_F pg_lay (some (5, xs)) [] (ev_lu pg_cL) (fun _ => false) _ 1956 396 [some (.ref 999), some (.ref 0), some (.ref 6), some (.ref 12), some (.int 0), some (.int v47), some (.int v50)] [] s52
          refine ⟨fun _ => ?_, fun h => absurd (by decide) h⟩
          change ev_wp pg_F pg_lay (some (5, xs)) [] (ev_lu pg_cL) (fun _ => false) _ 1947 901 [some (.ref 999), some (.ref 0), some (.ref 6), some (.ref 12), some (.int 5), some (.int v47), some (.int v50)] [] s52
          exact ⟨rfl, rfl⟩
        · exact ((show False from by rcases k48.2 with z | z | z <;> rcases k51.2 with y | y <;> first | exact absurd (z.1.symm.trans h54) (by decide) | exact absurd y.1 z.2.1 | exact h55 (lw_cmp (ok51.trans ((z.2.2.2 hf.2.1).trans (congrArg Int32.toInt64 y.2.2.symm)))))).elim
      · skip
        change ev_wp pg_F pg_lay (some (5, xs)) [] (ev_lu pg_cL) (fun _ => false) _ 1963 396 [some (.ref 999), some (.ref 0), some (.ref 6), some (.ref 12), some (.int 0), some (.int v47), some (.int v50)] [] s52
        refine ⟨fun _ => ?_, fun h => absurd (by decide) h⟩
        change ev_wp pg_F pg_lay (some (5, xs)) [] (ev_lu pg_cL) (fun _ => false) _ 1954 901 [some (.ref 999), some (.ref 0), some (.ref 6), some (.ref 12), some (.int 5), some (.int v47), some (.int v50)] [] s52
        exact ⟨rfl, rfl⟩
    · exact ((show False from by rcases k48.2 with z | z | z <;> rcases k51.2 with y | y <;> first | exact absurd z.2 y.1 | exact absurd y.1 z.2 | exact absurd y.1 z.2.1 | exact h53 (y.2.trans z.1.symm) | exact h53 (y.2.1.trans z.1.symm) | exact absurd hf.2.2.2.2.1 z.2.2 | exact absurd hf.2.2.2.2.1 z.2.2.1 | exact z.2.2 hf.2.2.2.2.1)).elim
  refine ⟨fun (h56 : ((xs (Int32.toNatClampNeg 0)) &&& 31) = 4) => ?_, fun (h56 : ¬ ((xs (Int32.toNatClampNeg 0)) &&& 31) = 4) => ?_⟩
  · skip
    change ev_wp pg_F pg_lay (some (5, xs)) [] (ev_lu pg_cL) (fun _ => false) _ 1986 399 [some (.ref 999), some (.ref 0), some (.ref 6), some (.ref 12), some (.int 0), none, none] [] σ
    refine ⟨sp_in rfl rfl, ?_⟩
    change ev_wp pg_F pg_lay (some (5, xs)) [] (ev_lu pg_cL) (fun _ => false) _ 1980 406 [some (.ref 999), some (.ref 0), some (.ref 6), some (.ref 12), some (.int 0), none, none] [.int (xs (Int32.toNatClampNeg 1)), .ref 0] σ
    refine ⟨sp_in rfl rfl, ?_⟩
    change ev_wp pg_F pg_lay (some (5, xs)) [] (ev_lu pg_cL) (fun _ => false) _ 1975 412 [some (.ref 999), some (.ref 0), some (.ref 6), some (.ref 12), some (.int 0), none, none] [.int (xs (Int32.toNatClampNeg 2)), .int (xs (Int32.toNatClampNeg 1)), .ref 0] σ
    refine ⟨sp_in rfl rfl, ?_⟩
    change ev_wp pg_F pg_lay (some (5, xs)) [] (ev_lu pg_cL) (fun _ => false) _ 1970 418 [some (.ref 999), some (.ref 0), some (.ref 6), some (.ref 12), some (.int 0), none, none] [.int (xs (Int32.toNatClampNeg 3)), .int (xs (Int32.toNatClampNeg 2)), .int (xs (Int32.toNatClampNeg 1)), .ref 0] σ
    refine ⟨⟨hf.1, hb⟩, ?_⟩
    rintro _ s59 ⟨v57, k58, rfl⟩
    change ev_wp pg_F pg_lay (some (5, xs)) [] (ev_lu pg_cL) (fun _ => false) _ 1968 422 [some (.ref 999), some (.ref 0), some (.ref 6), some (.ref 12), some (.int 0), none, none] [.int v57] s59
    refine ⟨sp_in rfl rfl, ?_⟩
    change ev_wp pg_F pg_lay (some (5, xs)) [] (ev_lu pg_cL) (fun _ => false) _ 1961 431 [some (.ref 999), some (.ref 0), some (.ref 6), some (.ref 12), some (.int 0), some (.int v57), none] [.int (xs (Int32.toNatClampNeg 1)), .ref 6] s59
    refine ⟨sp_in rfl rfl, ?_⟩
    change ev_wp pg_F pg_lay (some (5, xs)) [] (ev_lu pg_cL) (fun _ => false) _ 1956 437 [some (.ref 999), some (.ref 0), some (.ref 6), some (.ref 12), some (.int 0), some (.int v57), none] [.int (xs (Int32.toNatClampNeg 2)), .int (xs (Int32.toNatClampNeg 1)), .ref 6] s59
    refine ⟨sp_in rfl rfl, ?_⟩
    change ev_wp pg_F pg_lay (some (5, xs)) [] (ev_lu pg_cL) (fun _ => false) _ 1951 443 [some (.ref 999), some (.ref 0), some (.ref 6), some (.ref 12), some (.int 0), some (.int v57), none] [.int (xs (Int32.toNatClampNeg 3)), .int (xs (Int32.toNatClampNeg 2)), .int (xs (Int32.toNatClampNeg 1)), .ref 6] s59
    refine ⟨(md_fresh_T hm k58.1.1), ?_⟩
    rintro _ s62 ⟨v60, k61, rfl⟩
    have ok61 : s62.2.1 12 0 = s59.2.1 12 0 := congrFun (congrFun (congrArg Prod.fst k61.1) 12) 0
    change ev_wp pg_F pg_lay (some (5, xs)) [] (ev_lu pg_cL) (fun _ => false) _ 1950 446 [some (.ref 999), some (.ref 0), some (.ref 6), some (.ref 12), some (.int 0), some (.int v57), none] [.int v60] s62
    refine ⟨trivial, ?_⟩
    rintro _ _ ⟨rfl, rfl⟩
    change ev_wp pg_F pg_lay (some (5, xs)) [] (ev_lu pg_cL) (fun _ => false) _ 1947 452 [some (.ref 999), some (.ref 0), some (.ref 6), some (.ref 12), some (.int 0), some (.int v57), some (.int v60)] [.int (s62.1 6 0)] s62
    refine ⟨fun (h63 : (s62.1 6 0) = v57) => ?_, fun (h63 : ¬ (s62.1 6 0) = v57) => ?_⟩
    · skip
      change ev_wp pg_F pg_lay (some (5, xs)) [] (ev_lu pg_cL) (fun _ => false) _ 1945 459 [some (.ref 999), some (.ref 0), some (.ref 6), some (.ref 12), some (.int 0), some (.int v57), some (.int v60)] [] s62
      refine ⟨fun (h64 : v57 = 0) => ?_, fun (h64 : ¬ v57 = 0) => ?_⟩
      · exact ((show False from by rcases k58.2 with z | z | z <;> rcases k61.2 with y | y <;> first | exact absurd (z.1.symm.trans h64) (by decide) | exact absurd hf.2.2.2.2.1 z.2.2)).elim
      · skip
        change ev_wp pg_F pg_lay (some (5, xs)) [] (ev_lu pg_cL) (fun _ => false) _ 1943 476 [some (.ref 999), some (.ref 0), some (.ref 6), some (.ref 12), some (.int 0), some (.int v57), some (.int v60)] [] s62
        refine ⟨fun _ => ?_, fun h => absurd (by decide) h⟩
        change ev_wp pg_F pg_lay (some (5, xs)) [] (ev_lu pg_cL) (fun _ => false) _ 1934 901 [some (.ref 999), some (.ref 0), some (.ref 6), some (.ref 12), some (.int 5), some (.int v57), some (.int v60)] [] s62
        exact ⟨rfl, rfl⟩
    · exact ((show False from by rcases k58.2 with z | z | z <;> rcases k61.2 with y | y <;> first | exact absurd z.2 y.1 | exact absurd y.1 z.2 | exact absurd y.1 z.2.1 | exact h63 (y.2.trans z.1.symm) | exact h63 (y.2.1.trans z.1.symm) | exact absurd hf.2.2.2.2.1 z.2.2 | exact absurd hf.2.2.2.2.1 z.2.2.1 | exact z.2.2 hf.2.2.2.2.1)).elim
  refine ⟨fun (h65 : ((xs (Int32.toNatClampNeg 0)) &&& 31) = 5) => ?_, fun (h65 : ¬ ((xs (Int32.toNatClampNeg 0)) &&& 31) = 5) => ?_⟩
  · skip
    change ev_wp pg_F pg_lay (some (5, xs)) [] (ev_lu pg_cL) (fun _ => false) _ 1986 479 [some (.ref 999), some (.ref 0), some (.ref 6), some (.ref 12), some (.int 0), none, none] [] σ
    refine ⟨sp_in rfl rfl, ?_⟩
    change ev_wp pg_F pg_lay (some (5, xs)) [] (ev_lu pg_cL) (fun _ => false) _ 1980 486 [some (.ref 999), some (.ref 0), some (.ref 6), some (.ref 12), some (.int 0), none, none] [.int (xs (Int32.toNatClampNeg 1)), .ref 0] σ
    refine ⟨⟨hf.1, hb⟩, ?_⟩
    rintro _ s68 ⟨v66, k67, rfl⟩
    change ev_wp pg_F pg_lay (some (5, xs)) [] (ev_lu pg_cL) (fun _ => false) _ 1978 490 [some (.ref 999), some (.ref 0), some (.ref 6), some (.ref 12), some (.int 0), none, none] [.int v66] s68
    refine ⟨sp_in rfl rfl, ?_⟩
    change ev_wp pg_F pg_lay (some (5, xs)) [] (ev_lu pg_cL) (fun _ => false) _ 1971 499 [some (.ref 999), some (.ref 0), some (.ref 6), some (.ref 12), some (.int 0), some (.int v66), none] [.int (xs (Int32.toNatClampNeg 1)), .ref 6] s68
    refine ⟨(md_fresh_T hm k67.1.1), ?_⟩
    rintro _ s71 ⟨v69, k70, rfl⟩
    have ok70 : s71.2.1 12 0 = s68.2.1 12 0 := congrFun (congrFun (congrArg Prod.fst k70.1) 12) 0
    change ev_wp pg_F pg_lay (some (5, xs)) [] (ev_lu pg_cL) (fun _ => false) _ 1970 502 [some (.ref 999), some (.ref 0), some (.ref 6), some (.ref 12), some (.int 0), some (.int v66), none] [.int v69] s71
    refine ⟨trivial, ?_⟩
    rintro _ _ ⟨rfl, rfl⟩
    change ev_wp pg_F pg_lay (some (5, xs)) [] (ev_lu pg_cL) (fun _ => false) _ 1967 508 [some (.ref 999), some (.ref 0), some (.ref 6), some (.ref 12), some (.int 0), some (.int v66), some (.int v69)] [.int (s71.1 6 0)] s71
    refine ⟨fun (h72 : (s71.1 6 0) = v66) => ?_, fun (h72 : ¬ (s71.1 6 0) = v66) => ?_⟩
    · skip
      change ev_wp pg_F pg_lay (some (5, xs)) [] (ev_lu pg_cL) (fun _ => false) _ 1965 515 [some (.ref 999), some (.ref 0), some (.ref 6), some (.ref 12), some (.int 0), some (.int v66), some (.int v69)] [] s71
      refine ⟨fun (h73 : v66 = 0) => ?_, fun (h73 : ¬ v66 = 0) => ?_⟩
      · exact ((show False from by rcases k67.2 with z | z | z <;> rcases k70.2 with y | y <;> first | exact absurd (z.1.symm.trans h73) (by decide) | exact absurd hf.2.2.2.2.1 z.2.2)).elim
      · skip
        change ev_wp pg_F pg_lay (some (5, xs)) [] (ev_lu pg_cL) (fun _ => false) _ 1963 532 [some (.ref 999), some (.ref 0), some (.ref 6), some (.ref 12), some (.int 0), some (.int v66), some (.int v69)] [] s71
        refine ⟨fun _ => ?_, fun h => absurd (by decide) h⟩
        change ev_wp pg_F pg_lay (some (5, xs)) [] (ev_lu pg_cL) (fun _ => false) _ 1954 901 [some (.ref 999), some (.ref 0), some (.ref 6), some (.ref 12), some (.int 5), some (.int v66), some (.int v69)] [] s71
        exact ⟨rfl, rfl⟩
    · exact ((show False from by rcases k67.2 with z | z | z <;> rcases k70.2 with y | y <;> first | exact absurd z.2 y.1 | exact absurd y.1 z.2 | exact absurd y.1 z.2.1 | exact h72 (y.2.trans z.1.symm) | exact h72 (y.2.1.trans z.1.symm) | exact absurd hf.2.2.2.2.1 z.2.2 | exact absurd hf.2.2.2.2.1 z.2.2.1 | exact z.2.2 hf.2.2.2.2.1)).elim
  refine ⟨fun (h74 : ((xs (Int32.toNatClampNeg 0)) &&& 31) = 6) => ?_, fun (h74 : ¬ ((xs (Int32.toNatClampNeg 0)) &&& 31) = 6) => ?_⟩
  · skip
    change ev_wp pg_F pg_lay (some (5, xs)) [] (ev_lu pg_cL) (fun _ => false) _ 1986 535 [some (.ref 999), some (.ref 0), some (.ref 6), some (.ref 12), some (.int 0), none, none] [] σ
    refine ⟨trivial, ?_⟩
    rintro _ _ ⟨rfl, rfl⟩
    change ev_wp pg_F pg_lay (some (5, xs)) [] (ev_lu pg_cL) (fun _ => false) _ 1984 539 [some (.ref 999), some (.ref 0), some (.ref 6), some (.ref 12), some (.int 0), none, none] [.int (σ.1 0 5)] σ
    refine ⟨hm, ?_⟩
    rintro _ s77 ⟨v75, k76, rfl⟩
    have ok76 : s77.2.1 12 0 = σ.2.1 12 0 := congrFun (congrFun (congrArg Prod.fst k76.1) 12) 0
    change ev_wp pg_F pg_lay (some (5, xs)) [] (ev_lu pg_cL) (fun _ => false) _ 1982 543 [some (.ref 999), some (.ref 0), some (.ref 6), some (.ref 12), some (.int 0), none, none] [.int v75, .int (σ.1 0 5)] s77
    refine ⟨fun (h78 : (σ.1 0 5) = v75) => ?_, fun (h78 : ¬ (σ.1 0 5) = v75) => ?_⟩
    · skip
      change ev_wp pg_F pg_lay (some (5, xs)) [] (ev_lu pg_cL) (fun _ => false) _ 1981 895 [some (.ref 999), some (.ref 0), some (.ref 6), some (.ref 12), some (.int 0), none, none] [] s77
      refine ⟨fun _ => ?_, fun h => absurd (by decide) h⟩
      change ev_wp pg_F pg_lay (some (5, xs)) [] (ev_lu pg_cL) (fun _ => false) _ 1973 901 [some (.ref 999), some (.ref 0), some (.ref 6), some (.ref 12), some (.int 5), none, none] [] s77
      exact ⟨rfl, rfl⟩
    · exact (h78 (hf.2.2.2.2.2.trans k76.2.symm)).elim
  refine ⟨fun (h79 : ((xs (Int32.toNatClampNeg 0)) &&& 31) = 7) => ?_, fun (h79 : ¬ ((xs (Int32.toNatClampNeg 0)) &&& 31) = 7) => ?_⟩
  · skip
    change ev_wp pg_F pg_lay (some (5, xs)) [] (ev_lu pg_cL) (fun _ => false) _ 1986 548 [some (.ref 999), some (.ref 0), some (.ref 6), some (.ref 12), some (.int 0), none, none] [] σ
    refine ⟨sp_in rfl rfl, ?_⟩
    change ev_wp pg_F pg_lay (some (5, xs)) [] (ev_lu pg_cL) (fun _ => false) _ 1980 555 [some (.ref 999), some (.ref 0), some (.ref 6), some (.ref 12), some (.int 0), none, none] [.int (xs (Int32.toNatClampNeg 1)), .ref 0] σ
    refine ⟨sp_in rfl rfl, ?_⟩
    change ev_wp pg_F pg_lay (some (5, xs)) [] (ev_lu pg_cL) (fun _ => false) _ 1975 561 [some (.ref 999), some (.ref 0), some (.ref 6), some (.ref 12), some (.int 0), none, none] [.int (xs (Int32.toNatClampNeg 2)), .int (xs (Int32.toNatClampNeg 1)), .ref 0] σ
    refine ⟨⟨hf.1, hb⟩, ?_⟩
    rintro _ s82 ⟨v80, k81, rfl⟩
    change ev_wp pg_F pg_lay (some (5, xs)) [] (ev_lu pg_cL) (fun _ => false) _ 1974 564 [some (.ref 999), some (.ref 0), some (.ref 6), some (.ref 12), some (.int 0), none, none] [.int v80] s82
    refine ⟨sp_in rfl rfl, ?_⟩
    change ev_wp pg_F pg_lay (some (5, xs)) [] (ev_lu pg_cL) (fun _ => false) _ 1967 573 [some (.ref 999), some (.ref 0), some (.ref 6), some (.ref 12), some (.int 0), some (.int v80), none] [.int (xs (Int32.toNatClampNeg 1)), .ref 6] s82
    refine ⟨sp_in rfl rfl, ?_⟩
    change ev_wp pg_F pg_lay (some (5, xs)) [] (ev_lu pg_cL) (fun _ => false) _ 1962 579 [some (.ref 999), some (.ref 0), some (.ref 6), some (.ref 12), some (.int 0), some (.int v80), none] [.int (xs (Int32.toNatClampNeg 2)), .int (xs (Int32.toNatClampNeg 1)), .ref 6] s82
    refine ⟨(md_fresh_T hm k81.1.1), ?_⟩
    rintro _ s85 ⟨k84, rfl⟩
    have ok84 : s85.2.1 12 0 = s82.2.1 12 0 := congrFun (congrFun (congrArg Prod.fst k84.1) 12) 0
    change ev_wp pg_F pg_lay (some (5, xs)) [] (ev_lu pg_cL) (fun _ => false) _ 1961 582 [some (.ref 999), some (.ref 0), some (.ref 6), some (.ref 12), some (.int 0), some (.int v80), none] [] s85
    refine ⟨trivial, ?_⟩
    rintro _ _ ⟨rfl, rfl⟩
    change ev_wp pg_F pg_lay (some (5, xs)) [] (ev_lu pg_cL) (fun _ => false) _ 1959 586 [some (.ref 999), some (.ref 0), some (.ref 6), some (.ref 12), some (.int 0), some (.int v80), none] [.int (s85.1 6 0)] s85
    refine ⟨fun (h86 : (s85.1 6 0) = v80) => ?_, fun (h86 : ¬ (s85.1 6 0) = v80) => ?_⟩
    · skip
      change ev_wp pg_F pg_lay (some (5, xs)) [] (ev_lu pg_cL) (fun _ => false) _ 1957 593 [some (.ref 999), some (.ref 0), some (.ref 6), some (.ref 12), some (.int 0), some (.int v80), none] [] s85
      refine ⟨fun _ => ?_, fun h => absurd (by decide) h⟩
      change ev_wp pg_F pg_lay (some (5, xs)) [] (ev_lu pg_cL) (fun _ => false) _ 1948 901 [some (.ref 999), some (.ref 0), some (.ref 6), some (.ref 12), some (.int 5), some (.int v80), none] [] s85
      exact ⟨rfl, rfl⟩
    · exact ((show False from by rcases k81.2 with z | z <;> rcases k84.2 with y | y <;> first | exact absurd z.2 y.1 | exact absurd y.1 z.2 | exact absurd y.1 z.2.1 | exact h86 (y.2.trans z.1.symm) | exact h86 (y.2.1.trans z.1.symm) | exact absurd hf.2.2.2.2.1 z.2.2 | exact absurd hf.2.2.2.2.1 z.2.2.1 | exact z.2.2 hf.2.2.2.2.1)).elim
  refine ⟨fun (h87 : ((xs (Int32.toNatClampNeg 0)) &&& 31) = 8) => ?_, fun (h87 : ¬ ((xs (Int32.toNatClampNeg 0)) &&& 31) = 8) => ?_⟩
  · skip
    change ev_wp pg_F pg_lay (some (5, xs)) [] (ev_lu pg_cL) (fun _ => false) _ 1986 596 [some (.ref 999), some (.ref 0), some (.ref 6), some (.ref 12), some (.int 0), none, none] [] σ
    refine ⟨hf.1, ?_⟩
    rintro _ s90 ⟨v88, k89, rfl⟩
    change ev_wp pg_F pg_lay (some (5, xs)) [] (ev_lu pg_cL) (fun _ => false) _ 1984 600 [some (.ref 999), some (.ref 0), some (.ref 6), some (.ref 12), some (.int 0), none, none] [.int v88] s90
    refine ⟨(md_fresh_T hm k89.2.1.t.1), ?_⟩
    rintro _ s93 ⟨v91, k92, rfl⟩
    have ok92 : s93.2.1 12 0 = s90.2.1 12 0 := congrFun (congrFun (congrArg Prod.fst k92.1) 12) 0
    change ev_wp pg_F pg_lay (some (5, xs)) [] (ev_lu pg_cL) (fun _ => false) _ 1982 604 [some (.ref 999), some (.ref 0), some (.ref 6), some (.ref 12), some (.int 0), none, none] [.int v91, .int v88] s93
    refine ⟨fun (h94 : v88 = v91) => ?_, fun (h94 : ¬ v88 = v91) => ?_⟩
    · skip
      change ev_wp pg_F pg_lay (some (5, xs)) [] (ev_lu pg_cL) (fun _ => false) _ 1981 895 [some (.ref 999), some (.ref 0), some (.ref 6), some (.ref 12), some (.int 0), none, none] [] s93
      refine ⟨fun _ => ?_, fun h => absurd (by decide) h⟩
      change ev_wp pg_F pg_lay (some (5, xs)) [] (ev_lu pg_cL) (fun _ => false) _ 1973 901 [some (.ref 999), some (.ref 0), some (.ref 6), some (.ref 12), some (.int 5), none, none] [] s93
      exact ⟨rfl, rfl⟩
    · exact (h94 ((k89.2.2 hf.2.2.2.2.1).trans k92.2.symm)).elim
  refine ⟨fun (h95 : ((xs (Int32.toNatClampNeg 0)) &&& 31) = 9) => ?_, fun (h95 : ¬ ((xs (Int32.toNatClampNeg 0)) &&& 31) = 9) => ?_⟩
  · skip
    change ev_wp pg_F pg_lay (some (5, xs)) [] (ev_lu pg_cL) (fun _ => false) _ 1986 609 [some (.ref 999), some (.ref 0), some (.ref 6), some (.ref 12), some (.int 0), none, none] [] σ
    refine ⟨trivial, ?_⟩
    rintro _ _ ⟨v96, k97, rfl, rfl⟩
    change ev_wp pg_F pg_lay (some (5, xs)) [] (ev_lu pg_cL) (fun _ => false) _ 1984 613 [some (.ref 999), some (.ref 0), some (.ref 6), some (.ref 12), some (.int 0), none, none] [.int v96] σ
    refine ⟨hm, ?_⟩
    rintro _ s100 ⟨v98, k99, rfl⟩
    have ok99 : s100.2.1 12 0 = σ.2.1 12 0 := congrFun (congrFun (congrArg Prod.fst k99.1) 12) 0
    change ev_wp pg_F pg_lay (some (5, xs)) [] (ev_lu pg_cL) (fun _ => false) _ 1982 617 [some (.ref 999), some (.ref 0), some (.ref 6), some (.ref 12), some (.int 0), none, none] [.int v98, .int v96] s100
    refine ⟨fun (h101 : v96 = v98) => ?_, fun (h101 : ¬ v96 = v98) => ?_⟩
    · skip
      change ev_wp pg_F pg_lay (some (5, xs)) [] (ev_lu pg_cL) (fun _ => false) _ 1981 895 [some (.ref 999), some (.ref 0), some (.ref 6), some (.ref 12), some (.int 0), none, none] [] s100
      refine ⟨fun _ => ?_, fun h => absurd (by decide) h⟩
      change ev_wp pg_F pg_lay (some (5, xs)) [] (ev_lu pg_cL) (fun _ => false) _ 1973 901 [some (.ref 999), some (.ref 0), some (.ref 6), some (.ref 12), some (.int 5), none, none] [] s100
      exact ⟨rfl, rfl⟩
    · exact (h101 ((k97 (by rw [sp_at_zero hf.2.1]; decide)).trans k99.2.symm)).elim
  refine ⟨fun (h102 : ((xs (Int32.toNatClampNeg 0)) &&& 31) = 10) => ?_, fun (h102 : ¬ ((xs (Int32.toNatClampNeg 0)) &&& 31) = 10) => ?_⟩
  · skip
    change ev_wp pg_F pg_lay (some (5, xs)) [] (ev_lu pg_cL) (fun _ => false) _ 1986 622 [some (.ref 999), some (.ref 0), some (.ref 6), some (.ref 12), some (.int 0), none, none] [] σ
    refine ⟨trivial, ?_⟩
    rintro _ _ ⟨v103, k104, rfl, rfl⟩
    change ev_wp pg_F pg_lay (some (5, xs)) [] (ev_lu pg_cL) (fun _ => false) _ 1984 626 [some (.ref 999), some (.ref 0), some (.ref 6), some (.ref 12), some (.int 0), none, none] [.int v103] σ
    refine ⟨hm, ?_⟩
    rintro _ s107 ⟨v105, k106, rfl⟩
    have ok106 : s107.2.1 12 0 = σ.2.1 12 0 := congrFun (congrFun (congrArg Prod.fst k106.1) 12) 0
    change ev_wp pg_F pg_lay (some (5, xs)) [] (ev_lu pg_cL) (fun _ => false) _ 1982 630 [some (.ref 999), some (.ref 0), some (.ref 6), some (.ref 12), some (.int 0), none, none] [.int v105, .int v103] s107
    refine ⟨fun (h108 : v103 = v105) => ?_, fun (h108 : ¬ v103 = v105) => ?_⟩
    · skip
      change ev_wp pg_F pg_lay (some (5, xs)) [] (ev_lu pg_cL) (fun _ => false) _ 1981 895 [some (.ref 999), some (.ref 0), some (.ref 6), some (.ref 12), some (.int 0), none, none] [] s107
      refine ⟨fun _ => ?_, fun h => absurd (by decide) h⟩
      change ev_wp pg_F pg_lay (some (5, xs)) [] (ev_lu pg_cL) (fun _ => false) _ 1973 901 [some (.ref 999), some (.ref 0), some (.ref 6), some (.ref 12), some (.int 5), none, none] [] s107
      exact ⟨rfl, rfl⟩
    · exact (h108 ((k104 (by rw [sp_at_zero hf.2.1]; decide)).trans k106.2.symm)).elim
  refine ⟨fun (h109 : ((xs (Int32.toNatClampNeg 0)) &&& 31) = 11) => ?_, fun (h109 : ¬ ((xs (Int32.toNatClampNeg 0)) &&& 31) = 11) => ?_⟩
  · skip
    change ev_wp pg_F pg_lay (some (5, xs)) [] (ev_lu pg_cL) (fun _ => false) _ 1986 635 [some (.ref 999), some (.ref 0), some (.ref 6), some (.ref 12), some (.int 0), none, none] [] σ
    refine ⟨sp_in rfl rfl, ?_⟩
    change ev_wp pg_F pg_lay (some (5, xs)) [] (ev_lu pg_cL) (fun _ => false) _ 1980 642 [some (.ref 999), some (.ref 0), some (.ref 6), some (.ref 12), some (.int 0), none, none] [.int (xs (Int32.toNatClampNeg 1)), .ref 0] σ
    refine ⟨trivial, ?_⟩
    rintro _ _ ⟨v110, k111, rfl, rfl⟩
    change ev_wp pg_F pg_lay (some (5, xs)) [] (ev_lu pg_cL) (fun _ => false) _ 1979 645 [some (.ref 999), some (.ref 0), some (.ref 6), some (.ref 12), some (.int 0), none, none] [.int v110] σ
    refine ⟨sp_in rfl rfl, ?_⟩
    change ev_wp pg_F pg_lay (some (5, xs)) [] (ev_lu pg_cL) (fun _ => false) _ 1973 652 [some (.ref 999), some (.ref 0), some (.ref 6), some (.ref 12), some (.int 0), none, none] [.int (xs (Int32.toNatClampNeg 1)), .ref 6, .int v110] σ
    refine ⟨hm, ?_⟩
    rintro _ s114 ⟨v112, k113, rfl⟩
    have ok113 : s114.2.1 12 0 = σ.2.1 12 0 := congrFun (congrFun (congrArg Prod.fst k113.1) 12) 0
    change ev_wp pg_F pg_lay (some (5, xs)) [] (ev_lu pg_cL) (fun _ => false) _ 1972 655 [some (.ref 999), some (.ref 0), some (.ref 6), some (.ref 12), some (.int 0), none, none] [.int v112, .int v110] s114
    refine ⟨fun (h115 : v110 = v112) => ?_, fun (h115 : ¬ v110 = v112) => ?_⟩
    · skip
      change ev_wp pg_F pg_lay (some (5, xs)) [] (ev_lu pg_cL) (fun _ => false) _ 1971 895 [some (.ref 999), some (.ref 0), some (.ref 6), some (.ref 12), some (.int 0), none, none] [] s114
      refine ⟨fun _ => ?_, fun h => absurd (by decide) h⟩
      change ev_wp pg_F pg_lay (some (5, xs)) [] (ev_lu pg_cL) (fun _ => false) _ 1963 901 [some (.ref 999), some (.ref 0), some (.ref 6), some (.ref 12), some (.int 5), none, none] [] s114
      exact ⟨rfl, rfl⟩
    · exact (h115 ((k111 (by rw [sp_at_zero hf.2.1]; decide)).trans k113.2.symm)).elim
  refine ⟨fun (h116 : ((xs (Int32.toNatClampNeg 0)) &&& 31) = 12) => ?_, fun (h116 : ¬ ((xs (Int32.toNatClampNeg 0)) &&& 31) = 12) => ?_⟩
  · skip
    change ev_wp pg_F pg_lay (some (5, xs)) [] (ev_lu pg_cL) (fun _ => false) _ 1986 660 [some (.ref 999), some (.ref 0), some (.ref 6), some (.ref 12), some (.int 0), none, none] [] σ
    refine ⟨sp_in rfl rfl, ?_⟩
    change ev_wp pg_F pg_lay (some (5, xs)) [] (ev_lu pg_cL) (fun _ => false) _ 1980 667 [some (.ref 999), some (.ref 0), some (.ref 6), some (.ref 12), some (.int 0), none, none] [.int (xs (Int32.toNatClampNeg 1)), .ref 0] σ
    refine ⟨sp_in rfl rfl, ?_⟩
    change ev_wp pg_F pg_lay (some (5, xs)) [] (ev_lu pg_cL) (fun _ => false) _ 1975 673 [some (.ref 999), some (.ref 0), some (.ref 6), some (.ref 12), some (.int 0), none, none] [.int (xs (Int32.toNatClampNeg 2)), .int (xs (Int32.toNatClampNeg 1)), .ref 0] σ
    refine ⟨trivial, ?_⟩
    rintro _ _ ⟨v117, k118, rfl, rfl⟩
    change ev_wp pg_F pg_lay (some (5, xs)) [] (ev_lu pg_cL) (fun _ => false) _ 1974 676 [some (.ref 999), some (.ref 0), some (.ref 6), some (.ref 12), some (.int 0), none, none] [.int v117] σ
    refine ⟨sp_in rfl rfl, ?_⟩
    change ev_wp pg_F pg_lay (some (5, xs)) [] (ev_lu pg_cL) (fun _ => false) _ 1968 683 [some (.ref 999), some (.ref 0), some (.ref 6), some (.ref 12), some (.int 0), none, none] [.int (xs (Int32.toNatClampNeg 1)), .ref 6, .int v117] σ
    refine ⟨sp_in rfl rfl, ?_⟩
    change ev_wp pg_F pg_lay (some (5, xs)) [] (ev_lu pg_cL) (fun _ => false) _ 1963 689 [some (.ref 999), some (.ref 0), some (.ref 6), some (.ref 12), some (.int 0), none, none] [.int (xs (Int32.toNatClampNeg 2)), .int (xs (Int32.toNatClampNeg 1)), .ref 6, .int v117] σ
    refine ⟨hm, ?_⟩
    rintro _ s121 ⟨v119, k120, rfl⟩
    have ok120 : s121.2.1 12 0 = σ.2.1 12 0 := congrFun (congrFun (congrArg Prod.fst k120.1) 12) 0
    change ev_wp pg_F pg_lay (some (5, xs)) [] (ev_lu pg_cL) (fun _ => false) _ 1962 692 [some (.ref 999), some (.ref 0), some (.ref 6), some (.ref 12), some (.int 0), none, none] [.int v119, .int v117] s121
    refine ⟨fun (h122 : v117 = v119) => ?_, fun (h122 : ¬ v117 = v119) => ?_⟩
    · skip
      change ev_wp pg_F pg_lay (some (5, xs)) [] (ev_lu pg_cL) (fun _ => false) _ 1961 895 [some (.ref 999), some (.ref 0), some (.ref 6), some (.ref 12), some (.int 0), none, none] [] s121
      refine ⟨fun _ => ?_, fun h => absurd (by decide) h⟩
      change ev_wp pg_F pg_lay (some (5, xs)) [] (ev_lu pg_cL) (fun _ => false) _ 1953 901 [some (.ref 999), some (.ref 0), some (.ref 6), some (.ref 12), some (.int 5), none, none] [] s121
      exact ⟨rfl, rfl⟩
    · exact (h122 ((k118 hf.2.1).trans k120.2.symm)).elim
  refine ⟨fun (h123 : ((xs (Int32.toNatClampNeg 0)) &&& 31) = 13) => ?_, fun (h123 : ¬ ((xs (Int32.toNatClampNeg 0)) &&& 31) = 13) => ?_⟩
  · skip
    change ev_wp pg_F pg_lay (some (5, xs)) [] (ev_lu pg_cL) (fun _ => false) _ 1986 697 [some (.ref 999), some (.ref 0), some (.ref 6), some (.ref 12), some (.int 0), none, none] [] σ
    refine ⟨sp_in rfl rfl, ?_⟩
    change ev_wp pg_F pg_lay (some (5, xs)) [] (ev_lu pg_cL) (fun _ => false) _ 1980 704 [some (.ref 999), some (.ref 0), some (.ref 6), some (.ref 12), some (.int 0), none, none] [.int (xs (Int32.toNatClampNeg 1)), .ref 0] σ
    refine ⟨trivial, ?_⟩
    rintro _ _ ⟨v124, k125, rfl, rfl⟩
    change ev_wp pg_F pg_lay (some (5, xs)) [] (ev_lu pg_cL) (fun _ => false) _ 1979 707 [some (.ref 999), some (.ref 0), some (.ref 6), some (.ref 12), some (.int 0), none, none] [.int v124] σ
    refine ⟨sp_in rfl rfl, ?_⟩
    change ev_wp pg_F pg_lay (some (5, xs)) [] (ev_lu pg_cL) (fun _ => false) _ 1973 714 [some (.ref 999), some (.ref 0), some (.ref 6), some (.ref 12), some (.int 0), none, none] [.int (xs (Int32.toNatClampNeg 1)), .ref 6, .int v124] σ
    refine ⟨hm, ?_⟩
    rintro _ s128 ⟨v126, k127, rfl⟩
    have ok127 : s128.2.1 12 0 = σ.2.1 12 0 := congrFun (congrFun (congrArg Prod.fst k127.1) 12) 0
    change ev_wp pg_F pg_lay (some (5, xs)) [] (ev_lu pg_cL) (fun _ => false) _ 1972 717 [some (.ref 999), some (.ref 0), some (.ref 6), some (.ref 12), some (.int 0), none, none] [.int v126, .int v124] s128
    refine ⟨fun (h129 : v124 = v126) => ?_, fun (h129 : ¬ v124 = v126) => ?_⟩
    · skip
      change ev_wp pg_F pg_lay (some (5, xs)) [] (ev_lu pg_cL) (fun _ => false) _ 1971 895 [some (.ref 999), some (.ref 0), some (.ref 6), some (.ref 12), some (.int 0), none, none] [] s128
      refine ⟨fun _ => ?_, fun h => absurd (by decide) h⟩
      change ev_wp pg_F pg_lay (some (5, xs)) [] (ev_lu pg_cL) (fun _ => false) _ 1963 901 [some (.ref 999), some (.ref 0), some (.ref 6), some (.ref 12), some (.int 5), none, none] [] s128
      exact ⟨rfl, rfl⟩
    · exact (h129 ((k125 hf.2.1).trans k127.2.symm)).elim
  refine ⟨fun (h130 : ((xs (Int32.toNatClampNeg 0)) &&& 31) = 14) => ?_, fun (h130 : ¬ ((xs (Int32.toNatClampNeg 0)) &&& 31) = 14) => ?_⟩
  · skip
    change ev_wp pg_F pg_lay (some (5, xs)) [] (ev_lu pg_cL) (fun _ => false) _ 1986 722 [some (.ref 999), some (.ref 0), some (.ref 6), some (.ref 12), some (.int 0), none, none] [] σ
    refine ⟨sp_in rfl rfl, ?_⟩
    change ev_wp pg_F pg_lay (some (5, xs)) [] (ev_lu pg_cL) (fun _ => false) _ 1980 729 [some (.ref 999), some (.ref 0), some (.ref 6), some (.ref 12), some (.int 0), none, none] [.int (xs (Int32.toNatClampNeg 1)), .ref 0] σ
    refine ⟨sp_in rfl rfl, ?_⟩
    change ev_wp pg_F pg_lay (some (5, xs)) [] (ev_lu pg_cL) (fun _ => false) _ 1975 735 [some (.ref 999), some (.ref 0), some (.ref 6), some (.ref 12), some (.int 0), none, none] [.int (xs (Int32.toNatClampNeg 2)), .int (xs (Int32.toNatClampNeg 1)), .ref 0] σ
    refine ⟨sp_in rfl rfl, ?_⟩
    change ev_wp pg_F pg_lay (some (5, xs)) [] (ev_lu pg_cL) (fun _ => false) _ 1970 741 [some (.ref 999), some (.ref 0), some (.ref 6), some (.ref 12), some (.int 0), none, none] [.int (xs (Int32.toNatClampNeg 3)), .int (xs (Int32.toNatClampNeg 2)), .int (xs (Int32.toNatClampNeg 1)), .ref 0] σ
    refine ⟨⟨hf.1, hb⟩, ?_⟩
    rintro _ s133 ⟨v131, k132, rfl⟩
    change ev_wp pg_F pg_lay (some (5, xs)) [] (ev_lu pg_cL) (fun _ => false) _ 1968 745 [some (.ref 999), some (.ref 0), some (.ref 6), some (.ref 12), some (.int 0), none, none] [.int v131] s133
    refine ⟨sp_in rfl rfl, ?_⟩
    change ev_wp pg_F pg_lay (some (5, xs)) [] (ev_lu pg_cL) (fun _ => false) _ 1961 754 [some (.ref 999), some (.ref 0), some (.ref 6), some (.ref 12), some (.int 0), some (.int v131), none] [.int (xs (Int32.toNatClampNeg 1)), .ref 6] s133
    refine ⟨sp_in rfl rfl, ?_⟩
    change ev_wp pg_F pg_lay (some (5, xs)) [] (ev_lu pg_cL) (fun _ => false) _ 1956 760 [some (.ref 999), some (.ref 0), some (.ref 6), some (.ref 12), some (.int 0), some (.int v131), none] [.int (xs (Int32.toNatClampNeg 2)), .int (xs (Int32.toNatClampNeg 1)), .ref 6] s133
    refine ⟨sp_in rfl rfl, ?_⟩
    change ev_wp pg_F pg_lay (some (5, xs)) [] (ev_lu pg_cL) (fun _ => false) _ 1951 766 [some (.ref 999), some (.ref 0), some (.ref 6), some (.ref 12), some (.int 0), some (.int v131), none] [.int (xs (Int32.toNatClampNeg 3)), .int (xs (Int32.toNatClampNeg 2)), .int (xs (Int32.toNatClampNeg 1)), .ref 6] s133
    refine ⟨(md_fresh_T hm k132.1.1), ?_⟩
    rintro _ s136 ⟨v134, k135, rfl⟩
    have ok135 : s136.2.1 12 0 = s133.2.1 12 0 := congrFun (congrFun (congrArg Prod.fst k135.1) 12) 0
    change ev_wp pg_F pg_lay (some (5, xs)) [] (ev_lu pg_cL) (fun _ => false) _ 1950 769 [some (.ref 999), some (.ref 0), some (.ref 6), some (.ref 12), some (.int 0), some (.int v131), none] [.int v134] s136
    refine ⟨trivial, ?_⟩
    rintro _ _ ⟨rfl, rfl⟩
    change ev_wp pg_F pg_lay (some (5, xs)) [] (ev_lu pg_cL) (fun _ => false) _ 1947 775 [some (.ref 999), some (.ref 0), some (.ref 6), some (.ref 12), some (.int 0), some (.int v131), some (.int v134)] [.int (s136.1 6 0)] s136
    refine ⟨fun (h137 : (s136.1 6 0) = v131) => ?_, fun (h137 : ¬ (s136.1 6 0) = v131) => ?_⟩
    · skip
      change ev_wp pg_F pg_lay (some (5, xs)) [] (ev_lu pg_cL) (fun _ => false) _ 1945 782 [some (.ref 999), some (.ref 0), some (.ref 6), some (.ref 12), some (.int 0), some (.int v131), some (.int v134)] [] s136
      refine ⟨fun (h138 : v131 = 0) => ?_, fun (h138 : ¬ v131 = 0) => ?_⟩
      · skip
        change ev_wp pg_F pg_lay (some (5, xs)) [] (ev_lu pg_cL) (fun _ => false) _ 1943 787 [some (.ref 999), some (.ref 0), some (.ref 6), some (.ref 12), some (.int 0), some (.int v131), some (.int v134)] [] s136
        refine ⟨sp_in rfl rfl, ?_⟩
        change ev_wp pg_F pg_lay (some (5, xs)) [] (ev_lu pg_cL) (fun _ => false) _ 1940 790 [some (.ref 999), some (.ref 0), some (.ref 6), some (.ref 12), some (.int 0), some (.int v131), some (.int v134)] [.long (s136.2.1 12 (Int32.toNatClampNeg 0))] s136
        refine ⟨fun (h139 : (lg_cmp (s136.2.1 12 (Int32.toNatClampNeg 0)) (Int32.toInt64 v134)) = 0) => ?_, fun (h139 : ¬ (lg_cmp (s136.2.1 12 (Int32.toNatClampNeg 0)) (Int32.toInt64 v134)) = 0) => ?_⟩
        · skip
          change ev_wp pg_F pg_lay (some (5, xs)) [] (ev_lu pg_cL) (fun _ => false) _ 1936 799 [some (.ref 999), some (.ref 0), some (.ref 6), some (.ref 12), some (.int 0), some (.int v131), some (.int v134)] [] s136
          refine ⟨fun _ => ?_, fun h => absurd (by decide) h⟩
          change ev_wp pg_F pg_lay (some (5, xs)) [] (ev_lu pg_cL) (fun _ => false) _ 1927 901 [some (.ref 999), some (.ref 0), some (.ref 6), some (.ref 12), some (.int 5), some (.int v131), some (.int v134)] [] s136
          exact ⟨rfl, rfl⟩
        · exact ((show False from by rcases k132.2 with z | z <;> rcases k135.2 with y | y <;> first | exact absurd (z.1.symm.trans h138) (by decide) | exact absurd y.1 z.2.1 | exact h139 (lw_cmp (ok135.trans ((z.2.2 (sp_at_zero hf.2.1 _ _)).trans (congrArg Int32.toInt64 y.2.2.symm)))))).elim
      · skip
        change ev_wp pg_F pg_lay (some (5, xs)) [] (ev_lu pg_cL) (fun _ => false) _ 1943 799 [some (.ref 999), some (.ref 0), some (.ref 6), some (.ref 12), some (.int 0), some (.int v131), some (.int v134)] [] s136
        refine ⟨fun _ => ?_, fun h => absurd (by decide) h⟩
        change ev_wp pg_F pg_lay (some (5, xs)) [] (ev_lu pg_cL) (fun _ => false) _ 1934 901 [some (.ref 999), some (.ref 0), some (.ref 6), some (.ref 12), some (.int 5), some (.int v131), some (.int v134)] [] s136
        exact ⟨rfl, rfl⟩
    · exact ((show False from by rcases k132.2 with z | z <;> rcases k135.2 with y | y <;> first | exact absurd z.2 y.1 | exact absurd y.1 z.2 | exact absurd y.1 z.2.1 | exact h137 (y.2.trans z.1.symm) | exact h137 (y.2.1.trans z.1.symm) | exact absurd hf.2.2.2.2.1 z.2.2 | exact absurd hf.2.2.2.2.1 z.2.2.1 | exact z.2.2 hf.2.2.2.2.1)).elim
  refine ⟨fun (h140 : ((xs (Int32.toNatClampNeg 0)) &&& 31) = 15) => ?_, fun (h140 : ¬ ((xs (Int32.toNatClampNeg 0)) &&& 31) = 15) => ?_⟩
  · skip
    change ev_wp pg_F pg_lay (some (5, xs)) [] (ev_lu pg_cL) (fun _ => false) _ 1986 802 [some (.ref 999), some (.ref 0), some (.ref 6), some (.ref 12), some (.int 0), none, none] [] σ
    refine ⟨sp_in rfl rfl, ?_⟩
    change ev_wp pg_F pg_lay (some (5, xs)) [] (ev_lu pg_cL) (fun _ => false) _ 1980 809 [some (.ref 999), some (.ref 0), some (.ref 6), some (.ref 12), some (.int 0), none, none] [.int (xs (Int32.toNatClampNeg 1)), .ref 0] σ
    refine ⟨sp_in rfl rfl, ?_⟩
    change ev_wp pg_F pg_lay (some (5, xs)) [] (ev_lu pg_cL) (fun _ => false) _ 1975 815 [some (.ref 999), some (.ref 0), some (.ref 6), some (.ref 12), some (.int 0), none, none] [.int (xs (Int32.toNatClampNeg 2)), .int (xs (Int32.toNatClampNeg 1)), .ref 0] σ
    refine ⟨⟨hf.1, hb⟩, ?_⟩
    rintro _ s143 ⟨v141, k142, rfl⟩
    change ev_wp pg_F pg_lay (some (5, xs)) [] (ev_lu pg_cL) (fun _ => false) _ 1973 819 [some (.ref 999), some (.ref 0), some (.ref 6), some (.ref 12), some (.int 0), none, none] [.int v141] s143
    refine ⟨sp_in rfl rfl, ?_⟩
    change ev_wp pg_F pg_lay (some (5, xs)) [] (ev_lu pg_cL) (fun _ => false) _ 1966 828 [some (.ref 999), some (.ref 0), some (.ref 6), some (.ref 12), some (.int 0), some (.int v141), none] [.int (xs (Int32.toNatClampNeg 1)), .ref 6] s143
    refine ⟨sp_in rfl rfl, ?_⟩
    change ev_wp pg_F pg_lay (some (5, xs)) [] (ev_lu pg_cL) (fun _ => false) _ 1961 834 [some (.ref 999), some (.ref 0), some (.ref 6), some (.ref 12), some (.int 0), some (.int v141), none] [.int (xs (Int32.toNatClampNeg 2)), .int (xs (Int32.toNatClampNeg 1)), .ref 6] s143
    refine ⟨(md_fresh_T hm k142.1.1), ?_⟩
    rintro _ s146 ⟨v144, k145, rfl⟩
    have ok145 : s146.2.1 12 0 = s143.2.1 12 0 := congrFun (congrFun (congrArg Prod.fst k145.1) 12) 0
    change ev_wp pg_F pg_lay (some (5, xs)) [] (ev_lu pg_cL) (fun _ => false) _ 1960 837 [some (.ref 999), some (.ref 0), some (.ref 6), some (.ref 12), some (.int 0), some (.int v141), none] [.int v144] s146
    refine ⟨trivial, ?_⟩
    rintro _ _ ⟨rfl, rfl⟩
    change ev_wp pg_F pg_lay (some (5, xs)) [] (ev_lu pg_cL) (fun _ => false) _ 1957 843 [some (.ref 999), some (.ref 0), some (.ref 6), some (.ref 12), some (.int 0), some (.int v141), some (.int v144)] [.int (s146.1 6 0)] s146
    refine ⟨fun (h147 : (s146.1 6 0) = v141) => ?_, fun (h147 : ¬ (s146.1 6 0) = v141) => ?_⟩
    · skip
      change ev_wp pg_F pg_lay (some (5, xs)) [] (ev_lu pg_cL) (fun _ => false) _ 1955 850 [some (.ref 999), some (.ref 0), some (.ref 6), some (.ref 12), some (.int 0), some (.int v141), some (.int v144)] [] s146
      refine ⟨fun (h148 : v141 = 0) => ?_, fun (h148 : ¬ v141 = 0) => ?_⟩
      · skip
        change ev_wp pg_F pg_lay (some (5, xs)) [] (ev_lu pg_cL) (fun _ => false) _ 1953 855 [some (.ref 999), some (.ref 0), some (.ref 6), some (.ref 12), some (.int 0), some (.int v141), some (.int v144)] [] s146
        refine ⟨sp_in rfl rfl, ?_⟩
        change ev_wp pg_F pg_lay (some (5, xs)) [] (ev_lu pg_cL) (fun _ => false) _ 1950 858 [some (.ref 999), some (.ref 0), some (.ref 6), some (.ref 12), some (.int 0), some (.int v141), some (.int v144)] [.long (s146.2.1 12 (Int32.toNatClampNeg 0))] s146
        refine ⟨fun (h149 : (lg_cmp (s146.2.1 12 (Int32.toNatClampNeg 0)) (Int32.toInt64 v144)) = 0) => ?_, fun (h149 : ¬ (lg_cmp (s146.2.1 12 (Int32.toNatClampNeg 0)) (Int32.toInt64 v144)) = 0) => ?_⟩
        · skip
          change ev_wp pg_F pg_lay (some (5, xs)) [] (ev_lu pg_cL) (fun _ => false) _ 1946 867 [some (.ref 999), some (.ref 0), some (.ref 6), some (.ref 12), some (.int 0), some (.int v141), some (.int v144)] [] s146
          refine ⟨fun _ => ?_, fun h => absurd (by decide) h⟩
          change ev_wp pg_F pg_lay (some (5, xs)) [] (ev_lu pg_cL) (fun _ => false) _ 1937 901 [some (.ref 999), some (.ref 0), some (.ref 6), some (.ref 12), some (.int 5), some (.int v141), some (.int v144)] [] s146
          exact ⟨rfl, rfl⟩
        · exact ((show False from by rcases k142.2 with z | z <;> rcases k145.2 with y | y <;> first | exact absurd (z.1.symm.trans h148) (by decide) | exact absurd y.1 z.2.1 | exact h149 (lw_cmp (ok145.trans (z.2.2.trans (congrArg Int32.toInt64 ((sp_at_zero hf.2.1 _ _).trans y.2.2.symm))))))).elim
      · skip
        change ev_wp pg_F pg_lay (some (5, xs)) [] (ev_lu pg_cL) (fun _ => false) _ 1953 867 [some (.ref 999), some (.ref 0), some (.ref 6), some (.ref 12), some (.int 0), some (.int v141), some (.int v144)] [] s146
        refine ⟨fun _ => ?_, fun h => absurd (by decide) h⟩
        change ev_wp pg_F pg_lay (some (5, xs)) [] (ev_lu pg_cL) (fun _ => false) _ 1944 901 [some (.ref 999), some (.ref 0), some (.ref 6), some (.ref 12), some (.int 5), some (.int v141), some (.int v144)] [] s146
        exact ⟨rfl, rfl⟩
    · exact ((show False from by rcases k142.2 with z | z <;> rcases k145.2 with y | y <;> first | exact absurd z.2 y.1 | exact absurd y.1 z.2 | exact absurd y.1 z.2.1 | exact h147 (y.2.trans z.1.symm) | exact h147 (y.2.1.trans z.1.symm) | exact absurd hf.2.2.2.2.1 z.2.2 | exact absurd hf.2.2.2.2.1 z.2.2.1 | exact z.2.2 hf.2.2.2.2.1)).elim
  refine ⟨fun (h150 : ((xs (Int32.toNatClampNeg 0)) &&& 31) = 16) => ?_, fun (h150 : ¬ ((xs (Int32.toNatClampNeg 0)) &&& 31) = 16) => ?_⟩
  · skip
    change ev_wp pg_F pg_lay (some (5, xs)) [] (ev_lu pg_cL) (fun _ => false) _ 1986 870 [some (.ref 999), some (.ref 0), some (.ref 6), some (.ref 12), some (.int 0), none, none] [] σ
    refine ⟨sp_in rfl rfl, ?_⟩
    change ev_wp pg_F pg_lay (some (5, xs)) [] (ev_lu pg_cL) (fun _ => false) _ 1980 877 [some (.ref 999), some (.ref 0), some (.ref 6), some (.ref 12), some (.int 0), none, none] [.int (xs (Int32.toNatClampNeg 1)), .ref 0] σ
    refine ⟨hf.1, ?_⟩
    rintro _ _ ⟨v151, k152, rfl, rfl⟩
    change ev_wp pg_F pg_lay (some (5, xs)) [] (ev_lu pg_cL) (fun _ => false) _ 1979 880 [some (.ref 999), some (.ref 0), some (.ref 6), some (.ref 12), some (.int 0), none, none] [.int v151] σ
    refine ⟨sp_in rfl rfl, ?_⟩
    change ev_wp pg_F pg_lay (some (5, xs)) [] (ev_lu pg_cL) (fun _ => false) _ 1973 887 [some (.ref 999), some (.ref 0), some (.ref 6), some (.ref 12), some (.int 0), none, none] [.int (xs (Int32.toNatClampNeg 1)), .ref 6, .int v151] σ
    refine ⟨hm, ?_⟩
    rintro _ s155 ⟨v153, k154, rfl⟩
    have ok154 : s155.2.1 12 0 = σ.2.1 12 0 := congrFun (congrFun (congrArg Prod.fst k154.1) 12) 0
    change ev_wp pg_F pg_lay (some (5, xs)) [] (ev_lu pg_cL) (fun _ => false) _ 1972 890 [some (.ref 999), some (.ref 0), some (.ref 6), some (.ref 12), some (.int 0), none, none] [.int v153, .int v151] s155
    refine ⟨fun (h156 : v151 = v153) => ?_, fun (h156 : ¬ v151 = v153) => ?_⟩
    · skip
      change ev_wp pg_F pg_lay (some (5, xs)) [] (ev_lu pg_cL) (fun _ => false) _ 1971 895 [some (.ref 999), some (.ref 0), some (.ref 6), some (.ref 12), some (.int 0), none, none] [] s155
      refine ⟨fun _ => ?_, fun h => absurd (by decide) h⟩
      change ev_wp pg_F pg_lay (some (5, xs)) [] (ev_lu pg_cL) (fun _ => false) _ 1963 901 [some (.ref 999), some (.ref 0), some (.ref 6), some (.ref 12), some (.int 5), none, none] [] s155
      exact ⟨rfl, rfl⟩
    · exact (h156 ((k152 hf.2).trans k154.2.symm)).elim
  change ev_wp pg_F pg_lay (some (5, xs)) [] (ev_lu pg_cL) (fun _ => false) _ 1986 895 [some (.ref 999), some (.ref 0), some (.ref 6), some (.ref 12), some (.int 0), none, none] [] σ
  refine ⟨fun _ => ?_, fun h => absurd (by decide) h⟩
  change ev_wp pg_F pg_lay (some (5, xs)) [] (ev_lu pg_cL) (fun _ => false) _ 1978 901 [some (.ref 999), some (.ref 0), some (.ref 6), some (.ref 12), some (.int 5), none, none] [] σ
  exact ⟨rfl, rfl⟩
