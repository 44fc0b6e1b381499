/-! THE RUNS OF THE BODIES (laid by wip/gen/spec.py) -/
theorem pr_18 : pg_Rn pg_F 18 pg_y18 [] pg_t18 := by
  intro vs σ P h hp
  replace h : pf_18 vs σ = some P := h
  unfold pf_18 at h
  split at h
  · rename_i a b
    cases h
    refine ⟨by simp [Value.category], Nat.le_of_ble_eq_true rfl, ev_go pg_hhs pg_cd pg_o18 (fun _ => false) 2000 (Q1 := ev_at (ev_tl pg_t18) σ.2.2 (sp_e (sp_add a b) σ).2) ?_ (fun _ _ _ _ h => ev_fin h)⟩
    change ev_wp pg_F pg_lay none [] (ev_lu pg_c18) (fun _ => false) _ 2000 0 [some (.int a), some (.int b)] [] σ
    refine ⟨fun (h1 : (a + b) ≤ 65535) => ?_, fun (h1 : ¬ (a + b) ≤ 65535) => ?_⟩
    · skip
      change ev_wp pg_F pg_lay none [] (ev_lu pg_c18) (fun _ => false) _ 1995 17 [some (.int a), some (.int b)] [] σ
      exact ⟨_, rfl, Nat.le_refl _, congrArg (fun z => Sum.inl (some (Value.int z))) (by simp only [sp_add, h1, ↓reduceIte]), rfl⟩
    · skip
      change ev_wp pg_F pg_lay none [] (ev_lu pg_c18) (fun _ => false) _ 1995 8 [some (.int a), some (.int b)] [] σ
      exact ⟨_, rfl, Nat.le_refl _, congrArg (fun z => Sum.inl (some (Value.int z))) (by simp only [sp_add, h1, ↓reduceIte]), rfl⟩
  · cases h
theorem pr_23 : pg_Rn pg_F 23 pg_y23 [] pg_t23 := by
  intro vs σ P h hp
  replace h : pf_23 vs σ = some P := h
  unfold pf_23 at h
  split at h
  · rename_i v a b
    cases h
    refine ⟨by simp [Value.category], Nat.le_of_ble_eq_true rfl, ev_go pg_hhs pg_cd pg_o23 (fun _ => false) 2000 (Q1 := ev_at (ev_tl pg_t23) σ.2.2 (sp_e (sp_isin v a b) σ).2) ?_ (fun _ _ _ _ h => ev_fin h)⟩
    change ev_wp pg_F pg_lay none [] (ev_lu pg_c23) (fun _ => false) _ 2000 0 [some (.int v), some (.int a), some (.int b)] [] σ
    refine ⟨fun (h1 : v < a) => ?_, fun (h1 : ¬ v < a) => ?_⟩
    · skip
      change ev_wp pg_F pg_lay none [] (ev_lu pg_c23) (fun _ => false) _ 1997 14 [some (.int v), some (.int a), some (.int b)] [] σ
      exact ⟨_, rfl, by first | exact Or.inl rfl | exact Or.inr rfl, Nat.le_refl _, congrArg (fun z => Sum.inl (some (Value.int z))) (by simp only [sp_isin, h1, ↓reduceIte]), rfl⟩
    · skip
      change ev_wp pg_F pg_lay none [] (ev_lu pg_c23) (fun _ => false) _ 1997 5 [some (.int v), some (.int a), some (.int b)] [] σ
      refine ⟨fun (h2 : b < v) => ?_, fun (h2 : ¬ b < v) => ?_⟩
      · skip
        change ev_wp pg_F pg_lay none [] (ev_lu pg_c23) (fun _ => false) _ 1994 14 [some (.int v), some (.int a), some (.int b)] [] σ
        exact ⟨_, rfl, by first | exact Or.inl rfl | exact Or.inr rfl, Nat.le_refl _, congrArg (fun z => Sum.inl (some (Value.int z))) (by simp only [sp_isin, h1, h2, ↓reduceIte]), rfl⟩
      · skip
        change ev_wp pg_F pg_lay none [] (ev_lu pg_c23) (fun _ => false) _ 1994 10 [some (.int v), some (.int a), some (.int b)] [] σ
        exact ⟨_, rfl, by first | exact Or.inl rfl | exact Or.inr rfl, Nat.le_refl _, congrArg (fun z => Sum.inl (some (Value.int z))) (by simp only [sp_isin, h1, h2, ↓reduceIte]), rfl⟩
  · cases h
theorem pr_31 : pg_Rn pg_F 31 pg_y31 [] pg_t31 := by
  intro vs σ P h hp
  replace h : pf_31 vs σ = some P := h
  unfold pf_31 at h
  split at h
  · cases h
    refine ⟨by simp [Value.category], Nat.le_of_ble_eq_true rfl, ev_go pg_hhs pg_cd pg_o31 (fun _ => false) 2000 (Q1 := ev_at (ev_tl pg_t31) σ.2.2 (sp_e (σ.1 6 0) σ).2) ?_ (fun _ _ _ _ h => ev_fin h)⟩
    change ev_wp pg_F pg_lay none [] (ev_lu pg_c31) (fun _ => false) _ 2000 0 [some (.ref 6)] [] σ
    exact ⟨_, rfl, Nat.le_refl _, rfl, rfl⟩
  · cases h
theorem pr_19 : pg_Rn pg_F 19 pg_y19 [] pg_t19 := by
  intro vs σ P h hp
  replace h : pf_19 vs σ = some P := h
  unfold pf_19 at h
  split at h
  · rename_i b w
    cases h
    refine ⟨by simp [Value.category], Nat.le_of_ble_eq_true rfl, ev_go pg_hhs pg_cd pg_o19 (fun _ => false) 2000 (Q1 := ev_at (ev_tl pg_t19) σ.2.2 ((vp_in (4 * b + w) 256 ∧ σ.1 7 (Int32.toNatClampNeg (4 * b + w)) = 0, (sp_e 0 σ).2)).2) ?_ (fun _ _ _ _ h => ev_fin h)⟩
    change ev_wp pg_F pg_lay none [] (ev_lu pg_c19) (fun _ => false) _ 2000 0 [some (.ref 6), some (.int b), some (.int w)] [] σ
    refine ⟨hp.1, ?_⟩
    exact ⟨_, rfl, Nat.le_refl _, congrArg (fun z => Sum.inl (some (Value.int z))) hp.2, rfl⟩
  · cases h
theorem pr_62 : pg_Rn pg_F 62 pg_y62 [] pg_t62 := by
  intro vs σ P h hp
  replace h : pf_62 vs σ = some P := h
  unfold pf_62 at h
  split at h
  · rename_i b
    cases h
    refine ⟨by simp [Value.category], Nat.le_of_ble_eq_true rfl, ev_go pg_hhs pg_cd pg_o62 (fun _ => false) 2000 (Q1 := ev_at (ev_tl pg_t62) σ.2.2 ((md_z4 σ ∧ md_b b, (sp_e 0 σ).2)).2) ?_ (fun _ _ _ _ h => ev_fin h)⟩
    change ev_wp pg_F pg_lay none [] (ev_lu pg_c62) (fun _ => false) _ 2000 0 [some (.ref 6), some (.int b), none, none] [] σ
    refine ⟨fun h => absurd h (by decide), fun _ => ?_⟩
    change ev_wp pg_F pg_lay none [] (ev_lu pg_c62) (fun _ => false) _ 1993 10 [some (.ref 6), some (.int b), some (.int 0), some (.int 0)] [] σ
    refine ⟨md_at0 hp.1 hp.2 0 (by decide) rfl, ?_⟩
    rintro _ _ ⟨rfl, rfl⟩
    change ev_wp pg_F pg_lay none [] (ev_lu pg_c62) (fun _ => false) _ 1988 17 [some (.ref 6), some (.int b), some (.int 0), some (.int 0)] [.int 0, .int 0] σ
    refine ⟨trivial, ?_⟩
    rintro _ _ ⟨rfl, rfl⟩
    change ev_wp pg_F pg_lay none [] (ev_lu pg_c62) (fun _ => false) _ 1987 20 [some (.ref 6), some (.int b), some (.int 0), some (.int 0)] [.int 0] σ
    refine ⟨fun h => absurd h (by decide), fun _ => ?_⟩
    change ev_wp pg_F pg_lay none [] (ev_lu pg_c62) (fun _ => false) _ 1981 10 [some (.ref 6), some (.int b), some (.int 0), some (.int 1)] [] σ
    refine ⟨md_at0 hp.1 hp.2 1 (by decide) rfl, ?_⟩
    rintro _ _ ⟨rfl, rfl⟩
    change ev_wp pg_F pg_lay none [] (ev_lu pg_c62) (fun _ => false) _ 1976 17 [some (.ref 6), some (.int b), some (.int 0), some (.int 1)] [.int 0, .int 0] σ
    refine ⟨trivial, ?_⟩
    rintro _ _ ⟨rfl, rfl⟩
    change ev_wp pg_F pg_lay none [] (ev_lu pg_c62) (fun _ => false) _ 1975 20 [some (.ref 6), some (.int b), some (.int 0), some (.int 1)] [.int 0] σ
    refine ⟨fun h => absurd h (by decide), fun _ => ?_⟩
    change ev_wp pg_F pg_lay none [] (ev_lu pg_c62) (fun _ => false) _ 1969 10 [some (.ref 6), some (.int b), some (.int 0), some (.int 2)] [] σ
    refine ⟨md_at0 hp.1 hp.2 2 (by decide) rfl, ?_⟩
    rintro _ _ ⟨rfl, rfl⟩
    change ev_wp pg_F pg_lay none [] (ev_lu pg_c62) (fun _ => false) _ 1964 17 [some (.ref 6), some (.int b), some (.int 0), some (.int 2)] [.int 0, .int 0] σ
    refine ⟨trivial, ?_⟩
    rintro _ _ ⟨rfl, rfl⟩
    change ev_wp pg_F pg_lay none [] (ev_lu pg_c62) (fun _ => false) _ 1963 20 [some (.ref 6), some (.int b), some (.int 0), some (.int 2)] [.int 0] σ
    refine ⟨fun h => absurd h (by decide), fun _ => ?_⟩
    change ev_wp pg_F pg_lay none [] (ev_lu pg_c62) (fun _ => false) _ 1957 10 [some (.ref 6), some (.int b), some (.int 0), some (.int 3)] [] σ
    refine ⟨md_at0 hp.1 hp.2 3 (by decide) rfl, ?_⟩
    rintro _ _ ⟨rfl, rfl⟩
    change ev_wp pg_F pg_lay none [] (ev_lu pg_c62) (fun _ => false) _ 1952 17 [some (.ref 6), some (.int b), some (.int 0), some (.int 3)] [.int 0, .int 0] σ
    refine ⟨trivial, ?_⟩
    rintro _ _ ⟨rfl, rfl⟩
    change ev_wp pg_F pg_lay none [] (ev_lu pg_c62) (fun _ => false) _ 1951 20 [some (.ref 6), some (.int b), some (.int 0), some (.int 3)] [.int 0] σ
    refine ⟨fun h => absurd h (by decide), fun _ => ?_⟩
    change ev_wp pg_F pg_lay none [] (ev_lu pg_c62) (fun _ => false) _ 1945 10 [some (.ref 6), some (.int b), some (.int 0), some (.int 4)] [] σ
    refine ⟨md_at0 hp.1 hp.2 4 (by decide) rfl, ?_⟩
    rintro _ _ ⟨rfl, rfl⟩
    change ev_wp pg_F pg_lay none [] (ev_lu pg_c62) (fun _ => false) _ 1940 17 [some (.ref 6), some (.int b), some (.int 0), some (.int 4)] [.int 0, .int 0] σ
    refine ⟨trivial, ?_⟩
    rintro _ _ ⟨rfl, rfl⟩
    change ev_wp pg_F pg_lay none [] (ev_lu pg_c62) (fun _ => false) _ 1939 20 [some (.ref 6), some (.int b), some (.int 0), some (.int 4)] [.int 0] σ
    refine ⟨fun h => absurd h (by decide), fun _ => ?_⟩
    change ev_wp pg_F pg_lay none [] (ev_lu pg_c62) (fun _ => false) _ 1933 10 [some (.ref 6), some (.int b), some (.int 0), some (.int 5)] [] σ
    refine ⟨md_at0 hp.1 hp.2 5 (by decide) rfl, ?_⟩
    rintro _ _ ⟨rfl, rfl⟩
    change ev_wp pg_F pg_lay none [] (ev_lu pg_c62) (fun _ => false) _ 1928 17 [some (.ref 6), some (.int b), some (.int 0), some (.int 5)] [.int 0, .int 0] σ
    refine ⟨trivial, ?_⟩
    rintro _ _ ⟨rfl, rfl⟩
    change ev_wp pg_F pg_lay none [] (ev_lu pg_c62) (fun _ => false) _ 1927 20 [some (.ref 6), some (.int b), some (.int 0), some (.int 5)] [.int 0] σ
    refine ⟨fun h => absurd h (by decide), fun _ => ?_⟩
    change ev_wp pg_F pg_lay none [] (ev_lu pg_c62) (fun _ => false) _ 1921 10 [some (.ref 6), some (.int b), some (.int 0), some (.int 6)] [] σ
    refine ⟨md_at0 hp.1 hp.2 6 (by decide) rfl, ?_⟩
    rintro _ _ ⟨rfl, rfl⟩
    change ev_wp pg_F pg_lay none [] (ev_lu pg_c62) (fun _ => false) _ 1916 17 [some (.ref 6), some (.int b), some (.int 0), some (.int 6)] [.int 0, .int 0] σ
    refine ⟨trivial, ?_⟩
    rintro _ _ ⟨rfl, rfl⟩
    change ev_wp pg_F pg_lay none [] (ev_lu pg_c62) (fun _ => false) _ 1915 20 [some (.ref 6), some (.int b), some (.int 0), some (.int 6)] [.int 0] σ
    refine ⟨fun _ => ?_, fun h => absurd (by decide) h⟩
    change ev_wp pg_F pg_lay none [] (ev_lu pg_c62) (fun _ => false) _ 1909 27 [some (.ref 6), some (.int b), some (.int 0), some (.int 7)] [] σ
    refine ⟨md_at0 hp.1 hp.2 7 (by decide) rfl, ?_⟩
    rintro _ _ ⟨rfl, rfl⟩
    change ev_wp pg_F pg_lay none [] (ev_lu pg_c62) (fun _ => false) _ 1905 34 [some (.ref 6), some (.int b), some (.int 0), some (.int 7)] [.int 0] σ
    refine ⟨fun h => absurd h (by decide), fun _ => ?_⟩
    change ev_wp pg_F pg_lay none [] (ev_lu pg_c62) (fun _ => false) _ 1901 45 [some (.ref 6), some (.int b), some (.int 0), some (.int 7)] [] σ
    exact ⟨_, rfl, by first | exact Or.inl rfl | exact Or.inr rfl, Nat.le_refl _, rfl, rfl⟩
  · cases h
theorem pr_84 : pg_Rn pg_F 84 pg_y84 [] pg_t84 := by
  intro vs σ P h hp
  replace h : pf_84 vs σ = some P := h
  unfold pf_84 at h
  split at h
  · rename_i b
    cases h
    refine ⟨by simp [Value.category], Nat.le_of_ble_eq_true rfl, ev_go pg_hhs pg_cd pg_o84 (fun _ => false) 2000 (Q1 := ev_at (ev_tl pg_t84) σ.2.2 ((md_z4 σ ∧ md_b b ∧ md_b (b + 2), (sp_e (-1) σ).2)).2) ?_ (fun _ _ _ _ h => ev_fin h)⟩
    change ev_wp pg_F pg_lay none [] (ev_lu pg_c84) (fun _ => false) _ 2000 0 [some (.ref 6), some (.int b), none, none, none] [] σ
    refine ⟨⟨hp.1, hp.2.1⟩, ?_⟩
    rintro _ _ ⟨rfl, rfl⟩
    change ev_wp pg_F pg_lay none [] (ev_lu pg_c84) (fun _ => false) _ 1997 5 [some (.ref 6), some (.int b), none, none, none] [.int 0] σ
    refine ⟨⟨hp.1, hp.2.2⟩, ?_⟩
    rintro _ _ ⟨rfl, rfl⟩
    change ev_wp pg_F pg_lay none [] (ev_lu pg_c84) (fun _ => false) _ 1991 13 [some (.ref 6), some (.int b), some (.int 0), none, none] [.int 0] σ
    refine ⟨fun _ => ?_, fun h => absurd (by decide) h⟩
    change ev_wp pg_F pg_lay none [] (ev_lu pg_c84) (fun _ => false) _ 1988 22 [some (.ref 6), some (.int b), some (.int 0), some (.int 0), none] [] σ
    refine ⟨fun _ => ?_, fun h => absurd (by decide) h⟩
    change ev_wp pg_F pg_lay none [] (ev_lu pg_c84) (fun _ => false) _ 1986 30 [some (.ref 6), some (.int b), some (.int 0), some (.int 0), none] [] σ
    refine ⟨fun _ => ?_, fun h => absurd (by decide) h⟩
    change ev_wp pg_F pg_lay none [] (ev_lu pg_c84) (fun _ => false) _ 1984 40 [some (.ref 6), some (.int b), some (.int 0), some (.int 0), none] [] σ
    exact ⟨_, rfl, Nat.le_refl _, rfl, rfl⟩
  · cases h
theorem pr_63 : pg_Rn pg_F 63 pg_y63 [] pg_t63 := by
  intro vs σ P h hp
  replace h : pf_63 vs σ = some P := h
  unfold pf_63 at h
  split at h
  · cases h
    refine ⟨by simp [Value.category], Nat.le_of_ble_eq_true rfl, ev_go pg_hhs pg_cd pg_o63 (fun _ => false) 2000 (Q1 := ev_at (ev_tl pg_t63) σ.2.2 ((σ.1 7 0 = 0, (sp_e 0 σ).2)).2) ?_ (fun _ _ _ _ h => ev_fin h)⟩
    change ev_wp pg_F pg_lay none [] (ev_lu pg_c63) (fun _ => false) _ 2000 0 [some (.ref 6)] [] σ
    refine ⟨⟨sp_in rfl rfl, hp⟩, ?_⟩
    rintro _ _ ⟨rfl, rfl⟩
    exact ⟨_, rfl, Nat.le_refl _, rfl, rfl⟩
  · cases h
theorem pr_64 : pg_Rn pg_F 64 pg_y64 [] pg_t64 := by
  intro vs σ P h hp
  replace h : pf_64 vs σ = some P := h
  unfold pf_64 at h
  split at h
  · cases h
    refine ⟨by simp [Value.category], Nat.le_of_ble_eq_true rfl, ev_go pg_hhs pg_cd pg_o64 (fun _ => false) 2000 (Q1 := ev_at (ev_tl pg_t64) σ.2.2 ((md_z4 σ, (sp_e 0 σ).2)).2) ?_ (fun _ _ _ _ h => ev_fin h)⟩
    change ev_wp pg_F pg_lay none [] (ev_lu pg_c64) (fun _ => false) _ 2000 0 [some (.ref 6), none, none] [] σ
    refine ⟨fun h => absurd h (by decide), fun _ => ?_⟩
    change ev_wp pg_F pg_lay none [] (ev_lu pg_c64) (fun _ => false) _ 1993 10 [some (.ref 6), some (.int 0), some (.int 0)] [] σ
    refine ⟨md_at0 hp ⟨4, by decide, by decide, rfl⟩ 0 (by decide) rfl, ?_⟩
    rintro _ _ ⟨rfl, rfl⟩
    change ev_wp pg_F pg_lay none [] (ev_lu pg_c64) (fun _ => false) _ 1986 20 [some (.ref 6), some (.int 0), some (.int 0)] [.int 0, .int 0] σ
    refine ⟨fun h => absurd h (by decide), fun _ => ?_⟩
    change ev_wp pg_F pg_lay none [] (ev_lu pg_c64) (fun _ => false) _ 1973 10 [some (.ref 6), some (.int 0), some (.int 1)] [] σ
    refine ⟨md_at0 hp ⟨4, by decide, by decide, rfl⟩ 0 (by decide) rfl, ?_⟩
    rintro _ _ ⟨rfl, rfl⟩
    change ev_wp pg_F pg_lay none [] (ev_lu pg_c64) (fun _ => false) _ 1966 20 [some (.ref 6), some (.int 0), some (.int 1)] [.int 0, .int 0] σ
    refine ⟨fun h => absurd h (by decide), fun _ => ?_⟩
    change ev_wp pg_F pg_lay none [] (ev_lu pg_c64) (fun _ => false) _ 1953 10 [some (.ref 6), some (.int 0), some (.int 2)] [] σ
    refine ⟨md_at0 hp ⟨4, by decide, by decide, rfl⟩ 0 (by decide) rfl, ?_⟩
    rintro _ _ ⟨rfl, rfl⟩
    change ev_wp pg_F pg_lay none [] (ev_lu pg_c64) (fun _ => false) _ 1946 20 [some (.ref 6), some (.int 0), some (.int 2)] [.int 0, .int 0] σ
    refine ⟨fun h => absurd h (by decide), fun _ => ?_⟩
    change ev_wp pg_F pg_lay none [] (ev_lu pg_c64) (fun _ => false) _ 1933 10 [some (.ref 6), some (.int 0), some (.int 3)] [] σ
    refine ⟨md_at0 hp ⟨4, by decide, by decide, rfl⟩ 0 (by decide) rfl, ?_⟩
    rintro _ _ ⟨rfl, rfl⟩
    change ev_wp pg_F pg_lay none [] (ev_lu pg_c64) (fun _ => false) _ 1926 20 [some (.ref 6), some (.int 0), some (.int 3)] [.int 0, .int 0] σ
    refine ⟨fun h => absurd h (by decide), fun _ => ?_⟩
    change ev_wp pg_F pg_lay none [] (ev_lu pg_c64) (fun _ => false) _ 1913 10 [some (.ref 6), some (.int 0), some (.int 4)] [] σ
    refine ⟨md_at0 hp ⟨4, by decide, by decide, rfl⟩ 0 (by decide) rfl, ?_⟩
    rintro _ _ ⟨rfl, rfl⟩
    change ev_wp pg_F pg_lay none [] (ev_lu pg_c64) (fun _ => false) _ 1906 20 [some (.ref 6), some (.int 0), some (.int 4)] [.int 0, .int 0] σ
    refine ⟨fun h => absurd h (by decide), fun _ => ?_⟩
    change ev_wp pg_F pg_lay none [] (ev_lu pg_c64) (fun _ => false) _ 1893 10 [some (.ref 6), some (.int 0), some (.int 5)] [] σ
    refine ⟨md_at0 hp ⟨4, by decide, by decide, rfl⟩ 0 (by decide) rfl, ?_⟩
    rintro _ _ ⟨rfl, rfl⟩
    change ev_wp pg_F pg_lay none [] (ev_lu pg_c64) (fun _ => false) _ 1886 20 [some (.ref 6), some (.int 0), some (.int 5)] [.int 0, .int 0] σ
    refine ⟨fun h => absurd h (by decide), fun _ => ?_⟩
    change ev_wp pg_F pg_lay none [] (ev_lu pg_c64) (fun _ => false) _ 1873 10 [some (.ref 6), some (.int 0), some (.int 6)] [] σ
    refine ⟨md_at0 hp ⟨4, by decide, by decide, rfl⟩ 0 (by decide) rfl, ?_⟩
    rintro _ _ ⟨rfl, rfl⟩
    change ev_wp pg_F pg_lay none [] (ev_lu pg_c64) (fun _ => false) _ 1866 20 [some (.ref 6), some (.int 0), some (.int 6)] [.int 0, .int 0] σ
    refine ⟨fun h => absurd h (by decide), fun _ => ?_⟩
    change ev_wp pg_F pg_lay none [] (ev_lu pg_c64) (fun _ => false) _ 1853 10 [some (.ref 6), some (.int 0), some (.int 7)] [] σ
    refine ⟨md_at0 hp ⟨4, by decide, by decide, rfl⟩ 0 (by decide) rfl, ?_⟩
    rintro _ _ ⟨rfl, rfl⟩
    change ev_wp pg_F pg_lay none [] (ev_lu pg_c64) (fun _ => false) _ 1846 20 [some (.ref 6), some (.int 0), some (.int 7)] [.int 0, .int 0] σ
    refine ⟨fun h => absurd h (by decide), fun _ => ?_⟩
    change ev_wp pg_F pg_lay none [] (ev_lu pg_c64) (fun _ => false) _ 1833 10 [some (.ref 6), some (.int 0), some (.int 8)] [] σ
    refine ⟨md_at0 hp ⟨4, by decide, by decide, rfl⟩ 0 (by decide) rfl, ?_⟩
    rintro _ _ ⟨rfl, rfl⟩
    change ev_wp pg_F pg_lay none [] (ev_lu pg_c64) (fun _ => false) _ 1826 20 [some (.ref 6), some (.int 0), some (.int 8)] [.int 0, .int 0] σ
    refine ⟨fun h => absurd h (by decide), fun _ => ?_⟩
    change ev_wp pg_F pg_lay none [] (ev_lu pg_c64) (fun _ => false) _ 1813 10 [some (.ref 6), some (.int 0), some (.int 9)] [] σ
    refine ⟨md_at0 hp ⟨4, by decide, by decide, rfl⟩ 0 (by decide) rfl, ?_⟩
    rintro _ _ ⟨rfl, rfl⟩
    change ev_wp pg_F pg_lay none [] (ev_lu pg_c64) (fun _ => false) _ 1806 20 [some (.ref 6), some (.int 0), some (.int 9)] [.int 0, .int 0] σ
    refine ⟨fun h => absurd h (by decide), fun _ => ?_⟩
    change ev_wp pg_F pg_lay none [] (ev_lu pg_c64) (fun _ => false) _ 1793 10 [some (.ref 6), some (.int 0), some (.int 10)] [] σ
    refine ⟨md_at0 hp ⟨4, by decide, by decide, rfl⟩ 0 (by decide) rfl, ?_⟩
    rintro _ _ ⟨rfl, rfl⟩
    change ev_wp pg_F pg_lay none [] (ev_lu pg_c64) (fun _ => false) _ 1786 20 [some (.ref 6), some (.int 0), some (.int 10)] [.int 0, .int 0] σ
    refine ⟨fun h => absurd h (by decide), fun _ => ?_⟩
    change ev_wp pg_F pg_lay none [] (ev_lu pg_c64) (fun _ => false) _ 1773 10 [some (.ref 6), some (.int 0), some (.int 11)] [] σ
    refine ⟨md_at0 hp ⟨4, by decide, by decide, rfl⟩ 0 (by decide) rfl, ?_⟩
    rintro _ _ ⟨rfl, rfl⟩
    change ev_wp pg_F pg_lay none [] (ev_lu pg_c64) (fun _ => false) _ 1766 20 [some (.ref 6), some (.int 0), some (.int 11)] [.int 0, .int 0] σ
    refine ⟨fun h => absurd h (by decide), fun _ => ?_⟩
    change ev_wp pg_F pg_lay none [] (ev_lu pg_c64) (fun _ => false) _ 1753 10 [some (.ref 6), some (.int 0), some (.int 12)] [] σ
    refine ⟨md_at0 hp ⟨4, by decide, by decide, rfl⟩ 0 (by decide) rfl, ?_⟩
    rintro _ _ ⟨rfl, rfl⟩
    change ev_wp pg_F pg_lay none [] (ev_lu pg_c64) (fun _ => false) _ 1746 20 [some (.ref 6), some (.int 0), some (.int 12)] [.int 0, .int 0] σ
    refine ⟨fun h => absurd h (by decide), fun _ => ?_⟩
    change ev_wp pg_F pg_lay none [] (ev_lu pg_c64) (fun _ => false) _ 1733 10 [some (.ref 6), some (.int 0), some (.int 13)] [] σ
    refine ⟨md_at0 hp ⟨4, by decide, by decide, rfl⟩ 0 (by decide) rfl, ?_⟩
    rintro _ _ ⟨rfl, rfl⟩
    change ev_wp pg_F pg_lay none [] (ev_lu pg_c64) (fun _ => false) _ 1726 20 [some (.ref 6), some (.int 0), some (.int 13)] [.int 0, .int 0] σ
    refine ⟨fun h => absurd h (by decide), fun _ => ?_⟩
    change ev_wp pg_F pg_lay none [] (ev_lu pg_c64) (fun _ => false) _ 1713 10 [some (.ref 6), some (.int 0), some (.int 14)] [] σ
    refine ⟨md_at0 hp ⟨4, by decide, by decide, rfl⟩ 0 (by decide) rfl, ?_⟩
    rintro _ _ ⟨rfl, rfl⟩
    change ev_wp pg_F pg_lay none [] (ev_lu pg_c64) (fun _ => false) _ 1706 20 [some (.ref 6), some (.int 0), some (.int 14)] [.int 0, .int 0] σ
    refine ⟨fun h => absurd h (by decide), fun _ => ?_⟩
    change ev_wp pg_F pg_lay none [] (ev_lu pg_c64) (fun _ => false) _ 1693 10 [some (.ref 6), some (.int 0), some (.int 15)] [] σ
    refine ⟨md_at0 hp ⟨4, by decide, by decide, rfl⟩ 0 (by decide) rfl, ?_⟩
    rintro _ _ ⟨rfl, rfl⟩
    change ev_wp pg_F pg_lay none [] (ev_lu pg_c64) (fun _ => false) _ 1686 20 [some (.ref 6), some (.int 0), some (.int 15)] [.int 0, .int 0] σ
    refine ⟨fun h => absurd h (by decide), fun _ => ?_⟩
    change ev_wp pg_F pg_lay none [] (ev_lu pg_c64) (fun _ => false) _ 1673 10 [some (.ref 6), some (.int 0), some (.int 16)] [] σ
    refine ⟨md_at0 hp ⟨4, by decide, by decide, rfl⟩ 1 (by decide) rfl, ?_⟩
    rintro _ _ ⟨rfl, rfl⟩
    change ev_wp pg_F pg_lay none [] (ev_lu pg_c64) (fun _ => false) _ 1666 20 [some (.ref 6), some (.int 0), some (.int 16)] [.int 0, .int 0] σ
    refine ⟨fun h => absurd h (by decide), fun _ => ?_⟩
    change ev_wp pg_F pg_lay none [] (ev_lu pg_c64) (fun _ => false) _ 1653 10 [some (.ref 6), some (.int 0), some (.int 17)] [] σ
    refine ⟨md_at0 hp ⟨4, by decide, by decide, rfl⟩ 1 (by decide) rfl, ?_⟩
    rintro _ _ ⟨rfl, rfl⟩
    change ev_wp pg_F pg_lay none [] (ev_lu pg_c64) (fun _ => false) _ 1646 20 [some (.ref 6), some (.int 0), some (.int 17)] [.int 0, .int 0] σ
    refine ⟨fun h => absurd h (by decide), fun _ => ?_⟩
    change ev_wp pg_F pg_lay none [] (ev_lu pg_c64) (fun _ => false) _ 1633 10 [some (.ref 6), some (.int 0), some (.int 18)] [] σ
    refine ⟨md_at0 hp ⟨4, by decide, by decide, rfl⟩ 1 (by decide) rfl, ?_⟩
    rintro _ _ ⟨rfl, rfl⟩
    change ev_wp pg_F pg_lay none [] (ev_lu pg_c64) (fun _ => false) _ 1626 20 [some (.ref 6), some (.int 0), some (.int 18)] [.int 0, .int 0] σ
    refine ⟨fun h => absurd h (by decide), fun _ => ?_⟩
    change ev_wp pg_F pg_lay none [] (ev_lu pg_c64) (fun _ => false) _ 1613 10 [some (.ref 6), some (.int 0), some (.int 19)] [] σ
    refine ⟨md_at0 hp ⟨4, by decide, by decide, rfl⟩ 1 (by decide) rfl, ?_⟩
    rintro _ _ ⟨rfl, rfl⟩
    change ev_wp pg_F pg_lay none [] (ev_lu pg_c64) (fun _ => false) _ 1606 20 [some (.ref 6), some (.int 0), some (.int 19)] [.int 0, .int 0] σ
    refine ⟨fun h => absurd h (by decide), fun _ => ?_⟩
    change ev_wp pg_F pg_lay none [] (ev_lu pg_c64) (fun _ => false) _ 1593 10 [some (.ref 6), some (.int 0), some (.int 20)] [] σ
    refine ⟨md_at0 hp ⟨4, by decide, by decide, rfl⟩ 1 (by decide) rfl, ?_⟩
    rintro _ _ ⟨rfl, rfl⟩
    change ev_wp pg_F pg_lay none [] (ev_lu pg_c64) (fun _ => false) _ 1586 20 [some (.ref 6), some (.int 0), some (.int 20)] [.int 0, .int 0] σ
    refine ⟨fun h => absurd h (by decide), fun _ => ?_⟩
    change ev_wp pg_F pg_lay none [] (ev_lu pg_c64) (fun _ => false) _ 1573 10 [some (.ref 6), some (.int 0), some (.int 21)] [] σ
    refine ⟨md_at0 hp ⟨4, by decide, by decide, rfl⟩ 1 (by decide) rfl, ?_⟩
    rintro _ _ ⟨rfl, rfl⟩
    change ev_wp pg_F pg_lay none [] (ev_lu pg_c64) (fun _ => false) _ 1566 20 [some (.ref 6), some (.int 0), some (.int 21)] [.int 0, .int 0] σ
    refine ⟨fun h => absurd h (by decide), fun _ => ?_⟩
    change ev_wp pg_F pg_lay none [] (ev_lu pg_c64) (fun _ => false) _ 1553 10 [some (.ref 6), some (.int 0), some (.int 22)] [] σ
    refine ⟨md_at0 hp ⟨4, by decide, by decide, rfl⟩ 1 (by decide) rfl, ?_⟩
    rintro _ _ ⟨rfl, rfl⟩
    change ev_wp pg_F pg_lay none [] (ev_lu pg_c64) (fun _ => false) _ 1546 20 [some (.ref 6), some (.int 0), some (.int 22)] [.int 0, .int 0] σ
    refine ⟨fun h => absurd h (by decide), fun _ => ?_⟩
    change ev_wp pg_F pg_lay none [] (ev_lu pg_c64) (fun _ => false) _ 1533 10 [some (.ref 6), some (.int 0), some (.int 23)] [] σ
    refine ⟨md_at0 hp ⟨4, by decide, by decide, rfl⟩ 1 (by decide) rfl, ?_⟩
    rintro _ _ ⟨rfl, rfl⟩
    change ev_wp pg_F pg_lay none [] (ev_lu pg_c64) (fun _ => false) _ 1526 20 [some (.ref 6), some (.int 0), some (.int 23)] [.int 0, .int 0] σ
    refine ⟨fun h => absurd h (by decide), fun _ => ?_⟩
    change ev_wp pg_F pg_lay none [] (ev_lu pg_c64) (fun _ => false) _ 1513 10 [some (.ref 6), some (.int 0), some (.int 24)] [] σ
    refine ⟨md_at0 hp ⟨4, by decide, by decide, rfl⟩ 1 (by decide) rfl, ?_⟩
    rintro _ _ ⟨rfl, rfl⟩
    change ev_wp pg_F pg_lay none [] (ev_lu pg_c64) (fun _ => false) _ 1506 20 [some (.ref 6), some (.int 0), some (.int 24)] [.int 0, .int 0] σ
    refine ⟨fun h => absurd h (by decide), fun _ => ?_⟩
    change ev_wp pg_F pg_lay none [] (ev_lu pg_c64) (fun _ => false) _ 1493 10 [some (.ref 6), some (.int 0), some (.int 25)] [] σ
    refine ⟨md_at0 hp ⟨4, by decide, by decide, rfl⟩ 1 (by decide) rfl, ?_⟩
    rintro _ _ ⟨rfl, rfl⟩
    change ev_wp pg_F pg_lay none [] (ev_lu pg_c64) (fun _ => false) _ 1486 20 [some (.ref 6), some (.int 0), some (.int 25)] [.int 0, .int 0] σ
    refine ⟨fun h => absurd h (by decide), fun _ => ?_⟩
    change ev_wp pg_F pg_lay none [] (ev_lu pg_c64) (fun _ => false) _ 1473 10 [some (.ref 6), some (.int 0), some (.int 26)] [] σ
    refine ⟨md_at0 hp ⟨4, by decide, by decide, rfl⟩ 1 (by decide) rfl, ?_⟩
    rintro _ _ ⟨rfl, rfl⟩
    change ev_wp pg_F pg_lay none [] (ev_lu pg_c64) (fun _ => false) _ 1466 20 [some (.ref 6), some (.int 0), some (.int 26)] [.int 0, .int 0] σ
    refine ⟨fun h => absurd h (by decide), fun _ => ?_⟩
    change ev_wp pg_F pg_lay none [] (ev_lu pg_c64) (fun _ => false) _ 1453 10 [some (.ref 6), some (.int 0), some (.int 27)] [] σ
    refine ⟨md_at0 hp ⟨4, by decide, by decide, rfl⟩ 1 (by decide) rfl, ?_⟩
    rintro _ _ ⟨rfl, rfl⟩
    change ev_wp pg_F pg_lay none [] (ev_lu pg_c64) (fun _ => false) _ 1446 20 [some (.ref 6), some (.int 0), some (.int 27)] [.int 0, .int 0] σ
    refine ⟨fun h => absurd h (by decide), fun _ => ?_⟩
    change ev_wp pg_F pg_lay none [] (ev_lu pg_c64) (fun _ => false) _ 1433 10 [some (.ref 6), some (.int 0), some (.int 28)] [] σ
    refine ⟨md_at0 hp ⟨4, by decide, by decide, rfl⟩ 1 (by decide) rfl, ?_⟩
    rintro _ _ ⟨rfl, rfl⟩
    change ev_wp pg_F pg_lay none [] (ev_lu pg_c64) (fun _ => false) _ 1426 20 [some (.ref 6), some (.int 0), some (.int 28)] [.int 0, .int 0] σ
    refine ⟨fun h => absurd h (by decide), fun _ => ?_⟩
    change ev_wp pg_F pg_lay none [] (ev_lu pg_c64) (fun _ => false) _ 1413 10 [some (.ref 6), some (.int 0), some (.int 29)] [] σ
    refine ⟨md_at0 hp ⟨4, by decide, by decide, rfl⟩ 1 (by decide) rfl, ?_⟩
    rintro _ _ ⟨rfl, rfl⟩
    change ev_wp pg_F pg_lay none [] (ev_lu pg_c64) (fun _ => false) _ 1406 20 [some (.ref 6), some (.int 0), some (.int 29)] [.int 0, .int 0] σ
    refine ⟨fun h => absurd h (by decide), fun _ => ?_⟩
    change ev_wp pg_F pg_lay none [] (ev_lu pg_c64) (fun _ => false) _ 1393 10 [some (.ref 6), some (.int 0), some (.int 30)] [] σ
    refine ⟨md_at0 hp ⟨4, by decide, by decide, rfl⟩ 1 (by decide) rfl, ?_⟩
    rintro _ _ ⟨rfl, rfl⟩
    change ev_wp pg_F pg_lay none [] (ev_lu pg_c64) (fun _ => false) _ 1386 20 [some (.ref 6), some (.int 0), some (.int 30)] [.int 0, .int 0] σ
    refine ⟨fun h => absurd h (by decide), fun _ => ?_⟩
    change ev_wp pg_F pg_lay none [] (ev_lu pg_c64) (fun _ => false) _ 1373 10 [some (.ref 6), some (.int 0), some (.int 31)] [] σ
    refine ⟨md_at0 hp ⟨4, by decide, by decide, rfl⟩ 1 (by decide) rfl, ?_⟩
    rintro _ _ ⟨rfl, rfl⟩
    change ev_wp pg_F pg_lay none [] (ev_lu pg_c64) (fun _ => false) _ 1366 20 [some (.ref 6), some (.int 0), some (.int 31)] [.int 0, .int 0] σ
    refine ⟨fun h => absurd h (by decide), fun _ => ?_⟩
    change ev_wp pg_F pg_lay none [] (ev_lu pg_c64) (fun _ => false) _ 1353 10 [some (.ref 6), some (.int 0), some (.int 32)] [] σ
    refine ⟨md_at0 hp ⟨4, by decide, by decide, rfl⟩ 2 (by decide) rfl, ?_⟩
    rintro _ _ ⟨rfl, rfl⟩
    change ev_wp pg_F pg_lay none [] (ev_lu pg_c64) (fun _ => false) _ 1346 20 [some (.ref 6), some (.int 0), some (.int 32)] [.int 0, .int 0] σ
    refine ⟨fun h => absurd h (by decide), fun _ => ?_⟩
    change ev_wp pg_F pg_lay none [] (ev_lu pg_c64) (fun _ => false) _ 1333 10 [some (.ref 6), some (.int 0), some (.int 33)] [] σ
    refine ⟨md_at0 hp ⟨4, by decide, by decide, rfl⟩ 2 (by decide) rfl, ?_⟩
    rintro _ _ ⟨rfl, rfl⟩
    change ev_wp pg_F pg_lay none [] (ev_lu pg_c64) (fun _ => false) _ 1326 20 [some (.ref 6), some (.int 0), some (.int 33)] [.int 0, .int 0] σ
    refine ⟨fun h => absurd h (by decide), fun _ => ?_⟩
    change ev_wp pg_F pg_lay none [] (ev_lu pg_c64) (fun _ => false) _ 1313 10 [some (.ref 6), some (.int 0), some (.int 34)] [] σ
    refine ⟨md_at0 hp ⟨4, by decide, by decide, rfl⟩ 2 (by decide) rfl, ?_⟩
    rintro _ _ ⟨rfl, rfl⟩
    change ev_wp pg_F pg_lay none [] (ev_lu pg_c64) (fun _ => false) _ 1306 20 [some (.ref 6), some (.int 0), some (.int 34)] [.int 0, .int 0] σ
    refine ⟨fun h => absurd h (by decide), fun _ => ?_⟩
    change ev_wp pg_F pg_lay none [] (ev_lu pg_c64) (fun _ => false) _ 1293 10 [some (.ref 6), some (.int 0), some (.int 35)] [] σ
    refine ⟨md_at0 hp ⟨4, by decide, by decide, rfl⟩ 2 (by decide) rfl, ?_⟩
    rintro _ _ ⟨rfl, rfl⟩
    change ev_wp pg_F pg_lay none [] (ev_lu pg_c64) (fun _ => false) _ 1286 20 [some (.ref 6), some (.int 0), some (.int 35)] [.int 0, .int 0] σ
    refine ⟨fun h => absurd h (by decide), fun _ => ?_⟩
    change ev_wp pg_F pg_lay none [] (ev_lu pg_c64) (fun _ => false) _ 1273 10 [some (.ref 6), some (.int 0), some (.int 36)] [] σ
    refine ⟨md_at0 hp ⟨4, by decide, by decide, rfl⟩ 2 (by decide) rfl, ?_⟩
    rintro _ _ ⟨rfl, rfl⟩
    change ev_wp pg_F pg_lay none [] (ev_lu pg_c64) (fun _ => false) _ 1266 20 [some (.ref 6), some (.int 0), some (.int 36)] [.int 0, .int 0] σ
    refine ⟨fun h => absurd h (by decide), fun _ => ?_⟩
    change ev_wp pg_F pg_lay none [] (ev_lu pg_c64) (fun _ => false) _ 1253 10 [some (.ref 6), some (.int 0), some (.int 37)] [] σ
    refine ⟨md_at0 hp ⟨4, by decide, by decide, rfl⟩ 2 (by decide) rfl, ?_⟩
    rintro _ _ ⟨rfl, rfl⟩
    change ev_wp pg_F pg_lay none [] (ev_lu pg_c64) (fun _ => false) _ 1246 20 [some (.ref 6), some (.int 0), some (.int 37)] [.int 0, .int 0] σ
    refine ⟨fun h => absurd h (by decide), fun _ => ?_⟩
    change ev_wp pg_F pg_lay none [] (ev_lu pg_c64) (fun _ => false) _ 1233 10 [some (.ref 6), some (.int 0), some (.int 38)] [] σ
    refine ⟨md_at0 hp ⟨4, by decide, by decide, rfl⟩ 2 (by decide) rfl, ?_⟩
    rintro _ _ ⟨rfl, rfl⟩
    change ev_wp pg_F pg_lay none [] (ev_lu pg_c64) (fun _ => false) _ 1226 20 [some (.ref 6), some (.int 0), some (.int 38)] [.int 0, .int 0] σ
    refine ⟨fun h => absurd h (by decide), fun _ => ?_⟩
    change ev_wp pg_F pg_lay none [] (ev_lu pg_c64) (fun _ => false) _ 1213 10 [some (.ref 6), some (.int 0), some (.int 39)] [] σ
    refine ⟨md_at0 hp ⟨4, by decide, by decide, rfl⟩ 2 (by decide) rfl, ?_⟩
    rintro _ _ ⟨rfl, rfl⟩
    change ev_wp pg_F pg_lay none [] (ev_lu pg_c64) (fun _ => false) _ 1206 20 [some (.ref 6), some (.int 0), some (.int 39)] [.int 0, .int 0] σ
    refine ⟨fun h => absurd h (by decide), fun _ => ?_⟩
    change ev_wp pg_F pg_lay none [] (ev_lu pg_c64) (fun _ => false) _ 1193 10 [some (.ref 6), some (.int 0), some (.int 40)] [] σ
    refine ⟨md_at0 hp ⟨4, by decide, by decide, rfl⟩ 2 (by decide) rfl, ?_⟩
    rintro _ _ ⟨rfl, rfl⟩
    change ev_wp pg_F pg_lay none [] (ev_lu pg_c64) (fun _ => false) _ 1186 20 [some (.ref 6), some (.int 0), some (.int 40)] [.int 0, .int 0] σ
    refine ⟨fun h => absurd h (by decide), fun _ => ?_⟩
    change ev_wp pg_F pg_lay none [] (ev_lu pg_c64) (fun _ => false) _ 1173 10 [some (.ref 6), some (.int 0), some (.int 41)] [] σ
    refine ⟨md_at0 hp ⟨4, by decide, by decide, rfl⟩ 2 (by decide) rfl, ?_⟩
    rintro _ _ ⟨rfl, rfl⟩
    change ev_wp pg_F pg_lay none [] (ev_lu pg_c64) (fun _ => false) _ 1166 20 [some (.ref 6), some (.int 0), some (.int 41)] [.int 0, .int 0] σ
    refine ⟨fun h => absurd h (by decide), fun _ => ?_⟩
    change ev_wp pg_F pg_lay none [] (ev_lu pg_c64) (fun _ => false) _ 1153 10 [some (.ref 6), some (.int 0), some (.int 42)] [] σ
    refine ⟨md_at0 hp ⟨4, by decide, by decide, rfl⟩ 2 (by decide) rfl, ?_⟩
    rintro _ _ ⟨rfl, rfl⟩
    change ev_wp pg_F pg_lay none [] (ev_lu pg_c64) (fun _ => false) _ 1146 20 [some (.ref 6), some (.int 0), some (.int 42)] [.int 0, .int 0] σ
    refine ⟨fun h => absurd h (by decide), fun _ => ?_⟩
    change ev_wp pg_F pg_lay none [] (ev_lu pg_c64) (fun _ => false) _ 1133 10 [some (.ref 6), some (.int 0), some (.int 43)] [] σ
    refine ⟨md_at0 hp ⟨4, by decide, by decide, rfl⟩ 2 (by decide) rfl, ?_⟩
    rintro _ _ ⟨rfl, rfl⟩
    change ev_wp pg_F pg_lay none [] (ev_lu pg_c64) (fun _ => false) _ 1126 20 [some (.ref 6), some (.int 0), some (.int 43)] [.int 0, .int 0] σ
    refine ⟨fun h => absurd h (by decide), fun _ => ?_⟩
    change ev_wp pg_F pg_lay none [] (ev_lu pg_c64) (fun _ => false) _ 1113 10 [some (.ref 6), some (.int 0), some (.int 44)] [] σ
    refine ⟨md_at0 hp ⟨4, by decide, by decide, rfl⟩ 2 (by decide) rfl, ?_⟩
    rintro _ _ ⟨rfl, rfl⟩
    change ev_wp pg_F pg_lay none [] (ev_lu pg_c64) (fun _ => false) _ 1106 20 [some (.ref 6), some (.int 0), some (.int 44)] [.int 0, .int 0] σ
    refine ⟨fun h => absurd h (by decide), fun _ => ?_⟩
    change ev_wp pg_F pg_lay none [] (ev_lu pg_c64) (fun _ => false) _ 1093 10 [some (.ref 6), some (.int 0), some (.int 45)] [] σ
    refine ⟨md_at0 hp ⟨4, by decide, by decide, rfl⟩ 2 (by decide) rfl, ?_⟩
    rintro _ _ ⟨rfl, rfl⟩
    change ev_wp pg_F pg_lay none [] (ev_lu pg_c64) (fun _ => false) _ 1086 20 [some (.ref 6), some (.int 0), some (.int 45)] [.int 0, .int 0] σ
    refine ⟨fun h => absurd h (by decide), fun _ => ?_⟩
    change ev_wp pg_F pg_lay none [] (ev_lu pg_c64) (fun _ => false) _ 1073 10 [some (.ref 6), some (.int 0), some (.int 46)] [] σ
    refine ⟨md_at0 hp ⟨4, by decide, by decide, rfl⟩ 2 (by decide) rfl, ?_⟩
    rintro _ _ ⟨rfl, rfl⟩
    change ev_wp pg_F pg_lay none [] (ev_lu pg_c64) (fun _ => false) _ 1066 20 [some (.ref 6), some (.int 0), some (.int 46)] [.int 0, .int 0] σ
    refine ⟨fun h => absurd h (by decide), fun _ => ?_⟩
    change ev_wp pg_F pg_lay none [] (ev_lu pg_c64) (fun _ => false) _ 1053 10 [some (.ref 6), some (.int 0), some (.int 47)] [] σ
    refine ⟨md_at0 hp ⟨4, by decide, by decide, rfl⟩ 2 (by decide) rfl, ?_⟩
    rintro _ _ ⟨rfl, rfl⟩
    change ev_wp pg_F pg_lay none [] (ev_lu pg_c64) (fun _ => false) _ 1046 20 [some (.ref 6), some (.int 0), some (.int 47)] [.int 0, .int 0] σ
    refine ⟨fun h => absurd h (by decide), fun _ => ?_⟩
    change ev_wp pg_F pg_lay none [] (ev_lu pg_c64) (fun _ => false) _ 1033 10 [some (.ref 6), some (.int 0), some (.int 48)] [] σ
    refine ⟨md_at0 hp ⟨4, by decide, by decide, rfl⟩ 3 (by decide) rfl, ?_⟩
    rintro _ _ ⟨rfl, rfl⟩
    change ev_wp pg_F pg_lay none [] (ev_lu pg_c64) (fun _ => false) _ 1026 20 [some (.ref 6), some (.int 0), some (.int 48)] [.int 0, .int 0] σ
    refine ⟨fun h => absurd h (by decide), fun _ => ?_⟩
    change ev_wp pg_F pg_lay none [] (ev_lu pg_c64) (fun _ => false) _ 1013 10 [some (.ref 6), some (.int 0), some (.int 49)] [] σ
    refine ⟨md_at0 hp ⟨4, by decide, by decide, rfl⟩ 3 (by decide) rfl, ?_⟩
    rintro _ _ ⟨rfl, rfl⟩
    change ev_wp pg_F pg_lay none [] (ev_lu pg_c64) (fun _ => false) _ 1006 20 [some (.ref 6), some (.int 0), some (.int 49)] [.int 0, .int 0] σ
    refine ⟨fun h => absurd h (by decide), fun _ => ?_⟩
    change ev_wp pg_F pg_lay none [] (ev_lu pg_c64) (fun _ => false) _ 993 10 [some (.ref 6), some (.int 0), some (.int 50)] [] σ
    refine ⟨md_at0 hp ⟨4, by decide, by decide, rfl⟩ 3 (by decide) rfl, ?_⟩
    rintro _ _ ⟨rfl, rfl⟩
    change ev_wp pg_F pg_lay none [] (ev_lu pg_c64) (fun _ => false) _ 986 20 [some (.ref 6), some (.int 0), some (.int 50)] [.int 0, .int 0] σ
    refine ⟨fun h => absurd h (by decide), fun _ => ?_⟩
    change ev_wp pg_F pg_lay none [] (ev_lu pg_c64) (fun _ => false) _ 973 10 [some (.ref 6), some (.int 0), some (.int 51)] [] σ
    refine ⟨md_at0 hp ⟨4, by decide, by decide, rfl⟩ 3 (by decide) rfl, ?_⟩
    rintro _ _ ⟨rfl, rfl⟩
    change ev_wp pg_F pg_lay none [] (ev_lu pg_c64) (fun _ => false) _ 966 20 [some (.ref 6), some (.int 0), some (.int 51)] [.int 0, .int 0] σ
    refine ⟨fun h => absurd h (by decide), fun _ => ?_⟩
    change ev_wp pg_F pg_lay none [] (ev_lu pg_c64) (fun _ => false) _ 953 10 [some (.ref 6), some (.int 0), some (.int 52)] [] σ
    refine ⟨md_at0 hp ⟨4, by decide, by decide, rfl⟩ 3 (by decide) rfl, ?_⟩
    rintro _ _ ⟨rfl, rfl⟩
    change ev_wp pg_F pg_lay none [] (ev_lu pg_c64) (fun _ => false) _ 946 20 [some (.ref 6), some (.int 0), some (.int 52)] [.int 0, .int 0] σ
    refine ⟨fun h => absurd h (by decide), fun _ => ?_⟩
    change ev_wp pg_F pg_lay none [] (ev_lu pg_c64) (fun _ => false) _ 933 10 [some (.ref 6), some (.int 0), some (.int 53)] [] σ
    refine ⟨md_at0 hp ⟨4, by decide, by decide, rfl⟩ 3 (by decide) rfl, ?_⟩
    rintro _ _ ⟨rfl, rfl⟩
    change ev_wp pg_F pg_lay none [] (ev_lu pg_c64) (fun _ => false) _ 926 20 [some (.ref 6), some (.int 0), some (.int 53)] [.int 0, .int 0] σ
    refine ⟨fun h => absurd h (by decide), fun _ => ?_⟩
    change ev_wp pg_F pg_lay none [] (ev_lu pg_c64) (fun _ => false) _ 913 10 [some (.ref 6), some (.int 0), some (.int 54)] [] σ
    refine ⟨md_at0 hp ⟨4, by decide, by decide, rfl⟩ 3 (by decide) rfl, ?_⟩
    rintro _ _ ⟨rfl, rfl⟩
    change ev_wp pg_F pg_lay none [] (ev_lu pg_c64) (fun _ => false) _ 906 20 [some (.ref 6), some (.int 0), some (.int 54)] [.int 0, .int 0] σ
    refine ⟨fun h => absurd h (by decide), fun _ => ?_⟩
    change ev_wp pg_F pg_lay none [] (ev_lu pg_c64) (fun _ => false) _ 893 10 [some (.ref 6), some (.int 0), some (.int 55)] [] σ
    refine ⟨md_at0 hp ⟨4, by decide, by decide, rfl⟩ 3 (by decide) rfl, ?_⟩
    rintro _ _ ⟨rfl, rfl⟩
    change ev_wp pg_F pg_lay none [] (ev_lu pg_c64) (fun _ => false) _ 886 20 [some (.ref 6), some (.int 0), some (.int 55)] [.int 0, .int 0] σ
    refine ⟨fun h => absurd h (by decide), fun _ => ?_⟩
    change ev_wp pg_F pg_lay none [] (ev_lu pg_c64) (fun _ => false) _ 873 10 [some (.ref 6), some (.int 0), some (.int 56)] [] σ
    refine ⟨md_at0 hp ⟨4, by decide, by decide, rfl⟩ 3 (by decide) rfl, ?_⟩
    rintro _ _ ⟨rfl, rfl⟩
    change ev_wp pg_F pg_lay none [] (ev_lu pg_c64) (fun _ => false) _ 866 20 [some (.ref 6), some (.int 0), some (.int 56)] [.int 0, .int 0] σ
    refine ⟨fun h => absurd h (by decide), fun _ => ?_⟩
    change ev_wp pg_F pg_lay none [] (ev_lu pg_c64) (fun _ => false) _ 853 10 [some (.ref 6), some (.int 0), some (.int 57)] [] σ
    refine ⟨md_at0 hp ⟨4, by decide, by decide, rfl⟩ 3 (by decide) rfl, ?_⟩
    rintro _ _ ⟨rfl, rfl⟩
    change ev_wp pg_F pg_lay none [] (ev_lu pg_c64) (fun _ => false) _ 846 20 [some (.ref 6), some (.int 0), some (.int 57)] [.int 0, .int 0] σ
    refine ⟨fun h => absurd h (by decide), fun _ => ?_⟩
    change ev_wp pg_F pg_lay none [] (ev_lu pg_c64) (fun _ => false) _ 833 10 [some (.ref 6), some (.int 0), some (.int 58)] [] σ
    refine ⟨md_at0 hp ⟨4, by decide, by decide, rfl⟩ 3 (by decide) rfl, ?_⟩
    rintro _ _ ⟨rfl, rfl⟩
    change ev_wp pg_F pg_lay none [] (ev_lu pg_c64) (fun _ => false) _ 826 20 [some (.ref 6), some (.int 0), some (.int 58)] [.int 0, .int 0] σ
    refine ⟨fun h => absurd h (by decide), fun _ => ?_⟩
    change ev_wp pg_F pg_lay none [] (ev_lu pg_c64) (fun _ => false) _ 813 10 [some (.ref 6), some (.int 0), some (.int 59)] [] σ
    refine ⟨md_at0 hp ⟨4, by decide, by decide, rfl⟩ 3 (by decide) rfl, ?_⟩
    rintro _ _ ⟨rfl, rfl⟩
    change ev_wp pg_F pg_lay none [] (ev_lu pg_c64) (fun _ => false) _ 806 20 [some (.ref 6), some (.int 0), some (.int 59)] [.int 0, .int 0] σ
    refine ⟨fun h => absurd h (by decide), fun _ => ?_⟩
    change ev_wp pg_F pg_lay none [] (ev_lu pg_c64) (fun _ => false) _ 793 10 [some (.ref 6), some (.int 0), some (.int 60)] [] σ
    refine ⟨md_at0 hp ⟨4, by decide, by decide, rfl⟩ 3 (by decide) rfl, ?_⟩
    rintro _ _ ⟨rfl, rfl⟩
    change ev_wp pg_F pg_lay none [] (ev_lu pg_c64) (fun _ => false) _ 786 20 [some (.ref 6), some (.int 0), some (.int 60)] [.int 0, .int 0] σ
    refine ⟨fun h => absurd h (by decide), fun _ => ?_⟩
    change ev_wp pg_F pg_lay none [] (ev_lu pg_c64) (fun _ => false) _ 773 10 [some (.ref 6), some (.int 0), some (.int 61)] [] σ
    refine ⟨md_at0 hp ⟨4, by decide, by decide, rfl⟩ 3 (by decide) rfl, ?_⟩
    rintro _ _ ⟨rfl, rfl⟩
    change ev_wp pg_F pg_lay none [] (ev_lu pg_c64) (fun _ => false) _ 766 20 [some (.ref 6), some (.int 0), some (.int 61)] [.int 0, .int 0] σ
    refine ⟨fun h => absurd h (by decide), fun _ => ?_⟩
    change ev_wp pg_F pg_lay none [] (ev_lu pg_c64) (fun _ => false) _ 753 10 [some (.ref 6), some (.int 0), some (.int 62)] [] σ
    refine ⟨md_at0 hp ⟨4, by decide, by decide, rfl⟩ 3 (by decide) rfl, ?_⟩
    rintro _ _ ⟨rfl, rfl⟩
    change ev_wp pg_F pg_lay none [] (ev_lu pg_c64) (fun _ => false) _ 746 20 [some (.ref 6), some (.int 0), some (.int 62)] [.int 0, .int 0] σ
    refine ⟨fun h => absurd h (by decide), fun _ => ?_⟩
    change ev_wp pg_F pg_lay none [] (ev_lu pg_c64) (fun _ => false) _ 733 10 [some (.ref 6), some (.int 0), some (.int 63)] [] σ
    refine ⟨md_at0 hp ⟨4, by decide, by decide, rfl⟩ 3 (by decide) rfl, ?_⟩
    rintro _ _ ⟨rfl, rfl⟩
    change ev_wp pg_F pg_lay none [] (ev_lu pg_c64) (fun _ => false) _ 726 20 [some (.ref 6), some (.int 0), some (.int 63)] [.int 0, .int 0] σ
    refine ⟨fun _ => ?_, fun h => absurd (by decide) h⟩
    change ev_wp pg_F pg_lay none [] (ev_lu pg_c64) (fun _ => false) _ 713 35 [some (.ref 6), some (.int 0), some (.int 64)] [] σ
    exact ⟨_, rfl, Nat.le_refl _, rfl, rfl⟩
  · cases h
theorem pr_112 : pg_Rn pg_F 112 pg_y112 [] pg_t112 := by
  intro vs σ P h hp
  replace h : pf_112 vs σ = some P := h
  unfold pf_112 at h
  split at h
  · cases h
    refine ⟨by simp [Value.category], Nat.le_of_ble_eq_true rfl, ev_go pg_hhs pg_cd pg_o112 (fun _ => false) 2000 (Q1 := ev_at (ev_tl pg_t112) σ.2.2 ((md_z4 σ, (sp_e (-1) σ).2)).2) ?_ (fun _ _ _ _ h => ev_fin h)⟩
    change ev_wp pg_F pg_lay none [] (ev_lu pg_c112) (fun _ => false) _ 2000 0 [some (.ref 6), none, none] [] σ
    refine ⟨⟨hp, ⟨41, by decide, by decide, rfl⟩, ⟨43, by decide, by decide, rfl⟩⟩, ?_⟩
    rintro _ _ ⟨rfl, rfl⟩
    change ev_wp pg_F pg_lay none [] (ev_lu pg_c112) (fun _ => false) _ 1997 6 [some (.ref 6), none, none] [.int (-1)] σ
    refine ⟨fun _ => ?_, fun h => absurd (by decide) h⟩
    change ev_wp pg_F pg_lay none [] (ev_lu pg_c112) (fun _ => false) _ 1994 19 [some (.ref 6), some (.int (-1)), none] [] σ
    exact ⟨_, rfl, Nat.le_refl _, rfl, rfl⟩
  · cases h
theorem pr_22 : pg_Rn pg_F 22 pg_y22 [] pg_t22 := by
  intro vs σ P h hp
  replace h : pf_22 vs σ = some P := h
  unfold pf_22 at h
  split at h
  · rename_i c x
    cases h
    refine ⟨by simp [Value.category], Nat.le_of_ble_eq_true rfl, ev_go pg_hhs pg_cd pg_o22 (fun _ => false) 2000 (Q1 := ev_at (ev_tl pg_t22) σ.2.2 (sp_m (sp_b x) (fun v σ' => v = x ∧ σ' = ev_up σ 6 0 (if x = 0 then 0 else c))).2) ?_ (fun _ _ _ _ h => ev_fin h)⟩
    change ev_wp pg_F pg_lay none [] (ev_lu pg_c22) (fun _ => false) _ 2000 0 [some (.ref 6), some (.int c), some (.int x)] [] σ
    refine ⟨fun (h1 : x = 0) => ?_, fun (h1 : ¬ x = 0) => ?_⟩
    · skip
      change ev_wp pg_F pg_lay none [] (ev_lu pg_c22) (fun _ => false) _ 1997 9 [some (.ref 6), some (.int c), some (.int x)] [.ref 6] σ
      exact ⟨_, rfl, hp, Nat.le_refl _, _, ⟨rfl, by rw [if_pos h1]⟩, rfl⟩
    · skip
      change ev_wp pg_F pg_lay none [] (ev_lu pg_c22) (fun _ => false) _ 1997 5 [some (.ref 6), some (.int c), some (.int x)] [.ref 6] σ
      exact ⟨_, rfl, hp, Nat.le_refl _, _, ⟨rfl, by rw [if_neg h1]⟩, rfl⟩
  · cases h
theorem pr_61 : pg_Rn pg_F 61 pg_y61 [] pg_t61 := by
  intro vs σ P h hp
  replace h : pf_61 vs σ = some P := h
  unfold pf_61 at h
  split at h
  · rename_i k a b c
    cases h
    refine ⟨by simp [Value.category], Nat.le_of_ble_eq_true rfl, ev_go pg_hhs pg_cd pg_o61 (fun _ => false) 2000 (Q1 := ev_at (ev_tl pg_t61) σ.2.2 (sp_e (sp_prod k a b c) σ).2) ?_ (fun _ _ _ _ h => ev_fin h)⟩
    change ev_wp pg_F pg_lay none [] (ev_lu pg_c61) (fun _ => false) _ 2000 0 [some (.ref 6), some (.int k), some (.int a), some (.int b), some (.int c), none] [] σ
    refine ⟨trivial, ?_⟩
    rintro _ _ ⟨rfl, rfl⟩
    change ev_wp pg_F pg_lay none [] (ev_lu pg_c61) (fun _ => false) _ 1996 7 [some (.ref 6), some (.int k), some (.int a), some (.int b), some (.int c), none] [.int (sp_upto a 65535)] σ
    refine ⟨fun (h1 : (sp_upto a 65535) = 0) => ?_, fun (h1 : ¬ (sp_upto a 65535) = 0) => ?_⟩
    · skip
      change ev_wp pg_F pg_lay none [] (ev_lu pg_c61) (fun _ => false) _ 1995 35 [some (.ref 6), some (.int k), some (.int a), some (.int b), some (.int c), none] [] σ
      refine ⟨fun (h2 : k = 1) => ?_, fun (h2 : ¬ k = 1) => ?_⟩
      · skip
        change ev_wp pg_F pg_lay none [] (ev_lu pg_c61) (fun _ => false) _ 1990 43 [some (.ref 6), some (.int k), some (.int a), some (.int b), some (.int c), some (.int 0)] [] σ
        refine ⟨fun _ => ?_, fun h => absurd (by decide) h⟩
        change ev_wp pg_F pg_lay none [] (ev_lu pg_c61) (fun _ => false) _ 1988 71 [some (.ref 6), some (.int k), some (.int a), some (.int b), some (.int c), some (.int 0)] [] σ
        exact ⟨_, rfl, by first | exact Or.inl rfl | exact Or.inr rfl, Nat.le_refl _, congrArg (fun z => Sum.inl (some (Value.int z))) (Eq.trans (b := md_prod k a b c) (by unfold md_prod; rw [if_pos h1]) (md_prod_eq k a b c)), rfl⟩
      · skip
        change ev_wp pg_F pg_lay none [] (ev_lu pg_c61) (fun _ => false) _ 1990 73 [some (.ref 6), some (.int k), some (.int a), some (.int b), some (.int c), some (.int 0)] [] σ
        refine ⟨fun (h3 : k = 2) => ?_, fun (h3 : ¬ k = 2) => ?_⟩
        · skip
          change ev_wp pg_F pg_lay none [] (ev_lu pg_c61) (fun _ => false) _ 1987 78 [some (.ref 6), some (.int k), some (.int a), some (.int b), some (.int c), some (.int 0)] [] σ
          refine ⟨fun _ => ?_, fun h => absurd (by decide) h⟩
          change ev_wp pg_F pg_lay none [] (ev_lu pg_c61) (fun _ => false) _ 1985 97 [some (.ref 6), some (.int k), some (.int a), some (.int b), some (.int c), some (.int 0)] [] σ
          exact ⟨_, rfl, by first | exact Or.inl rfl | exact Or.inr rfl, Nat.le_refl _, congrArg (fun z => Sum.inl (some (Value.int z))) (Eq.trans (b := md_prod k a b c) (by unfold md_prod; rw [if_pos h1]) (md_prod_eq k a b c)), rfl⟩
        · skip
          change ev_wp pg_F pg_lay none [] (ev_lu pg_c61) (fun _ => false) _ 1987 99 [some (.ref 6), some (.int k), some (.int a), some (.int b), some (.int c), some (.int 0)] [] σ
          refine ⟨fun (h4 : k = 3) => ?_, fun (h4 : ¬ k = 3) => ?_⟩
          · skip
            change ev_wp pg_F pg_lay none [] (ev_lu pg_c61) (fun _ => false) _ 1984 104 [some (.ref 6), some (.int k), some (.int a), some (.int b), some (.int c), some (.int 0)] [] σ
            refine ⟨fun _ => ?_, fun h => absurd (by decide) h⟩
            change ev_wp pg_F pg_lay none [] (ev_lu pg_c61) (fun _ => false) _ 1982 118 [some (.ref 6), some (.int k), some (.int a), some (.int b), some (.int c), some (.int 0)] [] σ
            exact ⟨_, rfl, by first | exact Or.inl rfl | exact Or.inr rfl, Nat.le_refl _, congrArg (fun z => Sum.inl (some (Value.int z))) (Eq.trans (b := md_prod k a b c) (by unfold md_prod; rw [if_pos h1]) (md_prod_eq k a b c)), rfl⟩
          · skip
            change ev_wp pg_F pg_lay none [] (ev_lu pg_c61) (fun _ => false) _ 1984 118 [some (.ref 6), some (.int k), some (.int a), some (.int b), some (.int c), some (.int 0)] [] σ
            exact ⟨_, rfl, by first | exact Or.inl rfl | exact Or.inr rfl, Nat.le_refl _, congrArg (fun z => Sum.inl (some (Value.int z))) (Eq.trans (b := md_prod k a b c) (by unfold md_prod; rw [if_pos h1]) (md_prod_eq k a b c)), rfl⟩
    · skip
      change ev_wp pg_F pg_lay none [] (ev_lu pg_c61) (fun _ => false) _ 1995 10 [some (.ref 6), some (.int k), some (.int a), some (.int b), some (.int c), none] [] σ
      refine ⟨trivial, ?_⟩
      rintro _ _ ⟨rfl, rfl⟩
      change ev_wp pg_F pg_lay none [] (ev_lu pg_c61) (fun _ => false) _ 1991 17 [some (.ref 6), some (.int k), some (.int a), some (.int b), some (.int c), none] [.int (sp_upto b 65535)] σ
      refine ⟨fun (h5 : (sp_upto b 65535) = 0) => ?_, fun (h5 : ¬ (sp_upto b 65535) = 0) => ?_⟩
      · skip
        change ev_wp pg_F pg_lay none [] (ev_lu pg_c61) (fun _ => false) _ 1990 35 [some (.ref 6), some (.int k), some (.int a), some (.int b), some (.int c), none] [] σ
        refine ⟨fun (h6 : k = 1) => ?_, fun (h6 : ¬ k = 1) => ?_⟩
        · skip
          change ev_wp pg_F pg_lay none [] (ev_lu pg_c61) (fun _ => false) _ 1985 43 [some (.ref 6), some (.int k), some (.int a), some (.int b), some (.int c), some (.int 0)] [] σ
          refine ⟨fun _ => ?_, fun h => absurd (by decide) h⟩
          change ev_wp pg_F pg_lay none [] (ev_lu pg_c61) (fun _ => false) _ 1983 71 [some (.ref 6), some (.int k), some (.int a), some (.int b), some (.int c), some (.int 0)] [] σ
          exact ⟨_, rfl, by first | exact Or.inl rfl | exact Or.inr rfl, Nat.le_refl _, congrArg (fun z => Sum.inl (some (Value.int z))) (Eq.trans (b := md_prod k a b c) (by unfold md_prod; rw [if_neg h1, if_pos h5]) (md_prod_eq k a b c)), rfl⟩
        · skip
          change ev_wp pg_F pg_lay none [] (ev_lu pg_c61) (fun _ => false) _ 1985 73 [some (.ref 6), some (.int k), some (.int a), some (.int b), some (.int c), some (.int 0)] [] σ
          refine ⟨fun (h7 : k = 2) => ?_, fun (h7 : ¬ k = 2) => ?_⟩
          · skip
            change ev_wp pg_F pg_lay none [] (ev_lu pg_c61) (fun _ => false) _ 1982 78 [some (.ref 6), some (.int k), some (.int a), some (.int b), some (.int c), some (.int 0)] [] σ
            refine ⟨fun _ => ?_, fun h => absurd (by decide) h⟩
            change ev_wp pg_F pg_lay none [] (ev_lu pg_c61) (fun _ => false) _ 1980 97 [some (.ref 6), some (.int k), some (.int a), some (.int b), some (.int c), some (.int 0)] [] σ
            exact ⟨_, rfl, by first | exact Or.inl rfl | exact Or.inr rfl, Nat.le_refl _, congrArg (fun z => Sum.inl (some (Value.int z))) (Eq.trans (b := md_prod k a b c) (by unfold md_prod; rw [if_neg h1, if_pos h5]) (md_prod_eq k a b c)), rfl⟩
          · skip
            change ev_wp pg_F pg_lay none [] (ev_lu pg_c61) (fun _ => false) _ 1982 99 [some (.ref 6), some (.int k), some (.int a), some (.int b), some (.int c), some (.int 0)] [] σ
            refine ⟨fun (h8 : k = 3) => ?_, fun (h8 : ¬ k = 3) => ?_⟩
            · skip
              change ev_wp pg_F pg_lay none [] (ev_lu pg_c61) (fun _ => false) _ 1979 104 [some (.ref 6), some (.int k), some (.int a), some (.int b), some (.int c), some (.int 0)] [] σ
              refine ⟨fun _ => ?_, fun h => absurd (by decide) h⟩
              change ev_wp pg_F pg_lay none [] (ev_lu pg_c61) (fun _ => false) _ 1977 118 [some (.ref 6), some (.int k), some (.int a), some (.int b), some (.int c), some (.int 0)] [] σ
              exact ⟨_, rfl, by first | exact Or.inl rfl | exact Or.inr rfl, Nat.le_refl _, congrArg (fun z => Sum.inl (some (Value.int z))) (Eq.trans (b := md_prod k a b c) (by unfold md_prod; rw [if_neg h1, if_pos h5]) (md_prod_eq k a b c)), rfl⟩
            · skip
              change ev_wp pg_F pg_lay none [] (ev_lu pg_c61) (fun _ => false) _ 1979 118 [some (.ref 6), some (.int k), some (.int a), some (.int b), some (.int c), some (.int 0)] [] σ
              exact ⟨_, rfl, by first | exact Or.inl rfl | exact Or.inr rfl, Nat.le_refl _, congrArg (fun z => Sum.inl (some (Value.int z))) (Eq.trans (b := md_prod k a b c) (by unfold md_prod; rw [if_neg h1, if_pos h5]) (md_prod_eq k a b c)), rfl⟩
      · skip
        change ev_wp pg_F pg_lay none [] (ev_lu pg_c61) (fun _ => false) _ 1990 20 [some (.ref 6), some (.int k), some (.int a), some (.int b), some (.int c), none] [] σ
        refine ⟨trivial, ?_⟩
        rintro _ _ ⟨rfl, rfl⟩
        change ev_wp pg_F pg_lay none [] (ev_lu pg_c61) (fun _ => false) _ 1986 28 [some (.ref 6), some (.int k), some (.int a), some (.int b), some (.int c), none] [.int (sp_upto c 65535)] σ
        refine ⟨fun (h9 : (sp_upto c 65535) = 0) => ?_, fun (h9 : ¬ (sp_upto c 65535) = 0) => ?_⟩
        · skip
          change ev_wp pg_F pg_lay none [] (ev_lu pg_c61) (fun _ => false) _ 1985 35 [some (.ref 6), some (.int k), some (.int a), some (.int b), some (.int c), none] [] σ
          refine ⟨fun (h10 : k = 1) => ?_, fun (h10 : ¬ k = 1) => ?_⟩
          · skip
            change ev_wp pg_F pg_lay none [] (ev_lu pg_c61) (fun _ => false) _ 1980 43 [some (.ref 6), some (.int k), some (.int a), some (.int b), some (.int c), some (.int 0)] [] σ
            refine ⟨fun _ => ?_, fun h => absurd (by decide) h⟩
            change ev_wp pg_F pg_lay none [] (ev_lu pg_c61) (fun _ => false) _ 1978 71 [some (.ref 6), some (.int k), some (.int a), some (.int b), some (.int c), some (.int 0)] [] σ
            exact ⟨_, rfl, by first | exact Or.inl rfl | exact Or.inr rfl, Nat.le_refl _, congrArg (fun z => Sum.inl (some (Value.int z))) (Eq.trans (b := md_prod k a b c) (by unfold md_prod; rw [if_neg h1, if_neg h5, if_pos h9]) (md_prod_eq k a b c)), rfl⟩
          · skip
            change ev_wp pg_F pg_lay none [] (ev_lu pg_c61) (fun _ => false) _ 1980 73 [some (.ref 6), some (.int k), some (.int a), some (.int b), some (.int c), some (.int 0)] [] σ
            refine ⟨fun (h11 : k = 2) => ?_, fun (h11 : ¬ k = 2) => ?_⟩
            · skip
              change ev_wp pg_F pg_lay none [] (ev_lu pg_c61) (fun _ => false) _ 1977 78 [some (.ref 6), some (.int k), some (.int a), some (.int b), some (.int c), some (.int 0)] [] σ
              refine ⟨fun _ => ?_, fun h => absurd (by decide) h⟩
              change ev_wp pg_F pg_lay none [] (ev_lu pg_c61) (fun _ => false) _ 1975 97 [some (.ref 6), some (.int k), some (.int a), some (.int b), some (.int c), some (.int 0)] [] σ
              exact ⟨_, rfl, by first | exact Or.inl rfl | exact Or.inr rfl, Nat.le_refl _, congrArg (fun z => Sum.inl (some (Value.int z))) (Eq.trans (b := md_prod k a b c) (by unfold md_prod; rw [if_neg h1, if_neg h5, if_pos h9]) (md_prod_eq k a b c)), rfl⟩
            · skip
              change ev_wp pg_F pg_lay none [] (ev_lu pg_c61) (fun _ => false) _ 1977 99 [some (.ref 6), some (.int k), some (.int a), some (.int b), some (.int c), some (.int 0)] [] σ
              refine ⟨fun (h12 : k = 3) => ?_, fun (h12 : ¬ k = 3) => ?_⟩
              · skip
                change ev_wp pg_F pg_lay none [] (ev_lu pg_c61) (fun _ => false) _ 1974 104 [some (.ref 6), some (.int k), some (.int a), some (.int b), some (.int c), some (.int 0)] [] σ
                refine ⟨fun _ => ?_, fun h => absurd (by decide) h⟩
                change ev_wp pg_F pg_lay none [] (ev_lu pg_c61) (fun _ => false) _ 1972 118 [some (.ref 6), some (.int k), some (.int a), some (.int b), some (.int c), some (.int 0)] [] σ
                exact ⟨_, rfl, by first | exact Or.inl rfl | exact Or.inr rfl, Nat.le_refl _, congrArg (fun z => Sum.inl (some (Value.int z))) (Eq.trans (b := md_prod k a b c) (by unfold md_prod; rw [if_neg h1, if_neg h5, if_pos h9]) (md_prod_eq k a b c)), rfl⟩
              · skip
                change ev_wp pg_F pg_lay none [] (ev_lu pg_c61) (fun _ => false) _ 1974 118 [some (.ref 6), some (.int k), some (.int a), some (.int b), some (.int c), some (.int 0)] [] σ
                exact ⟨_, rfl, by first | exact Or.inl rfl | exact Or.inr rfl, Nat.le_refl _, congrArg (fun z => Sum.inl (some (Value.int z))) (Eq.trans (b := md_prod k a b c) (by unfold md_prod; rw [if_neg h1, if_neg h5, if_pos h9]) (md_prod_eq k a b c)), rfl⟩
        · skip
          change ev_wp pg_F pg_lay none [] (ev_lu pg_c61) (fun _ => false) _ 1985 31 [some (.ref 6), some (.int k), some (.int a), some (.int b), some (.int c), none] [] σ
          refine ⟨fun (h13 : k = 1) => ?_, fun (h13 : ¬ k = 1) => ?_⟩
          · skip
            change ev_wp pg_F pg_lay none [] (ev_lu pg_c61) (fun _ => false) _ 1979 43 [some (.ref 6), some (.int k), some (.int a), some (.int b), some (.int c), some (.int 1)] [] σ
            refine ⟨fun h => absurd h (by decide), fun _ => ?_⟩
            change ev_wp pg_F pg_lay none [] (ev_lu pg_c61) (fun _ => false) _ 1977 48 [some (.ref 6), some (.int k), some (.int a), some (.int b), some (.int c), some (.int 1)] [] σ
            refine ⟨trivial, ?_⟩
            rintro _ _ ⟨rfl, rfl⟩
            change ev_wp pg_F pg_lay none [] (ev_lu pg_c61) (fun _ => false) _ 1973 55 [some (.ref 6), some (.int k), some (.int a), some (.int b), some (.int c), some (.int 1)] [.int (sp_isin a 1 60)] σ
            refine ⟨fun (h14 : (sp_isin a 1 60) = 0) => ?_, fun (h14 : ¬ (sp_isin a 1 60) = 0) => ?_⟩
            · skip
              change ev_wp pg_F pg_lay none [] (ev_lu pg_c61) (fun _ => false) _ 1972 71 [some (.ref 6), some (.int k), some (.int a), some (.int b), some (.int c), some (.int 1)] [] σ
              exact ⟨_, rfl, by first | exact Or.inl rfl | exact Or.inr rfl, Nat.le_refl _, congrArg (fun z => Sum.inl (some (Value.int z))) (Eq.trans (b := md_prod k a b c) (by unfold md_prod; rw [if_neg h1, if_neg h5, if_neg h9, if_pos h13, if_pos h14]) (md_prod_eq k a b c)), rfl⟩
            · skip
              change ev_wp pg_F pg_lay none [] (ev_lu pg_c61) (fun _ => false) _ 1972 58 [some (.ref 6), some (.int k), some (.int a), some (.int b), some (.int c), some (.int 1)] [] σ
              refine ⟨fun (h15 : b = 0) => ?_, fun (h15 : ¬ b = 0) => ?_⟩
              · skip
                change ev_wp pg_F pg_lay none [] (ev_lu pg_c61) (fun _ => false) _ 1970 62 [some (.ref 6), some (.int k), some (.int a), some (.int b), some (.int c), some (.int 1)] [] σ
                refine ⟨fun (h16 : c = 0) => ?_, fun (h16 : ¬ c = 0) => ?_⟩
                · skip
                  change ev_wp pg_F pg_lay none [] (ev_lu pg_c61) (fun _ => false) _ 1968 67 [some (.ref 6), some (.int k), some (.int a), some (.int b), some (.int c), some (.int 1)] [] σ
                  exact ⟨_, rfl, by first | exact Or.inl rfl | exact Or.inr rfl, Nat.le_refl _, congrArg (fun z => Sum.inl (some (Value.int z))) (Eq.trans (b := md_prod k a b c) (by unfold md_prod; rw [if_neg h1, if_neg h5, if_neg h9, if_pos h13, if_neg h14, if_pos h15, if_pos h16]) (md_prod_eq k a b c)), rfl⟩
                · skip
                  change ev_wp pg_F pg_lay none [] (ev_lu pg_c61) (fun _ => false) _ 1968 71 [some (.ref 6), some (.int k), some (.int a), some (.int b), some (.int c), some (.int 1)] [] σ
                  exact ⟨_, rfl, by first | exact Or.inl rfl | exact Or.inr rfl, Nat.le_refl _, congrArg (fun z => Sum.inl (some (Value.int z))) (Eq.trans (b := md_prod k a b c) (by unfold md_prod; rw [if_neg h1, if_neg h5, if_neg h9, if_pos h13, if_neg h14, if_pos h15, if_neg h16]) (md_prod_eq k a b c)), rfl⟩
              · skip
                change ev_wp pg_F pg_lay none [] (ev_lu pg_c61) (fun _ => false) _ 1970 71 [some (.ref 6), some (.int k), some (.int a), some (.int b), some (.int c), some (.int 1)] [] σ
                exact ⟨_, rfl, by first | exact Or.inl rfl | exact Or.inr rfl, Nat.le_refl _, congrArg (fun z => Sum.inl (some (Value.int z))) (Eq.trans (b := md_prod k a b c) (by unfold md_prod; rw [if_neg h1, if_neg h5, if_neg h9, if_pos h13, if_neg h14, if_neg h15]) (md_prod_eq k a b c)), rfl⟩
          · skip
            change ev_wp pg_F pg_lay none [] (ev_lu pg_c61) (fun _ => false) _ 1979 73 [some (.ref 6), some (.int k), some (.int a), some (.int b), some (.int c), some (.int 1)] [] σ
            refine ⟨fun (h17 : k = 2) => ?_, fun (h17 : ¬ k = 2) => ?_⟩
            · skip
              change ev_wp pg_F pg_lay none [] (ev_lu pg_c61) (fun _ => false) _ 1976 78 [some (.ref 6), some (.int k), some (.int a), some (.int b), some (.int c), some (.int 1)] [] σ
              refine ⟨fun h => absurd h (by decide), fun _ => ?_⟩
              change ev_wp pg_F pg_lay none [] (ev_lu pg_c61) (fun _ => false) _ 1974 83 [some (.ref 6), some (.int k), some (.int a), some (.int b), some (.int c), some (.int 1)] [] σ
              refine ⟨fun (h18 : a ≤ 0) => ?_, fun (h18 : ¬ a ≤ 0) => ?_⟩
              · skip
                change ev_wp pg_F pg_lay none [] (ev_lu pg_c61) (fun _ => false) _ 1972 97 [some (.ref 6), some (.int k), some (.int a), some (.int b), some (.int c), some (.int 1)] [] σ
                exact ⟨_, rfl, by first | exact Or.inl rfl | exact Or.inr rfl, Nat.le_refl _, congrArg (fun z => Sum.inl (some (Value.int z))) (Eq.trans (b := md_prod k a b c) (by unfold md_prod; rw [if_neg h1, if_neg h5, if_neg h9, if_neg h13, if_pos h17, if_pos h18]) (md_prod_eq k a b c)), rfl⟩
              · skip
                change ev_wp pg_F pg_lay none [] (ev_lu pg_c61) (fun _ => false) _ 1972 87 [some (.ref 6), some (.int k), some (.int a), some (.int b), some (.int c), some (.int 1)] [] σ
                refine ⟨fun (h19 : c < b) => ?_, fun (h19 : ¬ c < b) => ?_⟩
                · skip
                  change ev_wp pg_F pg_lay none [] (ev_lu pg_c61) (fun _ => false) _ 1969 97 [some (.ref 6), some (.int k), some (.int a), some (.int b), some (.int c), some (.int 1)] [] σ
                  exact ⟨_, rfl, by first | exact Or.inl rfl | exact Or.inr rfl, Nat.le_refl _, congrArg (fun z => Sum.inl (some (Value.int z))) (Eq.trans (b := md_prod k a b c) (by unfold md_prod; rw [if_neg h1, if_neg h5, if_neg h9, if_neg h13, if_pos h17, if_neg h18, if_pos h19]) (md_prod_eq k a b c)), rfl⟩
                · skip
                  change ev_wp pg_F pg_lay none [] (ev_lu pg_c61) (fun _ => false) _ 1969 93 [some (.ref 6), some (.int k), some (.int a), some (.int b), some (.int c), some (.int 1)] [] σ
                  exact ⟨_, rfl, by first | exact Or.inl rfl | exact Or.inr rfl, Nat.le_refl _, congrArg (fun z => Sum.inl (some (Value.int z))) (Eq.trans (b := md_prod k a b c) (by unfold md_prod; rw [if_neg h1, if_neg h5, if_neg h9, if_neg h13, if_pos h17, if_neg h18, if_neg h19]) (md_prod_eq k a b c)), rfl⟩
            · skip
              change ev_wp pg_F pg_lay none [] (ev_lu pg_c61) (fun _ => false) _ 1976 99 [some (.ref 6), some (.int k), some (.int a), some (.int b), some (.int c), some (.int 1)] [] σ
              refine ⟨fun (h20 : k = 3) => ?_, fun (h20 : ¬ k = 3) => ?_⟩
              · skip
                change ev_wp pg_F pg_lay none [] (ev_lu pg_c61) (fun _ => false) _ 1973 104 [some (.ref 6), some (.int k), some (.int a), some (.int b), some (.int c), some (.int 1)] [] σ
                refine ⟨fun h => absurd h (by decide), fun _ => ?_⟩
                change ev_wp pg_F pg_lay none [] (ev_lu pg_c61) (fun _ => false) _ 1971 109 [some (.ref 6), some (.int k), some (.int a), some (.int b), some (.int c), some (.int 1)] [] σ
                refine ⟨fun (h21 : c = 0) => ?_, fun (h21 : ¬ c = 0) => ?_⟩
                · skip
                  change ev_wp pg_F pg_lay none [] (ev_lu pg_c61) (fun _ => false) _ 1969 114 [some (.ref 6), some (.int k), some (.int a), some (.int b), some (.int c), some (.int 1)] [] σ
                  exact ⟨_, rfl, by first | exact Or.inl rfl | exact Or.inr rfl, Nat.le_refl _, congrArg (fun z => Sum.inl (some (Value.int z))) (Eq.trans (b := md_prod k a b c) (by unfold md_prod; rw [if_neg h1, if_neg h5, if_neg h9, if_neg h13, if_neg h17, if_pos h20, if_pos h21]) (md_prod_eq k a b c)), rfl⟩
                · skip
                  change ev_wp pg_F pg_lay none [] (ev_lu pg_c61) (fun _ => false) _ 1969 118 [some (.ref 6), some (.int k), some (.int a), some (.int b), some (.int c), some (.int 1)] [] σ
                  exact ⟨_, rfl, by first | exact Or.inl rfl | exact Or.inr rfl, Nat.le_refl _, congrArg (fun z => Sum.inl (some (Value.int z))) (Eq.trans (b := md_prod k a b c) (by unfold md_prod; rw [if_neg h1, if_neg h5, if_neg h9, if_neg h13, if_neg h17, if_pos h20, if_neg h21]) (md_prod_eq k a b c)), rfl⟩
              · skip
                change ev_wp pg_F pg_lay none [] (ev_lu pg_c61) (fun _ => false) _ 1973 118 [some (.ref 6), some (.int k), some (.int a), some (.int b), some (.int c), some (.int 1)] [] σ
                exact ⟨_, rfl, by first | exact Or.inl rfl | exact Or.inr rfl, Nat.le_refl _, congrArg (fun z => Sum.inl (some (Value.int z))) (Eq.trans (b := md_prod k a b c) (by unfold md_prod; rw [if_neg h1, if_neg h5, if_neg h9, if_neg h13, if_neg h17, if_neg h20]) (md_prod_eq k a b c)), rfl⟩
  · cases h
theorem pr_32 : pg_Rn pg_F 32 pg_y32 [] pg_t32 := by
  intro vs σ P h hp
  replace h : pf_32 vs σ = some P := h
  unfold pf_32 at h
  split at h
  · rename_i b w v
    cases h
    refine ⟨by simp [Value.category], Nat.le_of_ble_eq_true rfl, ev_go pg_hhs pg_cd pg_o32 (fun _ => false) 2000 (Q1 := ev_at (ev_tl pg_t32) σ.2.2 (sp_v (vp_in (4 * b + w) 256) (fun σ' => md_w (Int32.toNatClampNeg (4 * b + w)) σ σ')).2) ?_ (fun _ _ _ _ h => ev_fin h)⟩
    change ev_wp pg_F pg_lay none [] (ev_lu pg_c32) (fun _ => false) _ 2000 0 [some (.ref 6), some (.int b), some (.int w), some (.int v), none, none] [] σ
    refine ⟨fun (h1 : (σ.1 6 10) = 0) => ?_, fun (h1 : ¬ (σ.1 6 10) = 0) => ?_⟩
    · skip
      change ev_wp pg_F pg_lay none [] (ev_lu pg_c32) (fun _ => false) _ 1997 8 [some (.ref 6), some (.int b), some (.int w), some (.int v), none, none] [] σ
      refine ⟨fun (h2 : b = 4) => ?_, fun (h2 : ¬ b = 4) => ?_⟩
      · skip
        change ev_wp pg_F pg_lay none [] (ev_lu pg_c32) (fun _ => false) _ 1988 20 [some (.ref 6), some (.int b), some (.int w), some (.int v), some (.int ((4 * b) + w)), none] [] σ
        refine ⟨hp, ?_⟩
        change ev_wp pg_F pg_lay none [] (ev_lu pg_c32) (fun _ => false) _ 1984 27 [some (.ref 6), some (.int b), some (.int w), some (.int v), some (.int ((4 * b) + w)), none] [.int (σ.1 7 (Int32.toNatClampNeg ((4 * b) + w)))] σ
        refine ⟨fun (h3 : ((ev_up σ 6 11 ((σ.1 6 11) + 1)).1 6 8) = 0) => ?_, fun (h3 : ¬ ((ev_up σ 6 11 ((σ.1 6 11) + 1)).1 6 8) = 0) => ?_⟩
        · skip
          change ev_wp pg_F pg_lay none [] (ev_lu pg_c32) (fun _ => false) _ 1971 52 [some (.ref 6), some (.int b), some (.int w), some (.int v), some (.int ((4 * b) + w)), some (.int ((σ.1 7 (Int32.toNatClampNeg ((4 * b) + w))) ||| v))] [] (ev_up σ 6 11 ((σ.1 6 11) + 1))
          refine ⟨fun (h4 : b = 4) => ?_, fun (h4 : ¬ b = 4) => ?_⟩
          · skip
            change ev_wp pg_F pg_lay none [] (ev_lu pg_c32) (fun _ => false) _ 1965 63 [some (.ref 6), some (.int b), some (.int w), some (.int v), some (.int ((4 * b) + w)), some (.int ((σ.1 7 (Int32.toNatClampNeg ((4 * b) + w))) ||| v))] [.int ((4 * b) + w), .ref 7] (ev_up σ 6 11 ((σ.1 6 11) + 1))
            refine ⟨hp, ?_⟩
            change ev_wp pg_F pg_lay none [] (ev_lu pg_c32) (fun _ => false) _ 1961 70 [some (.ref 6), some (.int b), some (.int w), some (.int v), some (.int ((4 * b) + w)), some (.int ((σ.1 7 (Int32.toNatClampNeg ((4 * b) + w))) ||| v))] [.int ((ev_up σ 6 11 ((σ.1 6 11) + 1)).1 7 (Int32.toNatClampNeg ((4 * b) + w))), .int ((4 * b) + w), .ref 7] (ev_up σ 6 11 ((σ.1 6 11) + 1))
            refine ⟨hp, ?_⟩
            change ev_wp pg_F pg_lay none [] (ev_lu pg_c32) (fun _ => false) _ 1954 86 [some (.ref 6), some (.int b), some (.int w), some (.int v), some (.int ((4 * b) + w)), some (.int ((σ.1 7 (Int32.toNatClampNeg ((4 * b) + w))) ||| v))] [] (ev_up (ev_up σ 6 11 ((σ.1 6 11) + 1)) 7 (Int32.toNatClampNeg ((4 * b) + w)) (((ev_up σ 6 11 ((σ.1 6 11) + 1)).1 7 (Int32.toNatClampNeg ((4 * b) + w))) ||| (((σ.1 7 (Int32.toNatClampNeg ((4 * b) + w))) ||| v) &&& ((ev_up σ 6 11 ((σ.1 6 11) + 1)).1 6 9))))
            refine ⟨Or.inr rfl, ?_⟩
            change ev_wp pg_F pg_lay none [] (ev_lu pg_c32) (fun _ => false) _ 1951 91 [some (.ref 6), some (.int b), some (.int w), some (.int v), some (.int ((4 * b) + w)), some (.int ((σ.1 7 (Int32.toNatClampNeg ((4 * b) + w))) ||| v))] [] (ev_up (ev_up (ev_up σ 6 11 ((σ.1 6 11) + 1)) 7 (Int32.toNatClampNeg ((4 * b) + w)) (((ev_up σ 6 11 ((σ.1 6 11) + 1)).1 7 (Int32.toNatClampNeg ((4 * b) + w))) ||| (((σ.1 7 (Int32.toNatClampNeg ((4 * b) + w))) ||| v) &&& ((ev_up σ 6 11 ((σ.1 6 11) + 1)).1 6 9)))) 6 10 1)
            exact ⟨rfl, Nat.le_refl _, ⟨fun i hi => by first | rfl | simp [ev_up, upd, hi], rfl, rfl⟩, rfl⟩
          · skip
            change ev_wp pg_F pg_lay none [] (ev_lu pg_c32) (fun _ => false) _ 1965 81 [some (.ref 6), some (.int b), some (.int w), some (.int v), some (.int ((4 * b) + w)), some (.int ((σ.1 7 (Int32.toNatClampNeg ((4 * b) + w))) ||| v))] [.int ((4 * b) + w), .ref 7] (ev_up σ 6 11 ((σ.1 6 11) + 1))
            refine ⟨hp, ?_⟩
            change ev_wp pg_F pg_lay none [] (ev_lu pg_c32) (fun _ => false) _ 1962 86 [some (.ref 6), some (.int b), some (.int w), some (.int v), some (.int ((4 * b) + w)), some (.int ((σ.1 7 (Int32.toNatClampNeg ((4 * b) + w))) ||| v))] [] (ev_up (ev_up σ 6 11 ((σ.1 6 11) + 1)) 7 (Int32.toNatClampNeg ((4 * b) + w)) ((ev_up σ 6 11 ((σ.1 6 11) + 1)).1 6 9))
            refine ⟨Or.inr rfl, ?_⟩
            change ev_wp pg_F pg_lay none [] (ev_lu pg_c32) (fun _ => false) _ 1959 91 [some (.ref 6), some (.int b), some (.int w), some (.int v), some (.int ((4 * b) + w)), some (.int ((σ.1 7 (Int32.toNatClampNeg ((4 * b) + w))) ||| v))] [] (ev_up (ev_up (ev_up σ 6 11 ((σ.1 6 11) + 1)) 7 (Int32.toNatClampNeg ((4 * b) + w)) ((ev_up σ 6 11 ((σ.1 6 11) + 1)).1 6 9)) 6 10 1)
            exact ⟨rfl, Nat.le_refl _, ⟨fun i hi => by first | rfl | simp [ev_up, upd, hi], rfl, rfl⟩, rfl⟩
        · skip
          change ev_wp pg_F pg_lay none [] (ev_lu pg_c32) (fun _ => false) _ 1971 112 [some (.ref 6), some (.int b), some (.int w), some (.int v), some (.int ((4 * b) + w)), some (.int ((σ.1 7 (Int32.toNatClampNeg ((4 * b) + w))) ||| v))] [] (ev_up σ 6 11 ((σ.1 6 11) + 1))
          refine ⟨hp, ?_⟩
          change ev_wp pg_F pg_lay none [] (ev_lu pg_c32) (fun _ => false) _ 1966 121 [some (.ref 6), some (.int b), some (.int w), some (.int v), some (.int ((4 * b) + w)), some (.int ((σ.1 7 (Int32.toNatClampNeg ((4 * b) + w))) ||| v))] [] (ev_up (ev_up σ 6 11 ((σ.1 6 11) + 1)) 7 (Int32.toNatClampNeg ((4 * b) + w)) ((σ.1 7 (Int32.toNatClampNeg ((4 * b) + w))) ||| v))
          refine ⟨fun (h5 : ((ev_up (ev_up σ 6 11 ((σ.1 6 11) + 1)) 7 (Int32.toNatClampNeg ((4 * b) + w)) ((σ.1 7 (Int32.toNatClampNeg ((4 * b) + w))) ||| v)).1 6 8) ≤ 0) => ?_, fun (h5 : ¬ ((ev_up (ev_up σ 6 11 ((σ.1 6 11) + 1)) 7 (Int32.toNatClampNeg ((4 * b) + w)) ((σ.1 7 (Int32.toNatClampNeg ((4 * b) + w))) ||| v)).1 6 8) ≤ 0) => ?_⟩
          · skip
            exact ⟨rfl, Nat.le_refl _, ⟨fun i hi => by first | rfl | simp [ev_up, upd, hi], rfl, rfl⟩, rfl⟩
          · skip
            change ev_wp pg_F pg_lay none [] (ev_lu pg_c32) (fun _ => false) _ 1963 128 [some (.ref 6), some (.int b), some (.int w), some (.int v), some (.int ((4 * b) + w)), some (.int ((σ.1 7 (Int32.toNatClampNeg ((4 * b) + w))) ||| v))] [] (ev_up (ev_up σ 6 11 ((σ.1 6 11) + 1)) 7 (Int32.toNatClampNeg ((4 * b) + w)) ((σ.1 7 (Int32.toNatClampNeg ((4 * b) + w))) ||| v))
            exact ⟨rfl, Nat.le_refl _, ⟨fun i hi => by first | rfl | simp [ev_up, upd, hi], rfl, rfl⟩, rfl⟩
      · skip
        change ev_wp pg_F pg_lay none [] (ev_lu pg_c32) (fun _ => false) _ 1988 32 [some (.ref 6), some (.int b), some (.int w), some (.int v), some (.int ((4 * b) + w)), none] [] σ
        refine ⟨fun (h6 : ((ev_up σ 6 11 ((σ.1 6 11) + 1)).1 6 8) = 0) => ?_, fun (h6 : ¬ ((ev_up σ 6 11 ((σ.1 6 11) + 1)).1 6 8) = 0) => ?_⟩
        · skip
          change ev_wp pg_F pg_lay none [] (ev_lu pg_c32) (fun _ => false) _ 1977 52 [some (.ref 6), some (.int b), some (.int w), some (.int v), some (.int ((4 * b) + w)), some (.int v)] [] (ev_up σ 6 11 ((σ.1 6 11) + 1))
          refine ⟨fun (h7 : b = 4) => ?_, fun (h7 : ¬ b = 4) => ?_⟩
          · skip
            change ev_wp pg_F pg_lay none [] (ev_lu pg_c32) (fun _ => false) _ 1971 63 [some (.ref 6), some (.int b), some (.int w), some (.int v), some (.int ((4 * b) + w)), some (.int v)] [.int ((4 * b) + w), .ref 7] (ev_up σ 6 11 ((σ.1 6 11) + 1))
            refine ⟨hp, ?_⟩
            change ev_wp pg_F pg_lay none [] (ev_lu pg_c32) (fun _ => false) _ 1967 70 [some (.ref 6), some (.int b), some (.int w), some (.int v), some (.int ((4 * b) + w)), some (.int v)] [.int ((ev_up σ 6 11 ((σ.1 6 11) + 1)).1 7 (Int32.toNatClampNeg ((4 * b) + w))), .int ((4 * b) + w), .ref 7] (ev_up σ 6 11 ((σ.1 6 11) + 1))
            refine ⟨hp, ?_⟩
            change ev_wp pg_F pg_lay none [] (ev_lu pg_c32) (fun _ => false) _ 1960 86 [some (.ref 6), some (.int b), some (.int w), some (.int v), some (.int ((4 * b) + w)), some (.int v)] [] (ev_up (ev_up σ 6 11 ((σ.1 6 11) + 1)) 7 (Int32.toNatClampNeg ((4 * b) + w)) (((ev_up σ 6 11 ((σ.1 6 11) + 1)).1 7 (Int32.toNatClampNeg ((4 * b) + w))) ||| (v &&& ((ev_up σ 6 11 ((σ.1 6 11) + 1)).1 6 9))))
            refine ⟨Or.inr rfl, ?_⟩
            change ev_wp pg_F pg_lay none [] (ev_lu pg_c32) (fun _ => false) _ 1957 91 [some (.ref 6), some (.int b), some (.int w), some (.int v), some (.int ((4 * b) + w)), some (.int v)] [] (ev_up (ev_up (ev_up σ 6 11 ((σ.1 6 11) + 1)) 7 (Int32.toNatClampNeg ((4 * b) + w)) (((ev_up σ 6 11 ((σ.1 6 11) + 1)).1 7 (Int32.toNatClampNeg ((4 * b) + w))) ||| (v &&& ((ev_up σ 6 11 ((σ.1 6 11) + 1)).1 6 9)))) 6 10 1)
            exact ⟨rfl, Nat.le_refl _, ⟨fun i hi => by first | rfl | simp [ev_up, upd, hi], rfl, rfl⟩, rfl⟩
          · skip
            change ev_wp pg_F pg_lay none [] (ev_lu pg_c32) (fun _ => false) _ 1971 81 [some (.ref 6), some (.int b), some (.int w), some (.int v), some (.int ((4 * b) + w)), some (.int v)] [.int ((4 * b) + w), .ref 7] (ev_up σ 6 11 ((σ.1 6 11) + 1))
            refine ⟨hp, ?_⟩
            change ev_wp pg_F pg_lay none [] (ev_lu pg_c32) (fun _ => false) _ 1968 86 [some (.ref 6), some (.int b), some (.int w), some (.int v), some (.int ((4 * b) + w)), some (.int v)] [] (ev_up (ev_up σ 6 11 ((σ.1 6 11) + 1)) 7 (Int32.toNatClampNeg ((4 * b) + w)) ((ev_up σ 6 11 ((σ.1 6 11) + 1)).1 6 9))
            refine ⟨Or.inr rfl, ?_⟩
            change ev_wp pg_F pg_lay none [] (ev_lu pg_c32) (fun _ => false) _ 1965 91 [some (.ref 6), some (.int b), some (.int w), some (.int v), some (.int ((4 * b) + w)), some (.int v)] [] (ev_up (ev_up (ev_up σ 6 11 ((σ.1 6 11) + 1)) 7 (Int32.toNatClampNeg ((4 * b) + w)) ((ev_up σ 6 11 ((σ.1 6 11) + 1)).1 6 9)) 6 10 1)
            exact ⟨rfl, Nat.le_refl _, ⟨fun i hi => by first | rfl | simp [ev_up, upd, hi], rfl, rfl⟩, rfl⟩
        · skip
          change ev_wp pg_F pg_lay none [] (ev_lu pg_c32) (fun _ => false) _ 1977 112 [some (.ref 6), some (.int b), some (.int w), some (.int v), some (.int ((4 * b) + w)), some (.int v)] [] (ev_up σ 6 11 ((σ.1 6 11) + 1))
          refine ⟨hp, ?_⟩
          change ev_wp pg_F pg_lay none [] (ev_lu pg_c32) (fun _ => false) _ 1972 121 [some (.ref 6), some (.int b), some (.int w), some (.int v), some (.int ((4 * b) + w)), some (.int v)] [] (ev_up (ev_up σ 6 11 ((σ.1 6 11) + 1)) 7 (Int32.toNatClampNeg ((4 * b) + w)) v)
          refine ⟨fun (h8 : ((ev_up (ev_up σ 6 11 ((σ.1 6 11) + 1)) 7 (Int32.toNatClampNeg ((4 * b) + w)) v).1 6 8) ≤ 0) => ?_, fun (h8 : ¬ ((ev_up (ev_up σ 6 11 ((σ.1 6 11) + 1)) 7 (Int32.toNatClampNeg ((4 * b) + w)) v).1 6 8) ≤ 0) => ?_⟩
          · skip
            exact ⟨rfl, Nat.le_refl _, ⟨fun i hi => by first | rfl | simp [ev_up, upd, hi], rfl, rfl⟩, rfl⟩
          · skip
            change ev_wp pg_F pg_lay none [] (ev_lu pg_c32) (fun _ => false) _ 1969 128 [some (.ref 6), some (.int b), some (.int w), some (.int v), some (.int ((4 * b) + w)), some (.int v)] [] (ev_up (ev_up σ 6 11 ((σ.1 6 11) + 1)) 7 (Int32.toNatClampNeg ((4 * b) + w)) v)
            exact ⟨rfl, Nat.le_refl _, ⟨fun i hi => by first | rfl | simp [ev_up, upd, hi], rfl, rfl⟩, rfl⟩
    · skip
      exact ⟨rfl, Nat.le_refl _, ⟨fun i hi => by first | rfl | simp [ev_up, upd, hi], rfl, rfl⟩, rfl⟩
  · cases h
theorem pr_21 : pg_Rn pg_F 21 pg_y21 [] pg_t21 := by
  intro vs σ P h hp
  replace h : pf_21 vs σ = some P := h
  unfold pf_21 at h
  split at h
  · cases h
    refine ⟨by simp [Value.category], Nat.le_of_ble_eq_true rfl, ev_go pg_hhs pg_cd pg_o21 (fun _ => false) 2000 (Q1 := ev_at (ev_tl pg_t21) σ.2.2 (sp_v True (fun σ' => md_c σ σ')).2) ?_ (fun _ _ _ _ h => ev_fin h)⟩
    change ev_wp pg_F pg_lay none [] (ev_lu pg_c21) (fun _ => false) _ 2000 0 [some (.ref 6), none] [] σ
    refine ⟨fun h => absurd h (by decide), fun _ => ?_⟩
    change ev_wp pg_F pg_lay none [] (ev_lu pg_c21) (fun _ => false) _ 1995 8 [some (.ref 6), some (.int 0)] [] σ
    refine ⟨sp_in rfl rfl, ?_⟩
    have c1 := (md_c.rf σ).up (Int32.toNatClampNeg 0) 0
    change ev_wp pg_F pg_lay none [] (ev_lu pg_c21) (fun _ => false) _ 1990 15 [some (.ref 6), some (.int 0)] [] (ev_up σ 11 (Int32.toNatClampNeg 0) 0)
    refine ⟨fun h => absurd h (by decide), fun _ => ?_⟩
    change ev_wp pg_F pg_lay none [] (ev_lu pg_c21) (fun _ => false) _ 1985 8 [some (.ref 6), some (.int 1)] [] (ev_up σ 11 (Int32.toNatClampNeg 0) 0)
    refine ⟨sp_in rfl rfl, ?_⟩
    have c2 := c1.up (Int32.toNatClampNeg 1) 0
    change ev_wp pg_F pg_lay none [] (ev_lu pg_c21) (fun _ => false) _ 1980 15 [some (.ref 6), some (.int 1)] [] (ev_up (ev_up σ 11 (Int32.toNatClampNeg 0) 0) 11 (Int32.toNatClampNeg 1) 0)
    refine ⟨fun h => absurd h (by decide), fun _ => ?_⟩
    change ev_wp pg_F pg_lay none [] (ev_lu pg_c21) (fun _ => false) _ 1975 8 [some (.ref 6), some (.int 2)] [] (ev_up (ev_up σ 11 (Int32.toNatClampNeg 0) 0) 11 (Int32.toNatClampNeg 1) 0)
    refine ⟨sp_in rfl rfl, ?_⟩
    have c3 := c2.up (Int32.toNatClampNeg 2) 0
    change ev_wp pg_F pg_lay none [] (ev_lu pg_c21) (fun _ => false) _ 1970 15 [some (.ref 6), some (.int 2)] [] (ev_up (ev_up (ev_up σ 11 (Int32.toNatClampNeg 0) 0) 11 (Int32.toNatClampNeg 1) 0) 11 (Int32.toNatClampNeg 2) 0)
    refine ⟨fun h => absurd h (by decide), fun _ => ?_⟩
    change ev_wp pg_F pg_lay none [] (ev_lu pg_c21) (fun _ => false) _ 1965 8 [some (.ref 6), some (.int 3)] [] (ev_up (ev_up (ev_up σ 11 (Int32.toNatClampNeg 0) 0) 11 (Int32.toNatClampNeg 1) 0) 11 (Int32.toNatClampNeg 2) 0)
    refine ⟨sp_in rfl rfl, ?_⟩
    have c4 := c3.up (Int32.toNatClampNeg 3) 0
    change ev_wp pg_F pg_lay none [] (ev_lu pg_c21) (fun _ => false) _ 1960 15 [some (.ref 6), some (.int 3)] [] (ev_up (ev_up (ev_up (ev_up σ 11 (Int32.toNatClampNeg 0) 0) 11 (Int32.toNatClampNeg 1) 0) 11 (Int32.toNatClampNeg 2) 0) 11 (Int32.toNatClampNeg 3) 0)
    refine ⟨fun h => absurd h (by decide), fun _ => ?_⟩
    change ev_wp pg_F pg_lay none [] (ev_lu pg_c21) (fun _ => false) _ 1955 8 [some (.ref 6), some (.int 4)] [] (ev_up (ev_up (ev_up (ev_up σ 11 (Int32.toNatClampNeg 0) 0) 11 (Int32.toNatClampNeg 1) 0) 11 (Int32.toNatClampNeg 2) 0) 11 (Int32.toNatClampNeg 3) 0)
    refine ⟨sp_in rfl rfl, ?_⟩
    have c5 := c4.up (Int32.toNatClampNeg 4) 0
    change ev_wp pg_F pg_lay none [] (ev_lu pg_c21) (fun _ => false) _ 1950 15 [some (.ref 6), some (.int 4)] [] (ev_up (ev_up (ev_up (ev_up (ev_up σ 11 (Int32.toNatClampNeg 0) 0) 11 (Int32.toNatClampNeg 1) 0) 11 (Int32.toNatClampNeg 2) 0) 11 (Int32.toNatClampNeg 3) 0) 11 (Int32.toNatClampNeg 4) 0)
    refine ⟨fun h => absurd h (by decide), fun _ => ?_⟩
    change ev_wp pg_F pg_lay none [] (ev_lu pg_c21) (fun _ => false) _ 1945 8 [some (.ref 6), some (.int 5)] [] (ev_up (ev_up (ev_up (ev_up (ev_up σ 11 (Int32.toNatClampNeg 0) 0) 11 (Int32.toNatClampNeg 1) 0) 11 (Int32.toNatClampNeg 2) 0) 11 (Int32.toNatClampNeg 3) 0) 11 (Int32.toNatClampNeg 4) 0)
    refine ⟨sp_in rfl rfl, ?_⟩
    have c6 := c5.up (Int32.toNatClampNeg 5) 0
    change ev_wp pg_F pg_lay none [] (ev_lu pg_c21) (fun _ => false) _ 1940 15 [some (.ref 6), some (.int 5)] [] (ev_up (ev_up (ev_up (ev_up (ev_up (ev_up σ 11 (Int32.toNatClampNeg 0) 0) 11 (Int32.toNatClampNeg 1) 0) 11 (Int32.toNatClampNeg 2) 0) 11 (Int32.toNatClampNeg 3) 0) 11 (Int32.toNatClampNeg 4) 0) 11 (Int32.toNatClampNeg 5) 0)
    refine ⟨fun h => absurd h (by decide), fun _ => ?_⟩
    change ev_wp pg_F pg_lay none [] (ev_lu pg_c21) (fun _ => false) _ 1935 8 [some (.ref 6), some (.int 6)] [] (ev_up (ev_up (ev_up (ev_up (ev_up (ev_up σ 11 (Int32.toNatClampNeg 0) 0) 11 (Int32.toNatClampNeg 1) 0) 11 (Int32.toNatClampNeg 2) 0) 11 (Int32.toNatClampNeg 3) 0) 11 (Int32.toNatClampNeg 4) 0) 11 (Int32.toNatClampNeg 5) 0)
    refine ⟨sp_in rfl rfl, ?_⟩
    have c7 := c6.up (Int32.toNatClampNeg 6) 0
    change ev_wp pg_F pg_lay none [] (ev_lu pg_c21) (fun _ => false) _ 1930 15 [some (.ref 6), some (.int 6)] [] (ev_up (ev_up (ev_up (ev_up (ev_up (ev_up (ev_up σ 11 (Int32.toNatClampNeg 0) 0) 11 (Int32.toNatClampNeg 1) 0) 11 (Int32.toNatClampNeg 2) 0) 11 (Int32.toNatClampNeg 3) 0) 11 (Int32.toNatClampNeg 4) 0) 11 (Int32.toNatClampNeg 5) 0) 11 (Int32.toNatClampNeg 6) 0)
    refine ⟨fun h => absurd h (by decide), fun _ => ?_⟩
    change ev_wp pg_F pg_lay none [] (ev_lu pg_c21) (fun _ => false) _ 1925 8 [some (.ref 6), some (.int 7)] [] (ev_up (ev_up (ev_up (ev_up (ev_up (ev_up (ev_up σ 11 (Int32.toNatClampNeg 0) 0) 11 (Int32.toNatClampNeg 1) 0) 11 (Int32.toNatClampNeg 2) 0) 11 (Int32.toNatClampNeg 3) 0) 11 (Int32.toNatClampNeg 4) 0) 11 (Int32.toNatClampNeg 5) 0) 11 (Int32.toNatClampNeg 6) 0)
    refine ⟨sp_in rfl rfl, ?_⟩
    have c8 := c7.up (Int32.toNatClampNeg 7) 0
    change ev_wp pg_F pg_lay none [] (ev_lu pg_c21) (fun _ => false) _ 1920 15 [some (.ref 6), some (.int 7)] [] (ev_up (ev_up (ev_up (ev_up (ev_up (ev_up (ev_up (ev_up σ 11 (Int32.toNatClampNeg 0) 0) 11 (Int32.toNatClampNeg 1) 0) 11 (Int32.toNatClampNeg 2) 0) 11 (Int32.toNatClampNeg 3) 0) 11 (Int32.toNatClampNeg 4) 0) 11 (Int32.toNatClampNeg 5) 0) 11 (Int32.toNatClampNeg 6) 0) 11 (Int32.toNatClampNeg 7) 0)
    refine ⟨fun _ => ?_, fun h => absurd (by decide) h⟩
    change ev_wp pg_F pg_lay none [] (ev_lu pg_c21) (fun _ => false) _ 1915 21 [some (.ref 6), some (.int 8)] [] (ev_up (ev_up (ev_up (ev_up (ev_up (ev_up (ev_up (ev_up σ 11 (Int32.toNatClampNeg 0) 0) 11 (Int32.toNatClampNeg 1) 0) 11 (Int32.toNatClampNeg 2) 0) 11 (Int32.toNatClampNeg 3) 0) 11 (Int32.toNatClampNeg 4) 0) 11 (Int32.toNatClampNeg 5) 0) 11 (Int32.toNatClampNeg 6) 0) 11 (Int32.toNatClampNeg 7) 0)
    exact ⟨rfl, Nat.le_refl _, c8, rfl⟩
  · cases h
theorem pr_69 : pg_Rn pg_F 69 pg_y69 [] pg_t69 := by
  intro vs σ P h hp
  replace h : pf_69 vs σ = some P := h
  unfold pf_69 at h
  split at h
  · rename_i b
    cases h
    obtain rfl : b = 5 := hp
    refine ⟨by simp [Value.category], Nat.le_of_ble_eq_true rfl, ev_go pg_hhs pg_cd pg_o69 (fun _ => false) 2000 (Q1 := ev_at (ev_tl pg_t69) σ.2.2 (sp_v ((5) = 5) (fun σ' => σ'.2 = σ.2 ∧ σ'.1 6 0 = σ.1 6 0)).2) ?_ (fun _ _ _ _ h => ev_fin h)⟩
    change ev_wp pg_F pg_lay none [] (ev_lu pg_c69) (fun _ => false) _ 2000 0 [some (.ref 6), some (.int 5), none, none] [] σ
    refine ⟨fun h => absurd h (by decide), fun _ => ?_⟩
    change ev_wp pg_F pg_lay none [] (ev_lu pg_c69) (fun _ => false) _ 1993 10 [some (.ref 6), some (.int 5), some (.int 0), some (.int 0)] [] σ
    refine ⟨sp_in rfl rfl, ?_⟩
    change ev_wp pg_F pg_lay none [] (ev_lu pg_c69) (fun _ => false) _ 1988 17 [some (.ref 6), some (.int 5), some (.int 0), some (.int 0)] [.int (σ.1 11 (Int32.toNatClampNeg 0)), .int 0] σ
    refine ⟨trivial, ?_⟩
    rintro _ _ ⟨rfl, rfl⟩
    change ev_wp pg_F pg_lay none [] (ev_lu pg_c69) (fun _ => false) _ 1987 20 [some (.ref 6), some (.int 5), some (.int 0), some (.int 0)] [.int (sp_add 0 (σ.1 11 (Int32.toNatClampNeg 0)))] σ
    refine ⟨fun h => absurd h (by decide), fun _ => ?_⟩
    change ev_wp pg_F pg_lay none [] (ev_lu pg_c69) (fun _ => false) _ 1981 10 [some (.ref 6), some (.int 5), some (.int (sp_add 0 (σ.1 11 (Int32.toNatClampNeg 0)))), some (.int 1)] [] σ
    refine ⟨sp_in rfl rfl, ?_⟩
    change ev_wp pg_F pg_lay none [] (ev_lu pg_c69) (fun _ => false) _ 1976 17 [some (.ref 6), some (.int 5), some (.int (sp_add 0 (σ.1 11 (Int32.toNatClampNeg 0)))), some (.int 1)] [.int (σ.1 11 (Int32.toNatClampNeg 1)), .int (sp_add 0 (σ.1 11 (Int32.toNatClampNeg 0)))] σ
    refine ⟨trivial, ?_⟩
    rintro _ _ ⟨rfl, rfl⟩
    change ev_wp pg_F pg_lay none [] (ev_lu pg_c69) (fun _ => false) _ 1975 20 [some (.ref 6), some (.int 5), some (.int (sp_add 0 (σ.1 11 (Int32.toNatClampNeg 0)))), some (.int 1)] [.int (sp_add (sp_add 0 (σ.1 11 (Int32.toNatClampNeg 0))) (σ.1 11 (Int32.toNatClampNeg 1)))] σ
    refine ⟨fun h => absurd h (by decide), fun _ => ?_⟩
    change ev_wp pg_F pg_lay none [] (ev_lu pg_c69) (fun _ => false) _ 1969 10 [some (.ref 6), some (.int 5), some (.int (sp_add (sp_add 0 (σ.1 11 (Int32.toNatClampNeg 0))) (σ.1 11 (Int32.toNatClampNeg 1)))), some (.int 2)] [] σ
    refine ⟨sp_in rfl rfl, ?_⟩
    change ev_wp pg_F pg_lay none [] (ev_lu pg_c69) (fun _ => false) _ 1964 17 [some (.ref 6), some (.int 5), some (.int (sp_add (sp_add 0 (σ.1 11 (Int32.toNatClampNeg 0))) (σ.1 11 (Int32.toNatClampNeg 1)))), some (.int 2)] [.int (σ.1 11 (Int32.toNatClampNeg 2)), .int (sp_add (sp_add 0 (σ.1 11 (Int32.toNatClampNeg 0))) (σ.1 11 (Int32.toNatClampNeg 1)))] σ
    refine ⟨trivial, ?_⟩
    rintro _ _ ⟨rfl, rfl⟩
    change ev_wp pg_F pg_lay none [] (ev_lu pg_c69) (fun _ => false) _ 1963 20 [some (.ref 6), some (.int 5), some (.int (sp_add (sp_add 0 (σ.1 11 (Int32.toNatClampNeg 0))) (σ.1 11 (Int32.toNatClampNeg 1)))), some (.int 2)] [.int (sp_add (sp_add (sp_add 0 (σ.1 11 (Int32.toNatClampNeg 0))) (σ.1 11 (Int32.toNatClampNeg 1))) (σ.1 11 (Int32.toNatClampNeg 2)))] σ
    refine ⟨fun h => absurd h (by decide), fun _ => ?_⟩
    change ev_wp pg_F pg_lay none [] (ev_lu pg_c69) (fun _ => false) _ 1957 10 [some (.ref 6), some (.int 5), some (.int (sp_add (sp_add (sp_add 0 (σ.1 11 (Int32.toNatClampNeg 0))) (σ.1 11 (Int32.toNatClampNeg 1))) (σ.1 11 (Int32.toNatClampNeg 2)))), some (.int 3)] [] σ
    refine ⟨sp_in rfl rfl, ?_⟩
    change ev_wp pg_F pg_lay none [] (ev_lu pg_c69) (fun _ => false) _ 1952 17 [some (.ref 6), some (.int 5), some (.int (sp_add (sp_add (sp_add 0 (σ.1 11 (Int32.toNatClampNeg 0))) (σ.1 11 (Int32.toNatClampNeg 1))) (σ.1 11 (Int32.toNatClampNeg 2)))), some (.int 3)] [.int (σ.1 11 (Int32.toNatClampNeg 3)), .int (sp_add (sp_add (sp_add 0 (σ.1 11 (Int32.toNatClampNeg 0))) (σ.1 11 (Int32.toNatClampNeg 1))) (σ.1 11 (Int32.toNatClampNeg 2)))] σ
    refine ⟨trivial, ?_⟩
    rintro _ _ ⟨rfl, rfl⟩
    change ev_wp pg_F pg_lay none [] (ev_lu pg_c69) (fun _ => false) _ 1951 20 [some (.ref 6), some (.int 5), some (.int (sp_add (sp_add (sp_add 0 (σ.1 11 (Int32.toNatClampNeg 0))) (σ.1 11 (Int32.toNatClampNeg 1))) (σ.1 11 (Int32.toNatClampNeg 2)))), some (.int 3)] [.int (sp_add (sp_add (sp_add (sp_add 0 (σ.1 11 (Int32.toNatClampNeg 0))) (σ.1 11 (Int32.toNatClampNeg 1))) (σ.1 11 (Int32.toNatClampNeg 2))) (σ.1 11 (Int32.toNatClampNeg 3)))] σ
    refine ⟨fun h => absurd h (by decide), fun _ => ?_⟩
    change ev_wp pg_F pg_lay none [] (ev_lu pg_c69) (fun _ => false) _ 1945 10 [some (.ref 6), some (.int 5), some (.int (sp_add (sp_add (sp_add (sp_add 0 (σ.1 11 (Int32.toNatClampNeg 0))) (σ.1 11 (Int32.toNatClampNeg 1))) (σ.1 11 (Int32.toNatClampNeg 2))) (σ.1 11 (Int32.toNatClampNeg 3)))), some (.int 4)] [] σ
    refine ⟨sp_in rfl rfl, ?_⟩
    change ev_wp pg_F pg_lay none [] (ev_lu pg_c69) (fun _ => false) _ 1940 17 [some (.ref 6), some (.int 5), some (.int (sp_add (sp_add (sp_add (sp_add 0 (σ.1 11 (Int32.toNatClampNeg 0))) (σ.1 11 (Int32.toNatClampNeg 1))) (σ.1 11 (Int32.toNatClampNeg 2))) (σ.1 11 (Int32.toNatClampNeg 3)))), some (.int 4)] [.int (σ.1 11 (Int32.toNatClampNeg 4)), .int (sp_add (sp_add (sp_add (sp_add 0 (σ.1 11 (Int32.toNatClampNeg 0))) (σ.1 11 (Int32.toNatClampNeg 1))) (σ.1 11 (Int32.toNatClampNeg 2))) (σ.1 11 (Int32.toNatClampNeg 3)))] σ
    refine ⟨trivial, ?_⟩
    rintro _ _ ⟨rfl, rfl⟩
    change ev_wp pg_F pg_lay none [] (ev_lu pg_c69) (fun _ => false) _ 1939 20 [some (.ref 6), some (.int 5), some (.int (sp_add (sp_add (sp_add (sp_add 0 (σ.1 11 (Int32.toNatClampNeg 0))) (σ.1 11 (Int32.toNatClampNeg 1))) (σ.1 11 (Int32.toNatClampNeg 2))) (σ.1 11 (Int32.toNatClampNeg 3)))), some (.int 4)] [.int (sp_add (sp_add (sp_add (sp_add (sp_add 0 (σ.1 11 (Int32.toNatClampNeg 0))) (σ.1 11 (Int32.toNatClampNeg 1))) (σ.1 11 (Int32.toNatClampNeg 2))) (σ.1 11 (Int32.toNatClampNeg 3))) (σ.1 11 (Int32.toNatClampNeg 4)))] σ
    refine ⟨fun h => absurd h (by decide), fun _ => ?_⟩
    change ev_wp pg_F pg_lay none [] (ev_lu pg_c69) (fun _ => false) _ 1933 10 [some (.ref 6), some (.int 5), some (.int (sp_add (sp_add (sp_add (sp_add (sp_add 0 (σ.1 11 (Int32.toNatClampNeg 0))) (σ.1 11 (Int32.toNatClampNeg 1))) (σ.1 11 (Int32.toNatClampNeg 2))) (σ.1 11 (Int32.toNatClampNeg 3))) (σ.1 11 (Int32.toNatClampNeg 4)))), some (.int 5)] [] σ
    refine ⟨sp_in rfl rfl, ?_⟩
    change ev_wp pg_F pg_lay none [] (ev_lu pg_c69) (fun _ => false) _ 1928 17 [some (.ref 6), some (.int 5), some (.int (sp_add (sp_add (sp_add (sp_add (sp_add 0 (σ.1 11 (Int32.toNatClampNeg 0))) (σ.1 11 (Int32.toNatClampNeg 1))) (σ.1 11 (Int32.toNatClampNeg 2))) (σ.1 11 (Int32.toNatClampNeg 3))) (σ.1 11 (Int32.toNatClampNeg 4)))), some (.int 5)] [.int (σ.1 11 (Int32.toNatClampNeg 5)), .int (sp_add (sp_add (sp_add (sp_add (sp_add 0 (σ.1 11 (Int32.toNatClampNeg 0))) (σ.1 11 (Int32.toNatClampNeg 1))) (σ.1 11 (Int32.toNatClampNeg 2))) (σ.1 11 (Int32.toNatClampNeg 3))) (σ.1 11 (Int32.toNatClampNeg 4)))] σ
    refine ⟨trivial, ?_⟩
    rintro _ _ ⟨rfl, rfl⟩
    change ev_wp pg_F pg_lay none [] (ev_lu pg_c69) (fun _ => false) _ 1927 20 [some (.ref 6), some (.int 5), some (.int (sp_add (sp_add (sp_add (sp_add (sp_add 0 (σ.1 11 (Int32.toNatClampNeg 0))) (σ.1 11 (Int32.toNatClampNeg 1))) (σ.1 11 (Int32.toNatClampNeg 2))) (σ.1 11 (Int32.toNatClampNeg 3))) (σ.1 11 (Int32.toNatClampNeg 4)))), some (.int 5)] [.int (sp_add (sp_add (sp_add (sp_add (sp_add (sp_add 0 (σ.1 11 (Int32.toNatClampNeg 0))) (σ.1 11 (Int32.toNatClampNeg 1))) (σ.1 11 (Int32.toNatClampNeg 2))) (σ.1 11 (Int32.toNatClampNeg 3))) (σ.1 11 (Int32.toNatClampNeg 4))) (σ.1 11 (Int32.toNatClampNeg 5)))] σ
    refine ⟨fun h => absurd h (by decide), fun _ => ?_⟩
    change ev_wp pg_F pg_lay none [] (ev_lu pg_c69) (fun _ => false) _ 1921 10 [some (.ref 6), some (.int 5), some (.int (sp_add (sp_add (sp_add (sp_add (sp_add (sp_add 0 (σ.1 11 (Int32.toNatClampNeg 0))) (σ.1 11 (Int32.toNatClampNeg 1))) (σ.1 11 (Int32.toNatClampNeg 2))) (σ.1 11 (Int32.toNatClampNeg 3))) (σ.1 11 (Int32.toNatClampNeg 4))) (σ.1 11 (Int32.toNatClampNeg 5)))), some (.int 6)] [] σ
    refine ⟨sp_in rfl rfl, ?_⟩
    change ev_wp pg_F pg_lay none [] (ev_lu pg_c69) (fun _ => false) _ 1916 17 [some (.ref 6), some (.int 5), some (.int (sp_add (sp_add (sp_add (sp_add (sp_add (sp_add 0 (σ.1 11 (Int32.toNatClampNeg 0))) (σ.1 11 (Int32.toNatClampNeg 1))) (σ.1 11 (Int32.toNatClampNeg 2))) (σ.1 11 (Int32.toNatClampNeg 3))) (σ.1 11 (Int32.toNatClampNeg 4))) (σ.1 11 (Int32.toNatClampNeg 5)))), some (.int 6)] [.int (σ.1 11 (Int32.toNatClampNeg 6)), .int (sp_add (sp_add (sp_add (sp_add (sp_add (sp_add 0 (σ.1 11 (Int32.toNatClampNeg 0))) (σ.1 11 (Int32.toNatClampNeg 1))) (σ.1 11 (Int32.toNatClampNeg 2))) (σ.1 11 (Int32.toNatClampNeg 3))) (σ.1 11 (Int32.toNatClampNeg 4))) (σ.1 11 (Int32.toNatClampNeg 5)))] σ
    refine ⟨trivial, ?_⟩
    rintro _ _ ⟨rfl, rfl⟩
    change ev_wp pg_F pg_lay none [] (ev_lu pg_c69) (fun _ => false) _ 1915 20 [some (.ref 6), some (.int 5), some (.int (sp_add (sp_add (sp_add (sp_add (sp_add (sp_add 0 (σ.1 11 (Int32.toNatClampNeg 0))) (σ.1 11 (Int32.toNatClampNeg 1))) (σ.1 11 (Int32.toNatClampNeg 2))) (σ.1 11 (Int32.toNatClampNeg 3))) (σ.1 11 (Int32.toNatClampNeg 4))) (σ.1 11 (Int32.toNatClampNeg 5)))), some (.int 6)] [.int (sp_add (sp_add (sp_add (sp_add (sp_add (sp_add (sp_add 0 (σ.1 11 (Int32.toNatClampNeg 0))) (σ.1 11 (Int32.toNatClampNeg 1))) (σ.1 11 (Int32.toNatClampNeg 2))) (σ.1 11 (Int32.toNatClampNeg 3))) (σ.1 11 (Int32.toNatClampNeg 4))) (σ.1 11 (Int32.toNatClampNeg 5))) (σ.1 11 (Int32.toNatClampNeg 6)))] σ
    refine ⟨fun _ => ?_, fun h => absurd (by decide) h⟩
    change ev_wp pg_F pg_lay none [] (ev_lu pg_c69) (fun _ => false) _ 1909 27 [some (.ref 6), some (.int 5), some (.int (sp_add (sp_add (sp_add (sp_add (sp_add (sp_add (sp_add 0 (σ.1 11 (Int32.toNatClampNeg 0))) (σ.1 11 (Int32.toNatClampNeg 1))) (σ.1 11 (Int32.toNatClampNeg 2))) (σ.1 11 (Int32.toNatClampNeg 3))) (σ.1 11 (Int32.toNatClampNeg 4))) (σ.1 11 (Int32.toNatClampNeg 5))) (σ.1 11 (Int32.toNatClampNeg 6)))), some (.int 7)] [] σ
    refine ⟨sp_in rfl rfl, ?_⟩
    change ev_wp pg_F pg_lay none [] (ev_lu pg_c69) (fun _ => false) _ 1902 38 [some (.ref 6), some (.int 5), some (.int (sp_add (sp_add (sp_add (sp_add (sp_add (sp_add (sp_add 0 (σ.1 11 (Int32.toNatClampNeg 0))) (σ.1 11 (Int32.toNatClampNeg 1))) (σ.1 11 (Int32.toNatClampNeg 2))) (σ.1 11 (Int32.toNatClampNeg 3))) (σ.1 11 (Int32.toNatClampNeg 4))) (σ.1 11 (Int32.toNatClampNeg 5))) (σ.1 11 (Int32.toNatClampNeg 6)))), some (.int 7)] [] (ev_up σ 11 (Int32.toNatClampNeg 7) (65535 - (sp_add (sp_add (sp_add (sp_add (sp_add (sp_add (sp_add 0 (σ.1 11 (Int32.toNatClampNeg 0))) (σ.1 11 (Int32.toNatClampNeg 1))) (σ.1 11 (Int32.toNatClampNeg 2))) (σ.1 11 (Int32.toNatClampNeg 3))) (σ.1 11 (Int32.toNatClampNeg 4))) (σ.1 11 (Int32.toNatClampNeg 5))) (σ.1 11 (Int32.toNatClampNeg 6)))))
    refine ⟨fun h => absurd h (by decide), fun _ => ?_⟩
    change ev_wp pg_F pg_lay none [] (ev_lu pg_c69) (fun _ => false) _ 1897 46 [some (.ref 6), some (.int 5), some (.int (sp_add (sp_add (sp_add (sp_add (sp_add (sp_add (sp_add 0 (σ.1 11 (Int32.toNatClampNeg 0))) (σ.1 11 (Int32.toNatClampNeg 1))) (σ.1 11 (Int32.toNatClampNeg 2))) (σ.1 11 (Int32.toNatClampNeg 3))) (σ.1 11 (Int32.toNatClampNeg 4))) (σ.1 11 (Int32.toNatClampNeg 5))) (σ.1 11 (Int32.toNatClampNeg 6)))), some (.int 0)] [] (ev_up σ 11 (Int32.toNatClampNeg 7) (65535 - (sp_add (sp_add (sp_add (sp_add (sp_add (sp_add (sp_add 0 (σ.1 11 (Int32.toNatClampNeg 0))) (σ.1 11 (Int32.toNatClampNeg 1))) (σ.1 11 (Int32.toNatClampNeg 2))) (σ.1 11 (Int32.toNatClampNeg 3))) (σ.1 11 (Int32.toNatClampNeg 4))) (σ.1 11 (Int32.toNatClampNeg 5))) (σ.1 11 (Int32.toNatClampNeg 6)))))
    refine ⟨sp_in rfl rfl, ?_⟩
    change ev_wp pg_F pg_lay none [] (ev_lu pg_c69) (fun _ => false) _ 1890 55 [some (.ref 6), some (.int 5), some (.int (sp_add (sp_add (sp_add (sp_add (sp_add (sp_add (sp_add 0 (σ.1 11 (Int32.toNatClampNeg 0))) (σ.1 11 (Int32.toNatClampNeg 1))) (σ.1 11 (Int32.toNatClampNeg 2))) (σ.1 11 (Int32.toNatClampNeg 3))) (σ.1 11 (Int32.toNatClampNeg 4))) (σ.1 11 (Int32.toNatClampNeg 5))) (σ.1 11 (Int32.toNatClampNeg 6)))), some (.int 0)] [.int ((ev_up σ 11 (Int32.toNatClampNeg 7) (65535 - (sp_add (sp_add (sp_add (sp_add (sp_add (sp_add (sp_add 0 (σ.1 11 (Int32.toNatClampNeg 0))) (σ.1 11 (Int32.toNatClampNeg 1))) (σ.1 11 (Int32.toNatClampNeg 2))) (σ.1 11 (Int32.toNatClampNeg 3))) (σ.1 11 (Int32.toNatClampNeg 4))) (σ.1 11 (Int32.toNatClampNeg 5))) (σ.1 11 (Int32.toNatClampNeg 6))))).1 11 (Int32.toNatClampNeg 0)), .int 0, .int 5, .ref 6] (ev_up σ 11 (Int32.toNatClampNeg 7) (65535 - (sp_add (sp_add (sp_add (sp_add (sp_add (sp_add (sp_add 0 (σ.1 11 (Int32.toNatClampNeg 0))) (σ.1 11 (Int32.toNatClampNeg 1))) (σ.1 11 (Int32.toNatClampNeg 2))) (σ.1 11 (Int32.toNatClampNeg 3))) (σ.1 11 (Int32.toNatClampNeg 4))) (σ.1 11 (Int32.toNatClampNeg 5))) (σ.1 11 (Int32.toNatClampNeg 6)))))
    refine ⟨sp_in rfl rfl, ?_⟩
    rintro _ s2 ⟨k1, rfl⟩
    have yk1 : s2.2 = σ.2 := k1.2.1.trans rfl
    have uk1 : s2.1 6 0 = σ.1 6 0 := k1.2.2
    change ev_wp pg_F pg_lay none [] (ev_lu pg_c69) (fun _ => false) _ 1889 58 [some (.ref 6), some (.int 5), some (.int (sp_add (sp_add (sp_add (sp_add (sp_add (sp_add (sp_add 0 (σ.1 11 (Int32.toNatClampNeg 0))) (σ.1 11 (Int32.toNatClampNeg 1))) (σ.1 11 (Int32.toNatClampNeg 2))) (σ.1 11 (Int32.toNatClampNeg 3))) (σ.1 11 (Int32.toNatClampNeg 4))) (σ.1 11 (Int32.toNatClampNeg 5))) (σ.1 11 (Int32.toNatClampNeg 6)))), some (.int 0)] [] s2
    refine ⟨fun h => absurd h (by decide), fun _ => ?_⟩
    change ev_wp pg_F pg_lay none [] (ev_lu pg_c69) (fun _ => false) _ 1884 46 [some (.ref 6), some (.int 5), some (.int (sp_add (sp_add (sp_add (sp_add (sp_add (sp_add (sp_add 0 (σ.1 11 (Int32.toNatClampNeg 0))) (σ.1 11 (Int32.toNatClampNeg 1))) (σ.1 11 (Int32.toNatClampNeg 2))) (σ.1 11 (Int32.toNatClampNeg 3))) (σ.1 11 (Int32.toNatClampNeg 4))) (σ.1 11 (Int32.toNatClampNeg 5))) (σ.1 11 (Int32.toNatClampNeg 6)))), some (.int 1)] [] s2
    refine ⟨sp_in rfl rfl, ?_⟩
    change ev_wp pg_F pg_lay none [] (ev_lu pg_c69) (fun _ => false) _ 1877 55 [some (.ref 6), some (.int 5), some (.int (sp_add (sp_add (sp_add (sp_add (sp_add (sp_add (sp_add 0 (σ.1 11 (Int32.toNatClampNeg 0))) (σ.1 11 (Int32.toNatClampNeg 1))) (σ.1 11 (Int32.toNatClampNeg 2))) (σ.1 11 (Int32.toNatClampNeg 3))) (σ.1 11 (Int32.toNatClampNeg 4))) (σ.1 11 (Int32.toNatClampNeg 5))) (σ.1 11 (Int32.toNatClampNeg 6)))), some (.int 1)] [.int (s2.1 11 (Int32.toNatClampNeg 1)), .int 1, .int 5, .ref 6] s2
    refine ⟨sp_in rfl rfl, ?_⟩
    rintro _ s4 ⟨k3, rfl⟩
    have yk3 : s4.2 = σ.2 := k3.2.1.trans yk1
    have uk3 : s4.1 6 0 = σ.1 6 0 := k3.2.2.trans uk1
    change ev_wp pg_F pg_lay none [] (ev_lu pg_c69) (fun _ => false) _ 1876 58 [some (.ref 6), some (.int 5), some (.int (sp_add (sp_add (sp_add (sp_add (sp_add (sp_add (sp_add 0 (σ.1 11 (Int32.toNatClampNeg 0))) (σ.1 11 (Int32.toNatClampNeg 1))) (σ.1 11 (Int32.toNatClampNeg 2))) (σ.1 11 (Int32.toNatClampNeg 3))) (σ.1 11 (Int32.toNatClampNeg 4))) (σ.1 11 (Int32.toNatClampNeg 5))) (σ.1 11 (Int32.toNatClampNeg 6)))), some (.int 1)] [] s4
    refine ⟨fun h => absurd h (by decide), fun _ => ?_⟩
    change ev_wp pg_F pg_lay none [] (ev_lu pg_c69) (fun _ => false) _ 1871 46 [some (.ref 6), some (.int 5), some (.int (sp_add (sp_add (sp_add (sp_add (sp_add (sp_add (sp_add 0 (σ.1 11 (Int32.toNatClampNeg 0))) (σ.1 11 (Int32.toNatClampNeg 1))) (σ.1 11 (Int32.toNatClampNeg 2))) (σ.1 11 (Int32.toNatClampNeg 3))) (σ.1 11 (Int32.toNatClampNeg 4))) (σ.1 11 (Int32.toNatClampNeg 5))) (σ.1 11 (Int32.toNatClampNeg 6)))), some (.int 2)] [] s4
    refine ⟨sp_in rfl rfl, ?_⟩
    change ev_wp pg_F pg_lay none [] (ev_lu pg_c69) (fun _ => false) _ 1864 55 [some (.ref 6), some (.int 5), some (.int (sp_add (sp_add (sp_add (sp_add (sp_add (sp_add (sp_add 0 (σ.1 11 (Int32.toNatClampNeg 0))) (σ.1 11 (Int32.toNatClampNeg 1))) (σ.1 11 (Int32.toNatClampNeg 2))) (σ.1 11 (Int32.toNatClampNeg 3))) (σ.1 11 (Int32.toNatClampNeg 4))) (σ.1 11 (Int32.toNatClampNeg 5))) (σ.1 11 (Int32.toNatClampNeg 6)))), some (.int 2)] [.int (s4.1 11 (Int32.toNatClampNeg 2)), .int 2, .int 5, .ref 6] s4
    refine ⟨sp_in rfl rfl, ?_⟩
    rintro _ s6 ⟨k5, rfl⟩
    have yk5 : s6.2 = σ.2 := k5.2.1.trans yk3
    have uk5 : s6.1 6 0 = σ.1 6 0 := k5.2.2.trans uk3
    change ev_wp pg_F pg_lay none [] (ev_lu pg_c69) (fun _ => false) _ 1863 58 [some (.ref 6), some (.int 5), some (.int (sp_add (sp_add (sp_add (sp_add (sp_add (sp_add (sp_add 0 (σ.1 11 (Int32.toNatClampNeg 0))) (σ.1 11 (Int32.toNatClampNeg 1))) (σ.1 11 (Int32.toNatClampNeg 2))) (σ.1 11 (Int32.toNatClampNeg 3))) (σ.1 11 (Int32.toNatClampNeg 4))) (σ.1 11 (Int32.toNatClampNeg 5))) (σ.1 11 (Int32.toNatClampNeg 6)))), some (.int 2)] [] s6
    refine ⟨fun h => absurd h (by decide), fun _ => ?_⟩
    change ev_wp pg_F pg_lay none [] (ev_lu pg_c69) (fun _ => false) _ 1858 46 [some (.ref 6), some (.int 5), some (.int (sp_add (sp_add (sp_add (sp_add (sp_add (sp_add (sp_add 0 (σ.1 11 (Int32.toNatClampNeg 0))) (σ.1 11 (Int32.toNatClampNeg 1))) (σ.1 11 (Int32.toNatClampNeg 2))) (σ.1 11 (Int32.toNatClampNeg 3))) (σ.1 11 (Int32.toNatClampNeg 4))) (σ.1 11 (Int32.toNatClampNeg 5))) (σ.1 11 (Int32.toNatClampNeg 6)))), some (.int 3)] [] s6
    refine ⟨sp_in rfl rfl, ?_⟩
    change ev_wp pg_F pg_lay none [] (ev_lu pg_c69) (fun _ => false) _ 1851 55 [some (.ref 6), some (.int 5), some (.int (sp_add (sp_add (sp_add (sp_add (sp_add (sp_add (sp_add 0 (σ.1 11 (Int32.toNatClampNeg 0))) (σ.1 11 (Int32.toNatClampNeg 1))) (σ.1 11 (Int32.toNatClampNeg 2))) (σ.1 11 (Int32.toNatClampNeg 3))) (σ.1 11 (Int32.toNatClampNeg 4))) (σ.1 11 (Int32.toNatClampNeg 5))) (σ.1 11 (Int32.toNatClampNeg 6)))), some (.int 3)] [.int (s6.1 11 (Int32.toNatClampNeg 3)), .int 3, .int 5, .ref 6] s6
    refine ⟨sp_in rfl rfl, ?_⟩
    rintro _ s8 ⟨k7, rfl⟩
    have yk7 : s8.2 = σ.2 := k7.2.1.trans yk5
    have uk7 : s8.1 6 0 = σ.1 6 0 := k7.2.2.trans uk5
    change ev_wp pg_F pg_lay none [] (ev_lu pg_c69) (fun _ => false) _ 1850 58 [some (.ref 6), some (.int 5), some (.int (sp_add (sp_add (sp_add (sp_add (sp_add (sp_add (sp_add 0 (σ.1 11 (Int32.toNatClampNeg 0))) (σ.1 11 (Int32.toNatClampNeg 1))) (σ.1 11 (Int32.toNatClampNeg 2))) (σ.1 11 (Int32.toNatClampNeg 3))) (σ.1 11 (Int32.toNatClampNeg 4))) (σ.1 11 (Int32.toNatClampNeg 5))) (σ.1 11 (Int32.toNatClampNeg 6)))), some (.int 3)] [] s8
    refine ⟨fun h => absurd h (by decide), fun _ => ?_⟩
    change ev_wp pg_F pg_lay none [] (ev_lu pg_c69) (fun _ => false) _ 1845 46 [some (.ref 6), some (.int 5), some (.int (sp_add (sp_add (sp_add (sp_add (sp_add (sp_add (sp_add 0 (σ.1 11 (Int32.toNatClampNeg 0))) (σ.1 11 (Int32.toNatClampNeg 1))) (σ.1 11 (Int32.toNatClampNeg 2))) (σ.1 11 (Int32.toNatClampNeg 3))) (σ.1 11 (Int32.toNatClampNeg 4))) (σ.1 11 (Int32.toNatClampNeg 5))) (σ.1 11 (Int32.toNatClampNeg 6)))), some (.int 4)] [] s8
    refine ⟨sp_in rfl rfl, ?_⟩
    change ev_wp pg_F pg_lay none [] (ev_lu pg_c69) (fun _ => false) _ 1838 55 [some (.ref 6), some (.int 5), some (.int (sp_add (sp_add (sp_add (sp_add (sp_add (sp_add (sp_add 0 (σ.1 11 (Int32.toNatClampNeg 0))) (σ.1 11 (Int32.toNatClampNeg 1))) (σ.1 11 (Int32.toNatClampNeg 2))) (σ.1 11 (Int32.toNatClampNeg 3))) (σ.1 11 (Int32.toNatClampNeg 4))) (σ.1 11 (Int32.toNatClampNeg 5))) (σ.1 11 (Int32.toNatClampNeg 6)))), some (.int 4)] [.int (s8.1 11 (Int32.toNatClampNeg 4)), .int 4, .int 5, .ref 6] s8
    refine ⟨sp_in rfl rfl, ?_⟩
    rintro _ s10 ⟨k9, rfl⟩
    have yk9 : s10.2 = σ.2 := k9.2.1.trans yk7
    have uk9 : s10.1 6 0 = σ.1 6 0 := k9.2.2.trans uk7
    change ev_wp pg_F pg_lay none [] (ev_lu pg_c69) (fun _ => false) _ 1837 58 [some (.ref 6), some (.int 5), some (.int (sp_add (sp_add (sp_add (sp_add (sp_add (sp_add (sp_add 0 (σ.1 11 (Int32.toNatClampNeg 0))) (σ.1 11 (Int32.toNatClampNeg 1))) (σ.1 11 (Int32.toNatClampNeg 2))) (σ.1 11 (Int32.toNatClampNeg 3))) (σ.1 11 (Int32.toNatClampNeg 4))) (σ.1 11 (Int32.toNatClampNeg 5))) (σ.1 11 (Int32.toNatClampNeg 6)))), some (.int 4)] [] s10
    refine ⟨fun h => absurd h (by decide), fun _ => ?_⟩
    change ev_wp pg_F pg_lay none [] (ev_lu pg_c69) (fun _ => false) _ 1832 46 [some (.ref 6), some (.int 5), some (.int (sp_add (sp_add (sp_add (sp_add (sp_add (sp_add (sp_add 0 (σ.1 11 (Int32.toNatClampNeg 0))) (σ.1 11 (Int32.toNatClampNeg 1))) (σ.1 11 (Int32.toNatClampNeg 2))) (σ.1 11 (Int32.toNatClampNeg 3))) (σ.1 11 (Int32.toNatClampNeg 4))) (σ.1 11 (Int32.toNatClampNeg 5))) (σ.1 11 (Int32.toNatClampNeg 6)))), some (.int 5)] [] s10
    refine ⟨sp_in rfl rfl, ?_⟩
    change ev_wp pg_F pg_lay none [] (ev_lu pg_c69) (fun _ => false) _ 1825 55 [some (.ref 6), some (.int 5), some (.int (sp_add (sp_add (sp_add (sp_add (sp_add (sp_add (sp_add 0 (σ.1 11 (Int32.toNatClampNeg 0))) (σ.1 11 (Int32.toNatClampNeg 1))) (σ.1 11 (Int32.toNatClampNeg 2))) (σ.1 11 (Int32.toNatClampNeg 3))) (σ.1 11 (Int32.toNatClampNeg 4))) (σ.1 11 (Int32.toNatClampNeg 5))) (σ.1 11 (Int32.toNatClampNeg 6)))), some (.int 5)] [.int (s10.1 11 (Int32.toNatClampNeg 5)), .int 5, .int 5, .ref 6] s10
    refine ⟨sp_in rfl rfl, ?_⟩
    rintro _ s12 ⟨k11, rfl⟩
    have yk11 : s12.2 = σ.2 := k11.2.1.trans yk9
    have uk11 : s12.1 6 0 = σ.1 6 0 := k11.2.2.trans uk9
    change ev_wp pg_F pg_lay none [] (ev_lu pg_c69) (fun _ => false) _ 1824 58 [some (.ref 6), some (.int 5), some (.int (sp_add (sp_add (sp_add (sp_add (sp_add (sp_add (sp_add 0 (σ.1 11 (Int32.toNatClampNeg 0))) (σ.1 11 (Int32.toNatClampNeg 1))) (σ.1 11 (Int32.toNatClampNeg 2))) (σ.1 11 (Int32.toNatClampNeg 3))) (σ.1 11 (Int32.toNatClampNeg 4))) (σ.1 11 (Int32.toNatClampNeg 5))) (σ.1 11 (Int32.toNatClampNeg 6)))), some (.int 5)] [] s12
    refine ⟨fun h => absurd h (by decide), fun _ => ?_⟩
    change ev_wp pg_F pg_lay none [] (ev_lu pg_c69) (fun _ => false) _ 1819 46 [some (.ref 6), some (.int 5), some (.int (sp_add (sp_add (sp_add (sp_add (sp_add (sp_add (sp_add 0 (σ.1 11 (Int32.toNatClampNeg 0))) (σ.1 11 (Int32.toNatClampNeg 1))) (σ.1 11 (Int32.toNatClampNeg 2))) (σ.1 11 (Int32.toNatClampNeg 3))) (σ.1 11 (Int32.toNatClampNeg 4))) (σ.1 11 (Int32.toNatClampNeg 5))) (σ.1 11 (Int32.toNatClampNeg 6)))), some (.int 6)] [] s12
    refine ⟨sp_in rfl rfl, ?_⟩
    change ev_wp pg_F pg_lay none [] (ev_lu pg_c69) (fun _ => false) _ 1812 55 [some (.ref 6), some (.int 5), some (.int (sp_add (sp_add (sp_add (sp_add (sp_add (sp_add (sp_add 0 (σ.1 11 (Int32.toNatClampNeg 0))) (σ.1 11 (Int32.toNatClampNeg 1))) (σ.1 11 (Int32.toNatClampNeg 2))) (σ.1 11 (Int32.toNatClampNeg 3))) (σ.1 11 (Int32.toNatClampNeg 4))) (σ.1 11 (Int32.toNatClampNeg 5))) (σ.1 11 (Int32.toNatClampNeg 6)))), some (.int 6)] [.int (s12.1 11 (Int32.toNatClampNeg 6)), .int 6, .int 5, .ref 6] s12
    refine ⟨sp_in rfl rfl, ?_⟩
    rintro _ s14 ⟨k13, rfl⟩
    have yk13 : s14.2 = σ.2 := k13.2.1.trans yk11
    have uk13 : s14.1 6 0 = σ.1 6 0 := k13.2.2.trans uk11
    change ev_wp pg_F pg_lay none [] (ev_lu pg_c69) (fun _ => false) _ 1811 58 [some (.ref 6), some (.int 5), some (.int (sp_add (sp_add (sp_add (sp_add (sp_add (sp_add (sp_add 0 (σ.1 11 (Int32.toNatClampNeg 0))) (σ.1 11 (Int32.toNatClampNeg 1))) (σ.1 11 (Int32.toNatClampNeg 2))) (σ.1 11 (Int32.toNatClampNeg 3))) (σ.1 11 (Int32.toNatClampNeg 4))) (σ.1 11 (Int32.toNatClampNeg 5))) (σ.1 11 (Int32.toNatClampNeg 6)))), some (.int 6)] [] s14
    refine ⟨fun h => absurd h (by decide), fun _ => ?_⟩
    change ev_wp pg_F pg_lay none [] (ev_lu pg_c69) (fun _ => false) _ 1806 46 [some (.ref 6), some (.int 5), some (.int (sp_add (sp_add (sp_add (sp_add (sp_add (sp_add (sp_add 0 (σ.1 11 (Int32.toNatClampNeg 0))) (σ.1 11 (Int32.toNatClampNeg 1))) (σ.1 11 (Int32.toNatClampNeg 2))) (σ.1 11 (Int32.toNatClampNeg 3))) (σ.1 11 (Int32.toNatClampNeg 4))) (σ.1 11 (Int32.toNatClampNeg 5))) (σ.1 11 (Int32.toNatClampNeg 6)))), some (.int 7)] [] s14
    refine ⟨sp_in rfl rfl, ?_⟩
    change ev_wp pg_F pg_lay none [] (ev_lu pg_c69) (fun _ => false) _ 1799 55 [some (.ref 6), some (.int 5), some (.int (sp_add (sp_add (sp_add (sp_add (sp_add (sp_add (sp_add 0 (σ.1 11 (Int32.toNatClampNeg 0))) (σ.1 11 (Int32.toNatClampNeg 1))) (σ.1 11 (Int32.toNatClampNeg 2))) (σ.1 11 (Int32.toNatClampNeg 3))) (σ.1 11 (Int32.toNatClampNeg 4))) (σ.1 11 (Int32.toNatClampNeg 5))) (σ.1 11 (Int32.toNatClampNeg 6)))), some (.int 7)] [.int (s14.1 11 (Int32.toNatClampNeg 7)), .int 7, .int 5, .ref 6] s14
    refine ⟨sp_in rfl rfl, ?_⟩
    rintro _ s16 ⟨k15, rfl⟩
    have yk15 : s16.2 = σ.2 := k15.2.1.trans yk13
    have uk15 : s16.1 6 0 = σ.1 6 0 := k15.2.2.trans uk13
    change ev_wp pg_F pg_lay none [] (ev_lu pg_c69) (fun _ => false) _ 1798 58 [some (.ref 6), some (.int 5), some (.int (sp_add (sp_add (sp_add (sp_add (sp_add (sp_add (sp_add 0 (σ.1 11 (Int32.toNatClampNeg 0))) (σ.1 11 (Int32.toNatClampNeg 1))) (σ.1 11 (Int32.toNatClampNeg 2))) (σ.1 11 (Int32.toNatClampNeg 3))) (σ.1 11 (Int32.toNatClampNeg 4))) (σ.1 11 (Int32.toNatClampNeg 5))) (σ.1 11 (Int32.toNatClampNeg 6)))), some (.int 7)] [] s16
    refine ⟨fun _ => ?_, fun h => absurd (by decide) h⟩
    change ev_wp pg_F pg_lay none [] (ev_lu pg_c69) (fun _ => false) _ 1793 64 [some (.ref 6), some (.int 5), some (.int (sp_add (sp_add (sp_add (sp_add (sp_add (sp_add (sp_add 0 (σ.1 11 (Int32.toNatClampNeg 0))) (σ.1 11 (Int32.toNatClampNeg 1))) (σ.1 11 (Int32.toNatClampNeg 2))) (σ.1 11 (Int32.toNatClampNeg 3))) (σ.1 11 (Int32.toNatClampNeg 4))) (σ.1 11 (Int32.toNatClampNeg 5))) (σ.1 11 (Int32.toNatClampNeg 6)))), some (.int 8)] [] s16
    exact ⟨rfl, Nat.le_of_eq (congrArg Prod.snd yk15), ⟨yk15, uk15⟩, rfl⟩
  · cases h
theorem pr_101 : pg_Rn pg_F 101 pg_y101 [] pg_t101 := by
  intro vs σ P h hp
  replace h : pf_101 vs σ = some P := h
  unfold pf_101 at h
  split at h
  · rename_i b
    cases h
    obtain ⟨rfl, hz⟩ := hp
    refine ⟨by simp [Value.category], Nat.le_of_ble_eq_true rfl, ev_go pg_hhs pg_cd pg_o101 (fun _ => false) 2000 (Q1 := ev_at (ev_tl pg_t101) σ.2.2 (sp_v ((5) = 5 ∧ md_z4 σ) (fun σ' => σ'.2 = σ.2 ∧ σ'.1 6 0 = σ.1 6 0)).2) ?_ (fun _ _ _ _ h => ev_fin h)⟩
    change ev_wp pg_F pg_lay none [] (ev_lu pg_c101) (fun _ => false) _ 2000 0 [some (.ref 6), some (.int 5), none] [] σ
    refine ⟨⟨hz, ⟨5, by decide, by decide, rfl⟩, ⟨7, by decide, by decide, rfl⟩⟩, ?_⟩
    rintro _ _ ⟨rfl, rfl⟩
    change ev_wp pg_F pg_lay none [] (ev_lu pg_c101) (fun _ => false) _ 1997 5 [some (.ref 6), some (.int 5), none] [.int (-1)] σ
    refine ⟨fun h => absurd h (by decide), fun _ => ?_⟩
    change ev_wp pg_F pg_lay none [] (ev_lu pg_c101) (fun _ => false) _ 1991 15 [some (.ref 6), some (.int 5), some (.int (-1))] [.int 0, .ref 11] σ
    refine ⟨sp_in rfl rfl, ?_⟩
    change ev_wp pg_F pg_lay none [] (ev_lu pg_c101) (fun _ => false) _ 1988 31 [some (.ref 6), some (.int 5), some (.int (-1))] [] (ev_up σ 11 (Int32.toNatClampNeg 0) 1)
    refine ⟨fun h => absurd h (by decide), fun _ => ?_⟩
    change ev_wp pg_F pg_lay none [] (ev_lu pg_c101) (fun _ => false) _ 1984 43 [some (.ref 6), some (.int 5), some (.int (-1))] [.ref 6] (ev_up σ 11 (Int32.toNatClampNeg 0) 1)
    refine ⟨rfl, ?_⟩
    rintro _ s2 ⟨k1, rfl⟩
    have yk1 : s2.2 = σ.2 := k1.1.trans rfl
    have uk1 : s2.1 6 0 = σ.1 6 0 := k1.2.trans rfl
    exact ⟨rfl, Nat.le_of_eq (congrArg Prod.snd yk1), ⟨yk1, uk1⟩, rfl⟩
  · cases h
theorem pr_65 : pg_Rn pg_F 65 pg_y65 [] pg_t65 := by
  intro vs σ P h hp
  replace h : pf_65 vs σ = some P := h
  unfold pf_65 at h
  split at h
  · rename_i g d m
    cases h
    refine ⟨by simp [Value.category], Nat.le_of_ble_eq_true rfl, ev_go pg_hhs pg_cd pg_o65 (fun _ => false) 2000 (Q1 := ev_at (ev_tl pg_t65) σ.2.2 (sp_v (md_fresh σ) (fun σ' => md_t σ σ' ∧ (sp_clk g d m = 0 ∧ σ'.1 6 0 = 1 ∨ ¬ sp_clk g d m = 0 ∧ σ'.1 6 0 = 0))).2) ?_ (fun _ _ _ _ h => ev_fin h)⟩
    change ev_wp pg_F pg_lay none [] (ev_lu pg_c65) (fun _ => false) _ 2000 0 [some (.ref 6), some (.int g), some (.int d), some (.int m)] [] σ
    refine ⟨trivial, ?_⟩
    rintro _ _ ⟨rfl, rfl⟩
    change ev_wp pg_F pg_lay none [] (ev_lu pg_c65) (fun _ => false) _ 1994 9 [some (.ref 6), some (.int g), some (.int d), some (.int m)] [.int (sp_upto g 11), .int 1, .ref 6] σ
    refine ⟨fun (h1 : (sp_upto g 11) = 0) => ?_, fun (h1 : ¬ (sp_upto g 11) = 0) => ?_⟩
    · skip
      change ev_wp pg_F pg_lay none [] (ev_lu pg_c65) (fun _ => false) _ 1993 34 [some (.ref 6), some (.int g), some (.int d), some (.int m)] [.int 1, .ref 6] σ
      refine ⟨Or.inr rfl, ?_⟩
      rintro _ _ ⟨_, ⟨rfl, rfl⟩, rfl⟩
      change ev_wp pg_F pg_lay none [] (ev_lu pg_c65) (fun _ => false) _ 1990 42 [some (.ref 6), some (.int g), some (.int d), some (.int m)] [.int 1] (ev_up σ 6 0 1)
      refine ⟨fun h => absurd h (by decide), fun _ => ?_⟩
      change ev_wp pg_F pg_lay none [] (ev_lu pg_c65) (fun _ => false) _ 1989 45 [some (.ref 6), some (.int g), some (.int d), some (.int m)] [] (ev_up σ 6 0 1)
      exact ⟨rfl, Nat.le_of_eq (congrArg Prod.snd (show (ev_up σ 6 0 1).2 = σ.2 from rfl)), ⟨rfl, Or.inl ⟨(by rw [← md_clk_eq g d m]; unfold md_clk; rw [if_pos h1]), rfl⟩⟩, rfl⟩
    · skip
      change ev_wp pg_F pg_lay none [] (ev_lu pg_c65) (fun _ => false) _ 1993 12 [some (.ref 6), some (.int g), some (.int d), some (.int m)] [.int 1, .ref 6] σ
      refine ⟨trivial, ?_⟩
      rintro _ _ ⟨rfl, rfl⟩
      change ev_wp pg_F pg_lay none [] (ev_lu pg_c65) (fun _ => false) _ 1989 20 [some (.ref 6), some (.int g), some (.int d), some (.int m)] [.int (sp_upto d 9999), .int 1, .ref 6] σ
      refine ⟨fun (h2 : (sp_upto d 9999) = 0) => ?_, fun (h2 : ¬ (sp_upto d 9999) = 0) => ?_⟩
      · skip
        change ev_wp pg_F pg_lay none [] (ev_lu pg_c65) (fun _ => false) _ 1988 34 [some (.ref 6), some (.int g), some (.int d), some (.int m)] [.int 1, .ref 6] σ
        refine ⟨Or.inr rfl, ?_⟩
        rintro _ _ ⟨_, ⟨rfl, rfl⟩, rfl⟩
        change ev_wp pg_F pg_lay none [] (ev_lu pg_c65) (fun _ => false) _ 1985 42 [some (.ref 6), some (.int g), some (.int d), some (.int m)] [.int 1] (ev_up σ 6 0 1)
        refine ⟨fun h => absurd h (by decide), fun _ => ?_⟩
        change ev_wp pg_F pg_lay none [] (ev_lu pg_c65) (fun _ => false) _ 1984 45 [some (.ref 6), some (.int g), some (.int d), some (.int m)] [] (ev_up σ 6 0 1)
        exact ⟨rfl, Nat.le_of_eq (congrArg Prod.snd (show (ev_up σ 6 0 1).2 = σ.2 from rfl)), ⟨rfl, Or.inl ⟨(by rw [← md_clk_eq g d m]; unfold md_clk; rw [if_neg h1, if_pos h2]), rfl⟩⟩, rfl⟩
      · skip
        change ev_wp pg_F pg_lay none [] (ev_lu pg_c65) (fun _ => false) _ 1988 23 [some (.ref 6), some (.int g), some (.int d), some (.int m)] [.int 1, .ref 6] σ
        refine ⟨trivial, ?_⟩
        rintro _ _ ⟨rfl, rfl⟩
        change ev_wp pg_F pg_lay none [] (ev_lu pg_c65) (fun _ => false) _ 1984 31 [some (.ref 6), some (.int g), some (.int d), some (.int m)] [.int (sp_upto m 1439), .int 1, .ref 6] σ
        refine ⟨fun (h3 : (sp_upto m 1439) = 0) => ?_, fun (h3 : ¬ (sp_upto m 1439) = 0) => ?_⟩
        · skip
          change ev_wp pg_F pg_lay none [] (ev_lu pg_c65) (fun _ => false) _ 1983 34 [some (.ref 6), some (.int g), some (.int d), some (.int m)] [.int 1, .ref 6] σ
          refine ⟨Or.inr rfl, ?_⟩
          rintro _ _ ⟨_, ⟨rfl, rfl⟩, rfl⟩
          change ev_wp pg_F pg_lay none [] (ev_lu pg_c65) (fun _ => false) _ 1980 42 [some (.ref 6), some (.int g), some (.int d), some (.int m)] [.int 1] (ev_up σ 6 0 1)
          refine ⟨fun h => absurd h (by decide), fun _ => ?_⟩
          change ev_wp pg_F pg_lay none [] (ev_lu pg_c65) (fun _ => false) _ 1979 45 [some (.ref 6), some (.int g), some (.int d), some (.int m)] [] (ev_up σ 6 0 1)
          exact ⟨rfl, Nat.le_of_eq (congrArg Prod.snd (show (ev_up σ 6 0 1).2 = σ.2 from rfl)), ⟨rfl, Or.inl ⟨(by rw [← md_clk_eq g d m]; unfold md_clk; rw [if_neg h1, if_neg h2, if_pos h3]), rfl⟩⟩, rfl⟩
        · skip
          change ev_wp pg_F pg_lay none [] (ev_lu pg_c65) (fun _ => false) _ 1983 38 [some (.ref 6), some (.int g), some (.int d), some (.int m)] [.int 1, .ref 6] σ
          refine ⟨Or.inl rfl, ?_⟩
          rintro _ _ ⟨_, ⟨rfl, rfl⟩, rfl⟩
          change ev_wp pg_F pg_lay none [] (ev_lu pg_c65) (fun _ => false) _ 1981 42 [some (.ref 6), some (.int g), some (.int d), some (.int m)] [.int 0] (ev_up σ 6 0 0)
          refine ⟨fun _ => ?_, fun h => absurd (by decide) h⟩
          change ev_wp pg_F pg_lay none [] (ev_lu pg_c65) (fun _ => false) _ 1980 46 [some (.ref 6), some (.int g), some (.int d), some (.int m)] [] (ev_up σ 6 0 0)
          refine ⟨sp_upto_in h1, ?_⟩
          change ev_wp pg_F pg_lay none [] (ev_lu pg_c65) (fun _ => false) _ 1975 53 [some (.ref 6), some (.int g), some (.int d), some (.int m)] [] (ev_up (ev_up σ 6 0 0) 8 (Int32.toNatClampNeg g) d)
          refine ⟨sp_upto_in h1, ?_⟩
          exact ⟨rfl, Nat.le_of_eq (congrArg Prod.snd (show (ev_up (ev_up (ev_up σ 6 0 0) 8 (Int32.toNatClampNeg g) d) 9 (Int32.toNatClampNeg g) m).2 = σ.2 from rfl)), ⟨rfl, Or.inr ⟨(by rw [← md_clk_eq g d m]; unfold md_clk; rw [if_neg h1, if_neg h2, if_neg h3]; decide), rfl⟩⟩, rfl⟩
  · cases h
theorem pr_59 : pg_Rn pg_F 59 pg_y59 [] pg_t59 := by
  intro vs σ P h hp
  replace h : pf_59 vs σ = some P := h
  unfold pf_59 at h
  split at h
  · rename_i g x
    cases h
    refine ⟨by simp [Value.category], Nat.le_of_ble_eq_true rfl, ev_go pg_hhs pg_cd pg_o59 (fun _ => false) 2000 (Q1 := ev_at (ev_tl pg_t59) σ.2.2 (sp_v (md_fresh σ) (fun σ' => md_t σ σ' ∧ (sp_upto g 11 = 0 ∧ σ'.1 6 0 = 1 ∨ ¬ sp_upto g 11 = 0 ∧ σ'.1 6 0 = 0))).2) ?_ (fun _ _ _ _ h => ev_fin h)⟩
    change ev_wp pg_F pg_lay none [] (ev_lu pg_c59) (fun _ => false) _ 2000 0 [some (.ref 6), some (.int g), some (.int x)] [] σ
    refine ⟨trivial, ?_⟩
    rintro _ _ ⟨rfl, rfl⟩
    change ev_wp pg_F pg_lay none [] (ev_lu pg_c59) (fun _ => false) _ 1994 9 [some (.ref 6), some (.int g), some (.int x)] [.int (sp_upto g 11), .int 1, .ref 6] σ
    refine ⟨fun (h1 : (sp_upto g 11) = 0) => ?_, fun (h1 : ¬ (sp_upto g 11) = 0) => ?_⟩
    · skip
      change ev_wp pg_F pg_lay none [] (ev_lu pg_c59) (fun _ => false) _ 1993 12 [some (.ref 6), some (.int g), some (.int x)] [.int 1, .ref 6] σ
      refine ⟨Or.inr rfl, ?_⟩
      rintro _ _ ⟨_, ⟨rfl, rfl⟩, rfl⟩
      change ev_wp pg_F pg_lay none [] (ev_lu pg_c59) (fun _ => false) _ 1990 20 [some (.ref 6), some (.int g), some (.int x)] [.int 1] (ev_up σ 6 0 1)
      refine ⟨fun h => absurd h (by decide), fun _ => ?_⟩
      change ev_wp pg_F pg_lay none [] (ev_lu pg_c59) (fun _ => false) _ 1989 30 [some (.ref 6), some (.int g), some (.int x)] [] (ev_up σ 6 0 1)
      exact ⟨rfl, Nat.le_of_eq (congrArg Prod.snd (show (ev_up σ 6 0 1).2 = σ.2 from rfl)), ⟨rfl, Or.inl ⟨h1, rfl⟩⟩, rfl⟩
    · skip
      change ev_wp pg_F pg_lay none [] (ev_lu pg_c59) (fun _ => false) _ 1993 16 [some (.ref 6), some (.int g), some (.int x)] [.int 1, .ref 6] σ
      refine ⟨Or.inl rfl, ?_⟩
      rintro _ _ ⟨_, ⟨rfl, rfl⟩, rfl⟩
      change ev_wp pg_F pg_lay none [] (ev_lu pg_c59) (fun _ => false) _ 1991 20 [some (.ref 6), some (.int g), some (.int x)] [.int 0] (ev_up σ 6 0 0)
      refine ⟨fun _ => ?_, fun h => absurd (by decide) h⟩
      change ev_wp pg_F pg_lay none [] (ev_lu pg_c59) (fun _ => false) _ 1990 23 [some (.ref 6), some (.int g), some (.int x)] [] (ev_up σ 6 0 0)
      refine ⟨sp_upto_in h1, ?_⟩
      exact ⟨rfl, Nat.le_of_eq (congrArg Prod.snd (show (ev_up (ev_up σ 6 0 0) 10 (Int32.toNatClampNeg g) (vp_nar .boolean x)).2 = σ.2 from rfl)), ⟨rfl, Or.inr ⟨h1, rfl⟩⟩, rfl⟩
  · cases h
theorem pr_66 : pg_Rn pg_F 66 pg_y66 [] pg_t66 := by
  intro vs σ P h hp
  replace h : pf_66 vs σ = some P := h
  unfold pf_66 at h
  split at h
  · rename_i n j
    cases h
    refine ⟨by simp [Value.category], Nat.le_of_ble_eq_true rfl, ev_go pg_hhs pg_cd pg_o66 (fun _ => false) 2000 (Q1 := ev_at (ev_tl pg_t66) σ.2.2 (sp_v (md_fresh σ) (fun σ' => md_t σ σ' ∧ (sp_tr n j = 0 ∧ σ'.1 6 0 = 1 ∨ ¬ sp_tr n j = 0 ∧ σ'.1 6 0 = 0))).2) ?_ (fun _ _ _ _ h => ev_fin h)⟩
    change ev_wp pg_F pg_lay none [] (ev_lu pg_c66) (fun _ => false) _ 2000 0 [some (.ref 6), some (.int n), some (.int j)] [] σ
    refine ⟨trivial, ?_⟩
    rintro _ _ ⟨rfl, rfl⟩
    change ev_wp pg_F pg_lay none [] (ev_lu pg_c66) (fun _ => false) _ 1994 9 [some (.ref 6), some (.int n), some (.int j)] [.int (sp_upto n 100), .int 1, .ref 6] σ
    refine ⟨fun (h1 : (sp_upto n 100) = 0) => ?_, fun (h1 : ¬ (sp_upto n 100) = 0) => ?_⟩
    · skip
      change ev_wp pg_F pg_lay none [] (ev_lu pg_c66) (fun _ => false) _ 1993 22 [some (.ref 6), some (.int n), some (.int j)] [.int 1, .ref 6] σ
      refine ⟨Or.inr rfl, ?_⟩
      rintro _ _ ⟨_, ⟨rfl, rfl⟩, rfl⟩
      change ev_wp pg_F pg_lay none [] (ev_lu pg_c66) (fun _ => false) _ 1990 30 [some (.ref 6), some (.int n), some (.int j)] [.int 1] (ev_up σ 6 0 1)
      refine ⟨fun h => absurd h (by decide), fun _ => ?_⟩
      change ev_wp pg_F pg_lay none [] (ev_lu pg_c66) (fun _ => false) _ 1989 33 [some (.ref 6), some (.int n), some (.int j)] [] (ev_up σ 6 0 1)
      exact ⟨rfl, Nat.le_of_eq (congrArg Prod.snd (show (ev_up σ 6 0 1).2 = σ.2 from rfl)), ⟨rfl, Or.inl ⟨(by unfold sp_tr; rw [if_pos h1]), rfl⟩⟩, rfl⟩
    · skip
      change ev_wp pg_F pg_lay none [] (ev_lu pg_c66) (fun _ => false) _ 1993 12 [some (.ref 6), some (.int n), some (.int j)] [.int 1, .ref 6] σ
      refine ⟨trivial, ?_⟩
      rintro _ _ ⟨rfl, rfl⟩
      change ev_wp pg_F pg_lay none [] (ev_lu pg_c66) (fun _ => false) _ 1989 19 [some (.ref 6), some (.int n), some (.int j)] [.int (sp_upto j 65535), .int 1, .ref 6] σ
      refine ⟨fun (h2 : (sp_upto j 65535) = 0) => ?_, fun (h2 : ¬ (sp_upto j 65535) = 0) => ?_⟩
      · skip
        change ev_wp pg_F pg_lay none [] (ev_lu pg_c66) (fun _ => false) _ 1988 22 [some (.ref 6), some (.int n), some (.int j)] [.int 1, .ref 6] σ
        refine ⟨Or.inr rfl, ?_⟩
        rintro _ _ ⟨_, ⟨rfl, rfl⟩, rfl⟩
        change ev_wp pg_F pg_lay none [] (ev_lu pg_c66) (fun _ => false) _ 1985 30 [some (.ref 6), some (.int n), some (.int j)] [.int 1] (ev_up σ 6 0 1)
        refine ⟨fun h => absurd h (by decide), fun _ => ?_⟩
        change ev_wp pg_F pg_lay none [] (ev_lu pg_c66) (fun _ => false) _ 1984 33 [some (.ref 6), some (.int n), some (.int j)] [] (ev_up σ 6 0 1)
        exact ⟨rfl, Nat.le_of_eq (congrArg Prod.snd (show (ev_up σ 6 0 1).2 = σ.2 from rfl)), ⟨rfl, Or.inl ⟨(by unfold sp_tr; rw [if_neg h1, if_pos h2]), rfl⟩⟩, rfl⟩
      · skip
        change ev_wp pg_F pg_lay none [] (ev_lu pg_c66) (fun _ => false) _ 1988 26 [some (.ref 6), some (.int n), some (.int j)] [.int 1, .ref 6] σ
        refine ⟨Or.inl rfl, ?_⟩
        rintro _ _ ⟨_, ⟨rfl, rfl⟩, rfl⟩
        change ev_wp pg_F pg_lay none [] (ev_lu pg_c66) (fun _ => false) _ 1986 30 [some (.ref 6), some (.int n), some (.int j)] [.int 0] (ev_up σ 6 0 0)
        refine ⟨fun _ => ?_, fun h => absurd (by decide) h⟩
        change ev_wp pg_F pg_lay none [] (ev_lu pg_c66) (fun _ => false) _ 1985 34 [some (.ref 6), some (.int n), some (.int j)] [] (ev_up σ 6 0 0)
        exact ⟨rfl, Nat.le_of_eq (congrArg Prod.snd (show (ev_up (ev_up (ev_up σ 6 0 0) 6 8 n) 6 9 j).2 = σ.2 from rfl)), ⟨rfl, Or.inr ⟨(by unfold sp_tr; rw [if_neg h1, if_neg h2]; decide), rfl⟩⟩, rfl⟩
  · cases h
theorem pr_135 : pg_Rn pg_F 135 pg_y135 [] pg_t135 := by
  intro vs σ P h hp
  replace h : pf_135 vs σ = some P := h
  unfold pf_135 at h
  split at h
  · rename_i l z d
    cases h
    refine ⟨by simp [Value.category], Nat.le_of_ble_eq_true rfl, ev_go pg_hhs pg_cd pg_o135 (fun _ => false) 2000 (Q1 := ev_at (ev_tl pg_t135) σ.2.2 (sp_m (md_fresh σ) (fun v σ' => md_t σ σ' ∧ (sp_val l z d = 0 ∧ σ'.1 6 0 = 1 ∨ ¬ sp_val l z d = 0 ∧ σ'.1 6 0 = 2))).2) ?_ (fun _ _ _ _ h => ev_fin h)⟩
    change ev_wp pg_F pg_lay none [] (ev_lu pg_c135) (fun _ => false) _ 2000 0 [some (.ref 6), some (.int l), some (.int z), some (.int d), none, none, none] [] σ
    refine ⟨trivial, ?_⟩
    rintro _ _ ⟨rfl, rfl⟩
    change ev_wp pg_F pg_lay none [] (ev_lu pg_c135) (fun _ => false) _ 1994 10 [some (.ref 6), some (.int l), some (.int z), some (.int d), none, none, none] [.int (sp_upto l 255), .int 1, .ref 6] σ
    refine ⟨fun (h1 : (sp_upto l 255) = 0) => ?_, fun (h1 : ¬ (sp_upto l 255) = 0) => ?_⟩
    · skip
      change ev_wp pg_F pg_lay none [] (ev_lu pg_c135) (fun _ => false) _ 1993 33 [some (.ref 6), some (.int l), some (.int z), some (.int d), none, none, none] [.int 1, .ref 6] σ
      refine ⟨Or.inr rfl, ?_⟩
      rintro _ _ ⟨_, ⟨rfl, rfl⟩, rfl⟩
      change ev_wp pg_F pg_lay none [] (ev_lu pg_c135) (fun _ => false) _ 1990 41 [some (.ref 6), some (.int l), some (.int z), some (.int d), none, none, none] [.int 1] (ev_up σ 6 0 1)
      refine ⟨fun h => absurd h (by decide), fun _ => ?_⟩
      change ev_wp pg_F pg_lay none [] (ev_lu pg_c135) (fun _ => false) _ 1989 64 [some (.ref 6), some (.int l), some (.int z), some (.int d), none, none, none] [] (ev_up σ 6 0 1)
      exact ⟨_, rfl, Nat.le_of_eq (congrArg Prod.snd (show (ev_up σ 6 0 1).2 = σ.2 from rfl)), _, ⟨rfl, Or.inl ⟨(by unfold sp_val; rw [if_pos h1]), rfl⟩⟩, rfl⟩
    · skip
      change ev_wp pg_F pg_lay none [] (ev_lu pg_c135) (fun _ => false) _ 1993 13 [some (.ref 6), some (.int l), some (.int z), some (.int d), none, none, none] [.int 1, .ref 6] σ
      refine ⟨trivial, ?_⟩
      rintro _ _ ⟨rfl, rfl⟩
      change ev_wp pg_F pg_lay none [] (ev_lu pg_c135) (fun _ => false) _ 1989 20 [some (.ref 6), some (.int l), some (.int z), some (.int d), none, none, none] [.int (sp_upto z 15), .int 1, .ref 6] σ
      refine ⟨fun (h2 : (sp_upto z 15) = 0) => ?_, fun (h2 : ¬ (sp_upto z 15) = 0) => ?_⟩
      · skip
        change ev_wp pg_F pg_lay none [] (ev_lu pg_c135) (fun _ => false) _ 1988 33 [some (.ref 6), some (.int l), some (.int z), some (.int d), none, none, none] [.int 1, .ref 6] σ
        refine ⟨Or.inr rfl, ?_⟩
        rintro _ _ ⟨_, ⟨rfl, rfl⟩, rfl⟩
        change ev_wp pg_F pg_lay none [] (ev_lu pg_c135) (fun _ => false) _ 1985 41 [some (.ref 6), some (.int l), some (.int z), some (.int d), none, none, none] [.int 1] (ev_up σ 6 0 1)
        refine ⟨fun h => absurd h (by decide), fun _ => ?_⟩
        change ev_wp pg_F pg_lay none [] (ev_lu pg_c135) (fun _ => false) _ 1984 64 [some (.ref 6), some (.int l), some (.int z), some (.int d), none, none, none] [] (ev_up σ 6 0 1)
        exact ⟨_, rfl, Nat.le_of_eq (congrArg Prod.snd (show (ev_up σ 6 0 1).2 = σ.2 from rfl)), _, ⟨rfl, Or.inl ⟨(by unfold sp_val; rw [if_neg h1, if_pos h2]), rfl⟩⟩, rfl⟩
      · skip
        change ev_wp pg_F pg_lay none [] (ev_lu pg_c135) (fun _ => false) _ 1988 23 [some (.ref 6), some (.int l), some (.int z), some (.int d), none, none, none] [.int 1, .ref 6] σ
        refine ⟨trivial, ?_⟩
        rintro _ _ ⟨rfl, rfl⟩
        change ev_wp pg_F pg_lay none [] (ev_lu pg_c135) (fun _ => false) _ 1984 30 [some (.ref 6), some (.int l), some (.int z), some (.int d), none, none, none] [.int (sp_upto d 15), .int 1, .ref 6] σ
        refine ⟨fun (h3 : (sp_upto d 15) = 0) => ?_, fun (h3 : ¬ (sp_upto d 15) = 0) => ?_⟩
        · skip
          change ev_wp pg_F pg_lay none [] (ev_lu pg_c135) (fun _ => false) _ 1983 33 [some (.ref 6), some (.int l), some (.int z), some (.int d), none, none, none] [.int 1, .ref 6] σ
          refine ⟨Or.inr rfl, ?_⟩
          rintro _ _ ⟨_, ⟨rfl, rfl⟩, rfl⟩
          change ev_wp pg_F pg_lay none [] (ev_lu pg_c135) (fun _ => false) _ 1980 41 [some (.ref 6), some (.int l), some (.int z), some (.int d), none, none, none] [.int 1] (ev_up σ 6 0 1)
          refine ⟨fun h => absurd h (by decide), fun _ => ?_⟩
          change ev_wp pg_F pg_lay none [] (ev_lu pg_c135) (fun _ => false) _ 1979 64 [some (.ref 6), some (.int l), some (.int z), some (.int d), none, none, none] [] (ev_up σ 6 0 1)
          exact ⟨_, rfl, Nat.le_of_eq (congrArg Prod.snd (show (ev_up σ 6 0 1).2 = σ.2 from rfl)), _, ⟨rfl, Or.inl ⟨(by unfold sp_val; rw [if_neg h1, if_neg h2, if_pos h3]), rfl⟩⟩, rfl⟩
        · skip
          change ev_wp pg_F pg_lay none [] (ev_lu pg_c135) (fun _ => false) _ 1983 37 [some (.ref 6), some (.int l), some (.int z), some (.int d), none, none, none] [.int 1, .ref 6] σ
          refine ⟨Or.inl rfl, ?_⟩
          rintro _ _ ⟨_, ⟨rfl, rfl⟩, rfl⟩
          change ev_wp pg_F pg_lay none [] (ev_lu pg_c135) (fun _ => false) _ 1981 41 [some (.ref 6), some (.int l), some (.int z), some (.int d), none, none, none] [.int 0] (ev_up σ 6 0 0)
          refine ⟨fun _ => ?_, fun h => absurd (by decide) h⟩
          change ev_wp pg_F pg_lay none [] (ev_lu pg_c135) (fun _ => false) _ 1980 44 [some (.ref 6), some (.int l), some (.int z), some (.int d), none, none, none] [] (ev_up σ 6 0 0)
          refine ⟨fun (h4 : 0 ≤ ((ev_up σ 6 0 0).1 6 5)) => ?_, fun (h4 : ¬ 0 ≤ ((ev_up σ 6 0 0).1 6 5)) => ?_⟩
          · exact ((show False from by have h4 : (0 : Int32) ≤ σ.1 6 5 := h4; rw [hp.2.1] at h4; exact absurd h4 (by decide))).elim
          · skip
            change ev_wp pg_F pg_lay none [] (ev_lu pg_c135) (fun _ => false) _ 1975 53 [some (.ref 6), some (.int l), some (.int z), some (.int d), none, none, none] [.int 2, .ref 6] (ev_up σ 6 0 0)
            refine ⟨Or.inr rfl, ?_⟩
            rintro _ _ ⟨_, ⟨rfl, rfl⟩, rfl⟩
            change ev_wp pg_F pg_lay none [] (ev_lu pg_c135) (fun _ => false) _ 1972 61 [some (.ref 6), some (.int l), some (.int z), some (.int d), none, none, none] [.int 1] (ev_up (ev_up σ 6 0 0) 6 0 2)
            refine ⟨fun h => absurd h (by decide), fun _ => ?_⟩
            change ev_wp pg_F pg_lay none [] (ev_lu pg_c135) (fun _ => false) _ 1971 64 [some (.ref 6), some (.int l), some (.int z), some (.int d), none, none, none] [] (ev_up (ev_up σ 6 0 0) 6 0 2)
            exact ⟨_, rfl, Nat.le_of_eq (congrArg Prod.snd (show (ev_up (ev_up σ 6 0 0) 6 0 2).2 = σ.2 from rfl)), _, ⟨rfl, Or.inr ⟨(by unfold sp_val; rw [if_neg h1, if_neg h2, if_neg h3]; decide), rfl⟩⟩, rfl⟩
  · cases h
theorem pr_114 : pg_Rn pg_F 114 pg_y114 [] pg_t114 := by
  intro vs σ P h hp
  replace h : pf_114 vs σ = some P := h
  unfold pf_114 at h
  split at h
  · rename_i c
    cases h
    refine ⟨by simp [Value.category], Nat.le_of_ble_eq_true rfl, ev_go pg_hhs pg_cd pg_o114 (fun _ => false) 2000 (Q1 := ev_at (ev_tl pg_t114) σ.2.2 (sp_m (md_fresh σ) (fun v σ' => md_t σ σ' ∧ (sp_top c = 0 ∧ σ'.1 6 0 = 1 ∨ ¬ sp_top c = 0 ∧ σ'.1 6 0 = 2))).2) ?_ (fun _ _ _ _ h => ev_fin h)⟩
    change ev_wp pg_F pg_lay none [] (ev_lu pg_c114) (fun _ => false) _ 2000 0 [some (.ref 6), some (.int c), none] [] σ
    refine ⟨trivial, ?_⟩
    rintro _ _ ⟨rfl, rfl⟩
    change ev_wp pg_F pg_lay none [] (ev_lu pg_c114) (fun _ => false) _ 1994 9 [some (.ref 6), some (.int c), none] [.int (sp_isin c 1 65535), .int 1, .ref 6] σ
    refine ⟨fun (h1 : (sp_isin c 1 65535) = 0) => ?_, fun (h1 : ¬ (sp_isin c 1 65535) = 0) => ?_⟩
    · skip
      change ev_wp pg_F pg_lay none [] (ev_lu pg_c114) (fun _ => false) _ 1993 12 [some (.ref 6), some (.int c), none] [.int 1, .ref 6] σ
      refine ⟨Or.inr rfl, ?_⟩
      rintro _ _ ⟨_, ⟨rfl, rfl⟩, rfl⟩
      change ev_wp pg_F pg_lay none [] (ev_lu pg_c114) (fun _ => false) _ 1990 20 [some (.ref 6), some (.int c), none] [.int 1] (ev_up σ 6 0 1)
      refine ⟨fun h => absurd h (by decide), fun _ => ?_⟩
      change ev_wp pg_F pg_lay none [] (ev_lu pg_c114) (fun _ => false) _ 1989 43 [some (.ref 6), some (.int c), none] [] (ev_up σ 6 0 1)
      exact ⟨_, rfl, Nat.le_of_eq (congrArg Prod.snd (show (ev_up σ 6 0 1).2 = σ.2 from rfl)), _, ⟨rfl, Or.inl ⟨(by rw [← sp_top_in]; exact h1), rfl⟩⟩, rfl⟩
    · skip
      change ev_wp pg_F pg_lay none [] (ev_lu pg_c114) (fun _ => false) _ 1993 16 [some (.ref 6), some (.int c), none] [.int 1, .ref 6] σ
      refine ⟨Or.inl rfl, ?_⟩
      rintro _ _ ⟨_, ⟨rfl, rfl⟩, rfl⟩
      change ev_wp pg_F pg_lay none [] (ev_lu pg_c114) (fun _ => false) _ 1991 20 [some (.ref 6), some (.int c), none] [.int 0] (ev_up σ 6 0 0)
      refine ⟨fun _ => ?_, fun h => absurd (by decide) h⟩
      change ev_wp pg_F pg_lay none [] (ev_lu pg_c114) (fun _ => false) _ 1990 23 [some (.ref 6), some (.int c), none] [] (ev_up σ 6 0 0)
      refine ⟨fun (h2 : 0 ≤ ((ev_up σ 6 0 0).1 6 5)) => ?_, fun (h2 : ¬ 0 ≤ ((ev_up σ 6 0 0).1 6 5)) => ?_⟩
      · exact ((show False from by have h2 : (0 : Int32) ≤ σ.1 6 5 := h2; rw [hp.2.1] at h2; exact absurd h2 (by decide))).elim
      · skip
        change ev_wp pg_F pg_lay none [] (ev_lu pg_c114) (fun _ => false) _ 1985 32 [some (.ref 6), some (.int c), none] [.int 2, .ref 6] (ev_up σ 6 0 0)
        refine ⟨Or.inr rfl, ?_⟩
        rintro _ _ ⟨_, ⟨rfl, rfl⟩, rfl⟩
        change ev_wp pg_F pg_lay none [] (ev_lu pg_c114) (fun _ => false) _ 1982 40 [some (.ref 6), some (.int c), none] [.int 1] (ev_up (ev_up σ 6 0 0) 6 0 2)
        refine ⟨fun h => absurd h (by decide), fun _ => ?_⟩
        change ev_wp pg_F pg_lay none [] (ev_lu pg_c114) (fun _ => false) _ 1981 43 [some (.ref 6), some (.int c), none] [] (ev_up (ev_up σ 6 0 0) 6 0 2)
        exact ⟨_, rfl, Nat.le_of_eq (congrArg Prod.snd (show (ev_up (ev_up σ 6 0 0) 6 0 2).2 = σ.2 from rfl)), _, ⟨rfl, Or.inr ⟨(by rw [← sp_top_in]; exact h1), rfl⟩⟩, rfl⟩
  · cases h
theorem pr_111 : pg_Rn pg_F 111 pg_y111 [] pg_t111 := by
  intro vs σ P h hp
  replace h : pf_111 vs σ = some P := h
  unfold pf_111 at h
  split at h
  · rename_i k a b c
    cases h
    refine ⟨by simp [Value.category], Nat.le_of_ble_eq_true rfl, ev_go pg_hhs pg_cd pg_o111 (fun _ => false) 2000 (Q1 := ev_at (ev_tl pg_t111) σ.2.2 (sp_m (md_fresh σ) (fun v σ' => md_t σ σ' ∧ (sp_prod k a b c = 0 ∧ σ'.1 6 0 = 1 ∨ ¬ sp_prod k a b c = 0 ∧ σ'.1 6 0 = 0 ∧ v = 1))).2) ?_ (fun _ _ _ _ h => ev_fin h)⟩
    change ev_wp pg_F pg_lay none [] (ev_lu pg_c111) (fun _ => false) _ 2000 0 [some (.ref 6), some (.int k), some (.int a), some (.int b), some (.int c), none] [] σ
    refine ⟨trivial, ?_⟩
    rintro _ _ ⟨rfl, rfl⟩
    change ev_wp pg_F pg_lay none [] (ev_lu pg_c111) (fun _ => false) _ 1992 11 [some (.ref 6), some (.int k), some (.int a), some (.int b), some (.int c), none] [.int (sp_prod k a b c), .int 1, .ref 6] σ
    refine ⟨fun (h1 : (sp_prod k a b c) = 0) => ?_, fun (h1 : ¬ (sp_prod k a b c) = 0) => ?_⟩
    · skip
      change ev_wp pg_F pg_lay none [] (ev_lu pg_c111) (fun _ => false) _ 1991 14 [some (.ref 6), some (.int k), some (.int a), some (.int b), some (.int c), none] [.int 1, .ref 6] σ
      refine ⟨Or.inr rfl, ?_⟩
      rintro _ _ ⟨_, ⟨rfl, rfl⟩, rfl⟩
      change ev_wp pg_F pg_lay none [] (ev_lu pg_c111) (fun _ => false) _ 1988 22 [some (.ref 6), some (.int k), some (.int a), some (.int b), some (.int c), none] [.int 1] (ev_up σ 6 0 1)
      refine ⟨fun h => absurd h (by decide), fun _ => ?_⟩
      change ev_wp pg_F pg_lay none [] (ev_lu pg_c111) (fun _ => false) _ 1987 52 [some (.ref 6), some (.int k), some (.int a), some (.int b), some (.int c), none] [] (ev_up σ 6 0 1)
      exact ⟨_, rfl, by first | exact Or.inl rfl | exact Or.inr rfl, Nat.le_of_eq (congrArg Prod.snd (show (ev_up σ 6 0 1).2 = σ.2 from rfl)), _, ⟨rfl, Or.inl ⟨h1, rfl⟩⟩, rfl⟩
    · skip
      change ev_wp pg_F pg_lay none [] (ev_lu pg_c111) (fun _ => false) _ 1991 18 [some (.ref 6), some (.int k), some (.int a), some (.int b), some (.int c), none] [.int 1, .ref 6] σ
      refine ⟨Or.inl rfl, ?_⟩
      rintro _ _ ⟨_, ⟨rfl, rfl⟩, rfl⟩
      change ev_wp pg_F pg_lay none [] (ev_lu pg_c111) (fun _ => false) _ 1989 22 [some (.ref 6), some (.int k), some (.int a), some (.int b), some (.int c), none] [.int 0] (ev_up σ 6 0 0)
      refine ⟨fun _ => ?_, fun h => absurd (by decide) h⟩
      change ev_wp pg_F pg_lay none [] (ev_lu pg_c111) (fun _ => false) _ 1988 25 [some (.ref 6), some (.int k), some (.int a), some (.int b), some (.int c), none] [] (ev_up σ 6 0 0)
      refine ⟨fun (h2 : ((ev_up σ 6 0 0).1 6 5) < 0) => ?_, fun (h2 : ¬ ((ev_up σ 6 0 0).1 6 5) < 0) => ?_⟩
      · skip
        change ev_wp pg_F pg_lay none [] (ev_lu pg_c111) (fun _ => false) _ 1983 38 [some (.ref 6), some (.int k), some (.int a), some (.int b), some (.int c), none] [.int 2, .ref 6] (ev_up σ 6 0 0)
        refine ⟨Or.inl rfl, ?_⟩
        rintro _ _ ⟨_, ⟨rfl, rfl⟩, rfl⟩
        change ev_wp pg_F pg_lay none [] (ev_lu pg_c111) (fun _ => false) _ 1981 42 [some (.ref 6), some (.int k), some (.int a), some (.int b), some (.int c), none] [.int 0] (ev_up (ev_up σ 6 0 0) 6 0 0)
        refine ⟨fun _ => ?_, fun h => absurd (by decide) h⟩
        change ev_wp pg_F pg_lay none [] (ev_lu pg_c111) (fun _ => false) _ 1980 45 [some (.ref 6), some (.int k), some (.int a), some (.int b), some (.int c), none] [] (ev_up (ev_up σ 6 0 0) 6 0 0)
        refine ⟨(hp.1 0), ?_⟩
        rintro _ _ ⟨rfl, rfl⟩
        change ev_wp pg_F pg_lay none [] (ev_lu pg_c111) (fun _ => false) _ 1978 49 [some (.ref 6), some (.int k), some (.int a), some (.int b), some (.int c), none] [.int 0] (ev_up (ev_up σ 6 0 0) 6 0 0)
        refine ⟨fun _ => ?_, fun h => absurd (by decide) h⟩
        change ev_wp pg_F pg_lay none [] (ev_lu pg_c111) (fun _ => false) _ 1977 54 [some (.ref 6), some (.int k), some (.int a), some (.int b), some (.int c), none] [] (ev_up (ev_up σ 6 0 0) 6 0 0)
        refine ⟨Or.inl rfl, ?_⟩
        change ev_wp pg_F pg_lay none [] (ev_lu pg_c111) (fun _ => false) _ 1968 70 [some (.ref 6), some (.int k), some (.int a), some (.int b), some (.int c), some (.int ((ev_up (ev_up σ 6 0 0) 6 0 0).1 6 8))] [] (ev_up (ev_up (ev_up (ev_up σ 6 0 0) 6 0 0) 6 8 (-1)) 6 10 0)
        refine ⟨sp_in rfl rfl, ?_⟩
        rintro _ s4 ⟨k3, rfl⟩
        have yk3 : s4.2 = σ.2 := k3.2.1.trans rfl
        have uk3 : s4.1 6 0 = 0 := k3.2.2
        have zk3 : md_z4 s4 := k3.z (by decide) hp.z
        change ev_wp pg_F pg_lay none [] (ev_lu pg_c111) (fun _ => false) _ 1963 77 [some (.ref 6), some (.int k), some (.int a), some (.int b), some (.int c), some (.int ((ev_up (ev_up σ 6 0 0) 6 0 0).1 6 8))] [] s4
        refine ⟨sp_in rfl rfl, ?_⟩
        rintro _ s6 ⟨k5, rfl⟩
        have yk5 : s6.2 = σ.2 := k5.2.1.trans yk3
        have uk5 : s6.1 6 0 = 0 := k5.2.2.trans uk3
        have zk5 : md_z4 s6 := k5.z (by decide) zk3
        change ev_wp pg_F pg_lay none [] (ev_lu pg_c111) (fun _ => false) _ 1958 84 [some (.ref 6), some (.int k), some (.int a), some (.int b), some (.int c), some (.int ((ev_up (ev_up σ 6 0 0) 6 0 0).1 6 8))] [] s6
        refine ⟨sp_in rfl rfl, ?_⟩
        rintro _ s8 ⟨k7, rfl⟩
        have yk7 : s8.2 = σ.2 := k7.2.1.trans yk5
        have uk7 : s8.1 6 0 = 0 := k7.2.2.trans uk5
        have zk7 : md_z4 s8 := k7.z (by decide) zk5
        change ev_wp pg_F pg_lay none [] (ev_lu pg_c111) (fun _ => false) _ 1953 91 [some (.ref 6), some (.int k), some (.int a), some (.int b), some (.int c), some (.int ((ev_up (ev_up σ 6 0 0) 6 0 0).1 6 8))] [] s8
        refine ⟨sp_in rfl rfl, ?_⟩
        rintro _ s10 ⟨k9, rfl⟩
        have yk9 : s10.2 = σ.2 := k9.2.1.trans yk7
        have uk9 : s10.1 6 0 = 0 := k9.2.2.trans uk7
        have zk9 : md_z4 s10 := k9.z (by decide) zk7
        change ev_wp pg_F pg_lay none [] (ev_lu pg_c111) (fun _ => false) _ 1948 99 [some (.ref 6), some (.int k), some (.int a), some (.int b), some (.int c), some (.int ((ev_up (ev_up σ 6 0 0) 6 0 0).1 6 8))] [] s10
        refine ⟨fun (h11 : k = 3) => ?_, fun (h11 : ¬ k = 3) => ?_⟩
        · skip
          change ev_wp pg_F pg_lay none [] (ev_lu pg_c111) (fun _ => false) _ 1945 104 [some (.ref 6), some (.int k), some (.int a), some (.int b), some (.int c), some (.int ((ev_up (ev_up σ 6 0 0) 6 0 0).1 6 8))] [] s10
          refine ⟨trivial, ?_⟩
          rintro _ s13 ⟨k12, rfl⟩
          have yk12 : s13.2 = σ.2 := k12.2.trans yk9
          have uk12 : s13.1 6 0 = 0 := (congrFun (k12.1 6 (by decide)) 0).trans uk9
          have zk12 : md_z4 s13 := fun i hi => (congrFun (k12.1 7 (by decide)) i).trans (zk9 i hi)
          change ev_wp pg_F pg_lay none [] (ev_lu pg_c111) (fun _ => false) _ 1943 108 [some (.ref 6), some (.int k), some (.int a), some (.int b), some (.int c), some (.int ((ev_up (ev_up σ 6 0 0) 6 0 0).1 6 8))] [] s13
          refine ⟨sp_in rfl rfl, ?_⟩
          change ev_wp pg_F pg_lay none [] (ev_lu pg_c111) (fun _ => false) _ 1938 115 [some (.ref 6), some (.int k), some (.int a), some (.int b), some (.int c), some (.int ((ev_up (ev_up σ 6 0 0) 6 0 0).1 6 8))] [] (ev_up s13 11 (Int32.toNatClampNeg 1) b)
          refine ⟨⟨rfl, zk12⟩, ?_⟩
          rintro _ s15 ⟨k14, rfl⟩
          have yk14 : s15.2 = σ.2 := k14.1.trans yk12
          have uk14 : s15.1 6 0 = 0 := k14.2.trans uk12
          change ev_wp pg_F pg_lay none [] (ev_lu pg_c111) (fun _ => false) _ 1935 120 [some (.ref 6), some (.int k), some (.int a), some (.int b), some (.int c), some (.int ((ev_up (ev_up σ 6 0 0) 6 0 0).1 6 8))] [] s15
          exact ⟨_, rfl, by first | exact Or.inl rfl | exact Or.inr rfl, Nat.le_of_eq (congrArg Prod.snd (show (ev_up s15 6 8 ((ev_up (ev_up σ 6 0 0) 6 0 0).1 6 8)).2 = σ.2 from yk14)), _, ⟨yk14, Or.inr ⟨h1, uk14, rfl⟩⟩, rfl⟩
        · skip
          change ev_wp pg_F pg_lay none [] (ev_lu pg_c111) (fun _ => false) _ 1945 120 [some (.ref 6), some (.int k), some (.int a), some (.int b), some (.int c), some (.int ((ev_up (ev_up σ 6 0 0) 6 0 0).1 6 8))] [] s10
          exact ⟨_, rfl, by first | exact Or.inl rfl | exact Or.inr rfl, Nat.le_of_eq (congrArg Prod.snd (show (ev_up s10 6 8 ((ev_up (ev_up σ 6 0 0) 6 0 0).1 6 8)).2 = σ.2 from yk9)), _, ⟨yk9, Or.inr ⟨h1, uk9, rfl⟩⟩, rfl⟩
      · exact (h2 (by show σ.1 6 5 < 0; rw [hp.2.1]; decide)).elim
  · cases h
theorem pr_124 : pg_Rn pg_F 124 pg_y124 [] pg_t124 := by
  intro vs σ P h hp
  replace h : pf_124 vs σ = some P := h
  unfold pf_124 at h
  split at h
  · rename_i g
    cases h
    refine ⟨by simp [Value.category], Nat.le_of_ble_eq_true rfl, ev_go pg_hhs pg_cd pg_o124 (fun _ => false) 2000 (Q1 := ev_at (ev_tl pg_t124) σ.2.2 (sp_m (md_fresh σ) (fun v σ' => md_t σ σ' ∧ (sp_upto g 11 = 0 ∧ σ'.1 6 0 = 1 ∨ ¬ sp_upto g 11 = 0 ∧ σ'.1 6 0 = 0 ∧ v = 0))).2) ?_ (fun _ _ _ _ h => ev_fin h)⟩
    change ev_wp pg_F pg_lay none [] (ev_lu pg_c124) (fun _ => false) _ 2000 0 [some (.ref 6), some (.int g), none, none] [] σ
    refine ⟨trivial, ?_⟩
    rintro _ _ ⟨rfl, rfl⟩
    change ev_wp pg_F pg_lay none [] (ev_lu pg_c124) (fun _ => false) _ 1994 9 [some (.ref 6), some (.int g), none, none] [.int (sp_upto g 11), .int 1, .ref 6] σ
    refine ⟨fun (h1 : (sp_upto g 11) = 0) => ?_, fun (h1 : ¬ (sp_upto g 11) = 0) => ?_⟩
    · skip
      change ev_wp pg_F pg_lay none [] (ev_lu pg_c124) (fun _ => false) _ 1993 12 [some (.ref 6), some (.int g), none, none] [.int 1, .ref 6] σ
      refine ⟨Or.inr rfl, ?_⟩
      rintro _ _ ⟨_, ⟨rfl, rfl⟩, rfl⟩
      change ev_wp pg_F pg_lay none [] (ev_lu pg_c124) (fun _ => false) _ 1990 20 [some (.ref 6), some (.int g), none, none] [.int 1] (ev_up σ 6 0 1)
      refine ⟨fun h => absurd h (by decide), fun _ => ?_⟩
      change ev_wp pg_F pg_lay none [] (ev_lu pg_c124) (fun _ => false) _ 1989 43 [some (.ref 6), some (.int g), none, none] [] (ev_up σ 6 0 1)
      exact ⟨_, rfl, Nat.le_of_eq (congrArg Prod.snd (show (ev_up σ 6 0 1).2 = σ.2 from rfl)), _, ⟨rfl, Or.inl ⟨h1, rfl⟩⟩, rfl⟩
    · skip
      change ev_wp pg_F pg_lay none [] (ev_lu pg_c124) (fun _ => false) _ 1993 16 [some (.ref 6), some (.int g), none, none] [.int 1, .ref 6] σ
      refine ⟨Or.inl rfl, ?_⟩
      rintro _ _ ⟨_, ⟨rfl, rfl⟩, rfl⟩
      change ev_wp pg_F pg_lay none [] (ev_lu pg_c124) (fun _ => false) _ 1991 20 [some (.ref 6), some (.int g), none, none] [.int 0] (ev_up σ 6 0 0)
      refine ⟨fun _ => ?_, fun h => absurd (by decide) h⟩
      change ev_wp pg_F pg_lay none [] (ev_lu pg_c124) (fun _ => false) _ 1990 23 [some (.ref 6), some (.int g), none, none] [] (ev_up σ 6 0 0)
      refine ⟨fun (h2 : ((ev_up σ 6 0 0).1 6 5) < 0) => ?_, fun (h2 : ¬ ((ev_up σ 6 0 0).1 6 5) < 0) => ?_⟩
      · skip
        change ev_wp pg_F pg_lay none [] (ev_lu pg_c124) (fun _ => false) _ 1985 36 [some (.ref 6), some (.int g), none, none] [.int 2, .ref 6] (ev_up σ 6 0 0)
        refine ⟨Or.inl rfl, ?_⟩
        rintro _ _ ⟨_, ⟨rfl, rfl⟩, rfl⟩
        change ev_wp pg_F pg_lay none [] (ev_lu pg_c124) (fun _ => false) _ 1983 40 [some (.ref 6), some (.int g), none, none] [.int 0] (ev_up (ev_up σ 6 0 0) 6 0 0)
        refine ⟨fun _ => ?_, fun h => absurd (by decide) h⟩
        change ev_wp pg_F pg_lay none [] (ev_lu pg_c124) (fun _ => false) _ 1982 45 [some (.ref 6), some (.int g), none, none] [] (ev_up (ev_up σ 6 0 0) 6 0 0)
        refine ⟨Or.inl rfl, ?_⟩
        change ev_wp pg_F pg_lay none [] (ev_lu pg_c124) (fun _ => false) _ 1976 55 [some (.ref 6), some (.int g), none, none] [] (ev_up (ev_up (ev_up (ev_up σ 6 0 0) 6 0 0) 6 5 g) 6 10 0)
        refine ⟨Or.inl rfl, ?_⟩
        change ev_wp pg_F pg_lay none [] (ev_lu pg_c124) (fun _ => false) _ 1973 60 [some (.ref 6), some (.int g), none, none] [] (ev_up (ev_up (ev_up (ev_up (ev_up σ 6 0 0) 6 0 0) 6 5 g) 6 10 0) 6 6 0)
        refine ⟨⟨hp.z, ⟨41, by decide, by decide, rfl⟩, ⟨43, by decide, by decide, rfl⟩⟩, ?_⟩
        rintro _ _ ⟨rfl, rfl⟩
        change ev_wp pg_F pg_lay none [] (ev_lu pg_c124) (fun _ => false) _ 1970 66 [some (.ref 6), some (.int g), none, none] [.int (-1)] (ev_up (ev_up (ev_up (ev_up (ev_up σ 6 0 0) 6 0 0) 6 5 g) 6 10 0) 6 6 0)
        refine ⟨fun _ => ?_, fun h => absurd (by decide) h⟩
        change ev_wp pg_F pg_lay none [] (ev_lu pg_c124) (fun _ => false) _ 1967 100 [some (.ref 6), some (.int g), some (.int (-1)), none] [] (ev_up (ev_up (ev_up (ev_up (ev_up σ 6 0 0) 6 0 0) 6 5 g) 6 10 0) 6 6 0)
        refine ⟨fun (h3 : ((ev_up (ev_up (ev_up (ev_up (ev_up σ 6 0 0) 6 0 0) 6 5 g) 6 10 0) 6 6 0).1 6 10) = 0) => ?_, fun (h3 : ¬ ((ev_up (ev_up (ev_up (ev_up (ev_up σ 6 0 0) 6 0 0) 6 5 g) 6 10 0) 6 6 0).1 6 10) = 0) => ?_⟩
        · skip
          change ev_wp pg_F pg_lay none [] (ev_lu pg_c124) (fun _ => false) _ 1964 109 [some (.ref 6), some (.int g), some (.int (-1)), none] [] (ev_up (ev_up (ev_up (ev_up (ev_up σ 6 0 0) 6 0 0) 6 5 g) 6 10 0) 6 6 0)
          refine ⟨hp.z, ?_⟩
          rintro _ _ ⟨rfl, rfl⟩
          change ev_wp pg_F pg_lay none [] (ev_lu pg_c124) (fun _ => false) _ 1962 113 [some (.ref 6), some (.int g), some (.int (-1)), none] [.int (-1)] (ev_up (ev_up (ev_up (ev_up (ev_up σ 6 0 0) 6 0 0) 6 5 g) 6 10 0) 6 6 0)
          refine ⟨fun _ => ?_, fun h => absurd (by decide) h⟩
          change ev_wp pg_F pg_lay none [] (ev_lu pg_c124) (fun _ => false) _ 1959 141 [some (.ref 6), some (.int g), some (.int (-1)), some (.int (-1))] [] (ev_up (ev_up (ev_up (ev_up (ev_up σ 6 0 0) 6 0 0) 6 5 g) 6 10 0) 6 6 0)
          refine ⟨fun (h4 : ((ev_up (ev_up (ev_up (ev_up (ev_up σ 6 0 0) 6 0 0) 6 5 g) 6 10 0) 6 6 0).1 6 10) = 0) => ?_, fun (h4 : ¬ ((ev_up (ev_up (ev_up (ev_up (ev_up σ 6 0 0) 6 0 0) 6 5 g) 6 10 0) 6 6 0).1 6 10) = 0) => ?_⟩
          · skip
            change ev_wp pg_F pg_lay none [] (ev_lu pg_c124) (fun _ => false) _ 1956 152 [some (.ref 6), some (.int g), some (.int (-1)), some (.int (-1))] [] (ev_up (ev_up (ev_up (ev_up (ev_up σ 6 0 0) 6 0 0) 6 5 g) 6 10 0) 6 6 0)
            refine ⟨(hp.1 0), ?_⟩
            rintro _ _ ⟨rfl, rfl⟩
            exact ⟨_, rfl, Nat.le_of_eq (congrArg Prod.snd (show (ev_up (ev_up (ev_up (ev_up (ev_up σ 6 0 0) 6 0 0) 6 5 g) 6 10 0) 6 6 0).2 = σ.2 from rfl)), _, ⟨rfl, Or.inr ⟨h1, rfl, rfl⟩⟩, rfl⟩
          · exact (h4 rfl).elim
        · exact (h3 rfl).elim
      · exact (h2 (by show σ.1 6 5 < 0; rw [hp.2.1]; decide)).elim
  · cases h
