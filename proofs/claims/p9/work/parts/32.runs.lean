/-! THE RUNS OF THE BODIES (laid by wip/gen/spec.py) -/
theorem pr_0 : pg_Rn pg_F 0 pg_y0 [] pg_t0 := by
  intro vs σ P h hp
  replace h : pf_0 vs σ = some P := h
  unfold pf_0 at h
  split at h
  · rename_i a b
    cases h
    refine ⟨by simp [Value.category], Nat.le_of_ble_eq_true rfl, ev_go pg_hhs pg_cd pg_o0 (fun _ => false) 2000 (Q1 := ev_at (ev_tl pg_t0) σ.2.2 (sp_i True (fun _ => True) σ).2) ?_ (fun _ _ _ _ h => ev_fin h)⟩
    change ev_wp pg_F pg_lay none [] (ev_lu pg_c0) (fun _ => false) _ 2000 0 [some (.int a), some (.int b)] [] σ
    exact ⟨_, rfl, Nat.le_refl _, _, trivial, rfl, rfl⟩
  · cases h
theorem pr_1 : pg_Rn pg_F 1 pg_y1 [] pg_t1 := by
  intro vs σ P h hp
  replace h : pf_1 vs σ = some P := h
  unfold pf_1 at h
  split at h
  · rename_i n t
    cases h
    refine ⟨by simp [Value.category], Nat.le_of_ble_eq_true rfl, ev_go pg_hhs pg_cd pg_o1 (fun _ => false) 2000 (Q1 := ev_at (ev_tl pg_t1) σ.2.2 (sp_e (sp_upto n t) σ).2) ?_ (fun _ _ _ _ h => ev_fin h)⟩
    change ev_wp pg_F pg_lay none [] (ev_lu pg_c1) (fun _ => false) _ 2000 0 [some (.int n), some (.int t)] [] σ
    refine ⟨fun (h1 : n < 0) => ?_, fun (h1 : ¬ n < 0) => ?_⟩
    · skip
      change ev_wp pg_F pg_lay none [] (ev_lu pg_c1) (fun _ => false) _ 1998 13 [some (.int n), some (.int t)] [] σ
      exact ⟨_, rfl, by first | exact Or.inl rfl | exact Or.inr rfl, Nat.le_refl _, congrArg (fun z => Sum.inl (some (Value.int z))) (by simp only [sp_upto, h1, ↓reduceIte]), rfl⟩
    · skip
      change ev_wp pg_F pg_lay none [] (ev_lu pg_c1) (fun _ => false) _ 1998 4 [some (.int n), some (.int t)] [] σ
      refine ⟨fun (h2 : t < n) => ?_, fun (h2 : ¬ t < n) => ?_⟩
      · skip
        change ev_wp pg_F pg_lay none [] (ev_lu pg_c1) (fun _ => false) _ 1995 13 [some (.int n), some (.int t)] [] σ
        exact ⟨_, rfl, by first | exact Or.inl rfl | exact Or.inr rfl, Nat.le_refl _, congrArg (fun z => Sum.inl (some (Value.int z))) (by simp only [sp_upto, h1, h2, ↓reduceIte]), rfl⟩
      · skip
        change ev_wp pg_F pg_lay none [] (ev_lu pg_c1) (fun _ => false) _ 1995 9 [some (.int n), some (.int t)] [] σ
        exact ⟨_, rfl, by first | exact Or.inl rfl | exact Or.inr rfl, Nat.le_refl _, congrArg (fun z => Sum.inl (some (Value.int z))) (by simp only [sp_upto, h1, h2, ↓reduceIte]), rfl⟩
  · cases h
theorem pr_2 : pg_Rn pg_F 2 pg_y2 [] pg_t2 := by
  intro vs σ P h hp
  replace h : pf_2 vs σ = some P := h
  unfold pf_2 at h
  split at h
  · rename_i a
    cases h
    refine ⟨by simp [Value.category], Nat.le_of_ble_eq_true rfl, ev_go pg_hhs pg_cd pg_o2 (fun _ => false) 2000 (Q1 := ev_at (ev_tl pg_t2) σ.2.2 (sp_i True (fun _ => True) σ).2) ?_ (fun _ _ _ _ h => ev_fin h)⟩
    change ev_wp pg_F pg_lay none [] (ev_lu pg_c2) (fun _ => false) _ 2000 0 [some (.int a)] [] σ
    exact ⟨_, rfl, Nat.le_refl _, _, trivial, rfl, rfl⟩
  · cases h
theorem pr_3 : pg_Rn pg_F 3 pg_y3 [] pg_t3 := by
  intro vs σ P h hp
  replace h : pf_3 vs σ = some P := h
  unfold pf_3 at h
  split at h
  · rename_i a b
    cases h
    refine ⟨by simp [Value.category], Nat.le_of_ble_eq_true rfl, ev_go pg_hhs pg_cd pg_o3 (fun _ => false) 2000 (Q1 := ev_at (ev_tl pg_t3) σ.2.2 (sp_i True (fun _ => True) σ).2) ?_ (fun _ _ _ _ h => ev_fin h)⟩
    change ev_wp pg_F pg_lay none [] (ev_lu pg_c3) (fun _ => false) _ 2000 0 [some (.ref 0), some (.int a), some (.int b)] [] σ
    exact ⟨_, rfl, Nat.le_refl _, _, trivial, rfl, rfl⟩
  · cases h
theorem pr_4 : pg_Rn pg_F 4 pg_y4 [] pg_t4 := by
  intro vs σ P h hp
  replace h : pf_4 vs σ = some P := h
  unfold pf_4 at h
  split at h
  · cases h
    refine ⟨by simp [Value.category], Nat.le_of_ble_eq_true rfl, ev_go pg_hhs pg_cd pg_o4 (fun _ => false) 2000 (Q1 := ev_at (ev_tl pg_t4) σ.2.2 (sp_i (sp_inv σ) (fun _ => True) σ).2) ?_ (fun _ _ _ _ h => ev_fin h)⟩
    change ev_wp pg_F pg_lay none [] (ev_lu pg_c4) (fun _ => false) _ 2000 0 [some (.ref 0)] [] σ
    refine ⟨hp.1, ?_⟩
    exact ⟨_, rfl, Nat.le_refl _, _, trivial, rfl, rfl⟩
  · cases h
theorem pr_5 : pg_Rn pg_F 5 pg_y5 [] pg_t5 := by
  intro vs σ P h hp
  replace h : pf_5 vs σ = some P := h
  unfold pf_5 at h
  split at h
  · cases h
    refine ⟨by simp [Value.category], Nat.le_of_ble_eq_true rfl, ev_go pg_hhs pg_cd pg_o5 (fun _ => false) 2000 (Q1 := ev_at (ev_tl pg_t5) σ.2.2 (sp_e (σ.1 0 5) σ).2) ?_ (fun _ _ _ _ h => ev_fin h)⟩
    change ev_wp pg_F pg_lay none [] (ev_lu pg_c5) (fun _ => false) _ 2000 0 [some (.ref 0)] [] σ
    exact ⟨_, rfl, Nat.le_refl _, rfl, rfl⟩
  · cases h
theorem pr_6 : pg_Rn pg_F 6 pg_y6 [] pg_t6 := by
  intro vs σ P h hp
  replace h : pf_6 vs σ = some P := h
  unfold pf_6 at h
  split at h
  · rename_i a
    cases h
    refine ⟨by simp [Value.category], Nat.le_of_ble_eq_true rfl, ev_go pg_hhs pg_cd pg_o6 (fun _ => false) 2000 (Q1 := ev_at (ev_tl pg_t6) σ.2.2 (sp_m True (fun v σ' => v = 3 ∧ σ' = ev_up σ 0 5 a)).2) ?_ (fun _ _ _ _ h => ev_fin h)⟩
    change ev_wp pg_F pg_lay none [] (ev_lu pg_c6) (fun _ => false) _ 2000 0 [some (.ref 0), some (.int a)] [] σ
    exact ⟨_, rfl, Nat.le_refl _, _, ⟨rfl, rfl⟩, rfl⟩
  · cases h
theorem pr_7 : pg_Rn pg_F 7 pg_y7 [] pg_t7 := by
  intro vs σ P h hp
  replace h : pf_7 vs σ = some P := h
  unfold pf_7 at h
  split at h
  · rename_i a b
    cases h
    refine ⟨by simp [Value.category], Nat.le_of_ble_eq_true rfl, ev_go pg_hhs pg_cd pg_o7 (fun _ => false) 2000 (Q1 := ev_at (ev_tl pg_t7) σ.2.2 (sp_e (sp_add a b) σ).2) ?_ (fun _ _ _ _ h => ev_fin h)⟩
    change ev_wp pg_F pg_lay none [] (ev_lu pg_c7) (fun _ => false) _ 2000 0 [some (.int a), some (.int b), none] [] σ
    refine ⟨fun (h1 : (a + b) ≤ 65535) => ?_, fun (h1 : ¬ (a + b) ≤ 65535) => ?_⟩
    · skip
      change ev_wp pg_F pg_lay none [] (ev_lu pg_c7) (fun _ => false) _ 1993 17 [some (.int a), some (.int b), some (.int (a + b))] [] σ
      exact ⟨_, rfl, Nat.le_refl _, congrArg (fun z => Sum.inl (some (Value.int z))) (by simp only [sp_add, h1, ↓reduceIte]), rfl⟩
    · skip
      change ev_wp pg_F pg_lay none [] (ev_lu pg_c7) (fun _ => false) _ 1993 10 [some (.int a), some (.int b), some (.int (a + b))] [] σ
      exact ⟨_, rfl, Nat.le_refl _, congrArg (fun z => Sum.inl (some (Value.int z))) (by simp only [sp_add, h1, ↓reduceIte]), rfl⟩
  · cases h
theorem pr_8 : pg_Rn pg_F 8 pg_y8 [] pg_t8 := by
  intro vs σ P h hp
  replace h : pf_8 vs σ = some P := h
  unfold pf_8 at h
  split at h
  · rename_i b w
    cases h
    refine ⟨by simp [Value.category], Nat.le_of_ble_eq_true rfl, ev_go pg_hhs pg_cd pg_o8 (fun _ => false) 2000 (Q1 := ev_at (ev_tl pg_t8) σ.2.2 (sp_e (sp_at σ b w) σ).2) ?_ (fun _ _ _ _ h => ev_fin h)⟩
    change ev_wp pg_F pg_lay none [] (ev_lu pg_c8) (fun _ => false) _ 2000 0 [some (.ref 1), some (.int b), some (.int w), none] [] σ
    refine ⟨fun (h1 : ((b * 4) + w) < 0) => ?_, fun (h1 : ¬ ((b * 4) + w) < 0) => ?_⟩
    · skip
      change ev_wp pg_F pg_lay none [] (ev_lu pg_c8) (fun _ => false) _ 1992 28 [some (.ref 1), some (.int b), some (.int w), some (.int ((b * 4) + w))] [] σ
      exact ⟨_, rfl, Nat.le_refl _, congrArg (fun z => Sum.inl (some (Value.int z))) (by simp only [sp_at, h1, ↓reduceIte]), rfl⟩
    · skip
      change ev_wp pg_F pg_lay none [] (ev_lu pg_c8) (fun _ => false) _ 1992 10 [some (.ref 1), some (.int b), some (.int w), some (.int ((b * 4) + w))] [] σ
      refine ⟨fun (h2 : (Int32.ofNat 256) ≤ ((b * 4) + w)) => ?_, fun (h2 : ¬ (Int32.ofNat 256) ≤ ((b * 4) + w)) => ?_⟩
      · skip
        change ev_wp pg_F pg_lay none [] (ev_lu pg_c8) (fun _ => false) _ 1987 28 [some (.ref 1), some (.int b), some (.int w), some (.int ((b * 4) + w))] [] σ
        exact ⟨_, rfl, Nat.le_refl _, congrArg (fun z => Sum.inl (some (Value.int z))) (by simp only [sp_at, h1, h2, ↓reduceIte]), rfl⟩
      · skip
        change ev_wp pg_F pg_lay none [] (ev_lu pg_c8) (fun _ => false) _ 1987 19 [some (.ref 1), some (.int b), some (.int w), some (.int ((b * 4) + w))] [] σ
        refine ⟨sp_in2 (by decide) h1 h2, ?_⟩
        change ev_wp pg_F pg_lay none [] (ev_lu pg_c8) (fun _ => false) _ 1983 25 [some (.ref 1), some (.int b), some (.int w), some (.int ((b * 4) + w))] [.int (σ.1 4 (Int32.toNatClampNeg ((b * 4) + w)))] σ
        exact ⟨_, rfl, Nat.le_refl _, congrArg (fun z => Sum.inl (some (Value.int z))) (by simp only [sp_at, h1, h2, ↓reduceIte]), rfl⟩
  · cases h
theorem pr_9 : pg_Rn pg_F 9 pg_y9 [] pg_t9 := by
  intro vs σ P h hp
  replace h : pf_9 vs σ = some P := h
  unfold pf_9 at h
  split at h
  · cases h
    refine ⟨by simp [Value.category], Nat.le_of_ble_eq_true rfl, ev_go pg_hhs pg_cd pg_o9 (fun _ => false) 2000 (Q1 := ev_at (ev_tl pg_t9) σ.2.2 (sp_v True (fun σ' => σ' = ev_up σ 1 4 1)).2) ?_ (fun _ _ _ _ h => ev_fin h)⟩
    change ev_wp pg_F pg_lay none [] (ev_lu pg_c9) (fun _ => false) _ 2000 0 [some (.ref 1)] [] σ
    refine ⟨Or.inr rfl, ?_⟩
    exact ⟨rfl, Nat.le_refl _, rfl, rfl⟩
  · cases h
theorem pr_11 : pg_Rn pg_F 11 pg_y11 [] pg_t11 := by
  intro vs σ P h hp
  replace h : pf_11 vs σ = some P := h
  unfold pf_11 at h
  split at h
  · cases h
    refine ⟨by simp [Value.category], Nat.le_of_ble_eq_true rfl, ev_go pg_hhs pg_cd pg_o11 (fun _ => false) 2000 (Q1 := ev_at (ev_tl pg_t11) σ.2.2 (sp_v True (fun σ' => σ' = ev_up (ev_up σ 1 4 0) 1 5 0)).2) ?_ (fun _ _ _ _ h => ev_fin h)⟩
    change ev_wp pg_F pg_lay none [] (ev_lu pg_c11) (fun _ => false) _ 2000 0 [some (.ref 1)] [] σ
    refine ⟨Or.inl rfl, ?_⟩
    change ev_wp pg_F pg_lay none [] (ev_lu pg_c11) (fun _ => false) _ 1997 5 [some (.ref 1)] [] (ev_up σ 1 4 0)
    refine ⟨Or.inl rfl, ?_⟩
    exact ⟨rfl, Nat.le_refl _, rfl, rfl⟩
  · cases h
theorem pr_12 : pg_Rn pg_F 12 pg_y12 [] pg_t12 := by
  intro vs σ P h hp
  replace h : pf_12 vs σ = some P := h
  unfold pf_12 at h
  split at h
  · cases h
    refine ⟨by simp [Value.category], Nat.le_of_ble_eq_true rfl, ev_go pg_hhs pg_cd pg_o12 (fun _ => false) 2000 (Q1 := ev_at (ev_tl pg_t12) σ.2.2 ((sp_b (σ.1 1 4), (sp_e (σ.1 1 4) σ).2)).2) ?_ (fun _ _ _ _ h => ev_fin h)⟩
    change ev_wp pg_F pg_lay none [] (ev_lu pg_c12) (fun _ => false) _ 2000 0 [some (.ref 1)] [] σ
    exact ⟨_, rfl, hp, Nat.le_refl _, rfl, rfl⟩
  · cases h
theorem pr_15 : pg_Rn pg_F 15 pg_y15 [] pg_t15 := by
  intro vs σ P h hp
  replace h : pf_15 vs σ = some P := h
  unfold pf_15 at h
  split at h
  · cases h
    refine ⟨by simp [Value.category], Nat.le_of_ble_eq_true rfl, ev_go pg_hhs pg_cd pg_o15 (fun _ => false) 2000 (Q1 := ev_at (ev_tl pg_t15) σ.2.2 (sp_e (σ.1 1 3) σ).2) ?_ (fun _ _ _ _ h => ev_fin h)⟩
    change ev_wp pg_F pg_lay none [] (ev_lu pg_c15) (fun _ => false) _ 2000 0 [some (.ref 1)] [] σ
    exact ⟨_, rfl, Nat.le_refl _, rfl, rfl⟩
  · cases h
theorem pr_17 : pg_Rn pg_F 17 pg_y17 [] pg_t17 := by
  intro vs σ P h hp
  replace h : pf_17 vs σ = some P := h
  unfold pf_17 at h
  split at h
  · cases h
    refine ⟨by simp [Value.category], Nat.le_of_ble_eq_true rfl, ev_go pg_hhs pg_cd pg_o17 (fun _ => false) 2000 (Q1 := ev_at (ev_tl pg_t17) σ.2.2 (sp_e (σ.1 1 2) σ).2) ?_ (fun _ _ _ _ h => ev_fin h)⟩
    change ev_wp pg_F pg_lay none [] (ev_lu pg_c17) (fun _ => false) _ 2000 0 [some (.ref 1)] [] σ
    exact ⟨_, rfl, Nat.le_refl _, rfl, rfl⟩
  · cases h
theorem pr_16 : pg_Rn pg_F 16 pg_y16 [] pg_t16 := by
  intro vs σ P h hp
  replace h : pf_16 vs σ = some P := h
  unfold pf_16 at h
  split at h
  · rename_i a b
    cases h
    refine ⟨by simp [Value.category], Nat.le_of_ble_eq_true rfl, ev_go pg_hhs pg_cd pg_o16 (fun _ => false) 2000 (Q1 := ev_at (ev_tl pg_t16) σ.2.2 (sp_i True (fun _ => True) σ).2) ?_ (fun _ _ _ _ h => ev_fin h)⟩
    change ev_wp pg_F pg_lay none [] (ev_lu pg_c16) (fun _ => false) _ 2000 0 [some (.int a), some (.int b)] [] σ
    refine ⟨fun (h1 : b = a) => ?_, fun (h1 : ¬ b = a) => ?_⟩
    · skip
      change ev_wp pg_F pg_lay none [] (ev_lu pg_c16) (fun _ => false) _ 1997 5 [some (.int a), some (.int b)] [] σ
      exact ⟨_, rfl, Nat.le_refl _, _, trivial, rfl, rfl⟩
    · skip
      change ev_wp pg_F pg_lay none [] (ev_lu pg_c16) (fun _ => false) _ 1997 11 [some (.int a), some (.int b)] [] σ
      exact ⟨_, rfl, Nat.le_refl _, _, trivial, rfl, rfl⟩
  · cases h
theorem pr_33 : pg_Rn pg_F 33 pg_y33 [] pg_t33 := by
  intro vs σ P h hp
  replace h : pf_33 vs σ = some P := h
  unfold pf_33 at h
  split at h
  · rename_i a
    cases h
    refine ⟨by simp [Value.category], Nat.le_of_ble_eq_true rfl, ev_go pg_hhs pg_cd pg_o33 (fun _ => false) 2000 (Q1 := ev_at (ev_tl pg_t33) σ.2.2 (sp_i True (fun v => a = 0 → v = 0) σ).2) ?_ (fun _ _ _ _ h => ev_fin h)⟩
    change ev_wp pg_F pg_lay none [] (ev_lu pg_c33) (fun _ => false) _ 2000 0 [some (.int a)] [] σ
    exact ⟨_, rfl, Nat.le_refl _, _, fun h => by subst h; decide +kernel, rfl, rfl⟩
  · cases h
theorem pr_34 : pg_Rn pg_F 34 pg_y34 [] pg_t34 := by
  intro vs σ P h hp
  replace h : pf_34 vs σ = some P := h
  unfold pf_34 at h
  split at h
  · rename_i a b
    cases h
    refine ⟨by simp [Value.category], Nat.le_of_ble_eq_true rfl, ev_go pg_hhs pg_cd pg_o34 (fun _ => false) 2000 (Q1 := ev_at (ev_tl pg_t34) σ.2.2 (sp_e (if a < b then b else a) σ).2) ?_ (fun _ _ _ _ h => ev_fin h)⟩
    change ev_wp pg_F pg_lay none [] (ev_lu pg_c34) (fun _ => false) _ 2000 0 [some (.int a), some (.int b)] [] σ
    refine ⟨fun (h1 : a < b) => ?_, fun (h1 : ¬ a < b) => ?_⟩
    · skip
      change ev_wp pg_F pg_lay none [] (ev_lu pg_c34) (fun _ => false) _ 1997 9 [some (.int a), some (.int b)] [] σ
      exact ⟨_, rfl, Nat.le_refl _, congrArg (fun z => Sum.inl (some (Value.int z))) (by simp only [h1, ↓reduceIte]), rfl⟩
    · skip
      change ev_wp pg_F pg_lay none [] (ev_lu pg_c34) (fun _ => false) _ 1997 5 [some (.int a), some (.int b)] [] σ
      exact ⟨_, rfl, Nat.le_refl _, congrArg (fun z => Sum.inl (some (Value.int z))) (by simp only [h1, ↓reduceIte]), rfl⟩
  · cases h
theorem pr_35 : pg_Rn pg_F 35 pg_y35 [] pg_t35 := by
  intro vs σ P h hp
  replace h : pf_35 vs σ = some P := h
  unfold pf_35 at h
  split at h
  · rename_i a b
    cases h
    refine ⟨by simp [Value.category], Nat.le_of_ble_eq_true rfl, ev_go pg_hhs pg_cd pg_o35 (fun _ => false) 2000 (Q1 := ev_at (ev_tl pg_t35) σ.2.2 (sp_e (if b < a then b else a) σ).2) ?_ (fun _ _ _ _ h => ev_fin h)⟩
    change ev_wp pg_F pg_lay none [] (ev_lu pg_c35) (fun _ => false) _ 2000 0 [some (.int a), some (.int b)] [] σ
    refine ⟨fun (h1 : b < a) => ?_, fun (h1 : ¬ b < a) => ?_⟩
    · skip
      change ev_wp pg_F pg_lay none [] (ev_lu pg_c35) (fun _ => false) _ 1997 9 [some (.int a), some (.int b)] [] σ
      exact ⟨_, rfl, Nat.le_refl _, congrArg (fun z => Sum.inl (some (Value.int z))) (by simp only [h1, ↓reduceIte]), rfl⟩
    · skip
      change ev_wp pg_F pg_lay none [] (ev_lu pg_c35) (fun _ => false) _ 1997 5 [some (.int a), some (.int b)] [] σ
      exact ⟨_, rfl, Nat.le_refl _, congrArg (fun z => Sum.inl (some (Value.int z))) (by simp only [h1, ↓reduceIte]), rfl⟩
  · cases h
theorem pr_37 : pg_Rn pg_F 37 pg_y37 [] pg_t37 := by
  intro vs σ P h hp
  replace h : pf_37 vs σ = some P := h
  unfold pf_37 at h
  split at h
  · rename_i a
    cases h
    refine ⟨by simp [Value.category], Nat.le_of_ble_eq_true rfl, ev_go pg_hhs pg_cd pg_o37 (fun _ => false) 2000 (Q1 := ev_at (ev_tl pg_t37) σ.2.2 (sp_i True (fun _ => True) σ).2) ?_ (fun _ _ _ _ h => ev_fin h)⟩
    change ev_wp pg_F pg_lay none [] (ev_lu pg_c37) (fun _ => false) _ 2000 0 [some (.ref 0), some (.int a)] [] σ
    refine ⟨trivial, ?_⟩
    rintro _ _ ⟨rfl, rfl⟩
    change ev_wp pg_F pg_lay none [] (ev_lu pg_c37) (fun _ => false) _ 1995 9 [some (.ref 0), some (.int a)] [.int (sp_at σ a 1)] σ
    refine ⟨trivial, ?_⟩
    rintro _ _ ⟨rfl, rfl⟩
    change ev_wp pg_F pg_lay none [] (ev_lu pg_c37) (fun _ => false) _ 1988 22 [some (.ref 0), some (.int a)] [.int (sp_at σ a 2), .int ((sp_at σ a 1) * 1440)] σ
    exact ⟨_, rfl, Nat.le_refl _, _, trivial, rfl, rfl⟩
  · cases h
theorem pr_38 : pg_Rn pg_F 38 pg_y38 [] pg_t38 := by
  intro vs σ P h hp
  replace h : pf_38 vs σ = some P := h
  unfold pf_38 at h
  split at h
  · rename_i a
    cases h
    refine ⟨by simp [Value.category], Nat.le_of_ble_eq_true rfl, ev_go pg_hhs pg_cd pg_o38 (fun _ => false) 2000 (Q1 := ev_at (ev_tl pg_t38) σ.2.2 (sp_i True (fun _ => True) σ).2) ?_ (fun _ _ _ _ h => ev_fin h)⟩
    change ev_wp pg_F pg_lay none [] (ev_lu pg_c38) (fun _ => false) _ 2000 0 [some (.ref 0), some (.int a)] [] σ
    refine ⟨trivial, ?_⟩
    rintro _ _ ⟨rfl, rfl⟩
    change ev_wp pg_F pg_lay none [] (ev_lu pg_c38) (fun _ => false) _ 1995 9 [some (.ref 0), some (.int a)] [.int (sp_at σ a 2)] σ
    exact ⟨_, rfl, Nat.le_refl _, _, trivial, rfl, rfl⟩
  · cases h
theorem pr_40 : pg_Rn pg_F 40 pg_y40 [] pg_t40 := by
  intro vs σ P h hp
  replace h : pf_40 vs σ = some P := h
  unfold pf_40 at h
  split at h
  · rename_i a
    cases h
    refine ⟨by simp [Value.category], Nat.le_of_ble_eq_true rfl, ev_go pg_hhs pg_cd pg_o40 (fun _ => false) 2000 (Q1 := ev_at (ev_tl pg_t40) σ.2.2 (sp_i True (fun _ => True) σ).2) ?_ (fun _ _ _ _ h => ev_fin h)⟩
    change ev_wp pg_F pg_lay none [] (ev_lu pg_c40) (fun _ => false) _ 2000 0 [some (.ref 0), some (.int a)] [] σ
    refine ⟨trivial, ?_⟩
    rintro _ _ ⟨rfl, rfl⟩
    exact ⟨_, rfl, Nat.le_refl _, _, trivial, rfl, rfl⟩
  · cases h
theorem pr_42 : pg_Rn pg_F 42 pg_y42 [] pg_t42 := by
  intro vs σ P h hp
  replace h : pf_42 vs σ = some P := h
  unfold pf_42 at h
  split at h
  · rename_i a
    cases h
    refine ⟨by simp [Value.category], Nat.le_of_ble_eq_true rfl, ev_go pg_hhs pg_cd pg_o42 (fun _ => false) 2000 (Q1 := ev_at (ev_tl pg_t42) σ.2.2 (sp_i True (fun _ => True) σ).2) ?_ (fun _ _ _ _ h => ev_fin h)⟩
    change ev_wp pg_F pg_lay none [] (ev_lu pg_c42) (fun _ => false) _ 2000 0 [some (.ref 0), some (.int a)] [] σ
    refine ⟨trivial, ?_⟩
    rintro _ _ ⟨rfl, rfl⟩
    change ev_wp pg_F pg_lay none [] (ev_lu pg_c42) (fun _ => false) _ 1995 9 [some (.ref 0), some (.int a)] [.int (sp_at σ a 4)] σ
    exact ⟨_, rfl, Nat.le_refl _, _, trivial, rfl, rfl⟩
  · cases h
theorem pr_43 : pg_Rn pg_F 43 pg_y43 [] pg_t43 := by
  intro vs σ P h hp
  replace h : pf_43 vs σ = some P := h
  unfold pf_43 at h
  split at h
  · rename_i a
    cases h
    refine ⟨by simp [Value.category], Nat.le_of_ble_eq_true rfl, ev_go pg_hhs pg_cd pg_o43 (fun _ => false) 2000 (Q1 := ev_at (ev_tl pg_t43) σ.2.2 (sp_i True (fun _ => True) σ).2) ?_ (fun _ _ _ _ h => ev_fin h)⟩
    change ev_wp pg_F pg_lay none [] (ev_lu pg_c43) (fun _ => false) _ 2000 0 [some (.ref 0), some (.int a)] [] σ
    refine ⟨trivial, ?_⟩
    rintro _ _ ⟨rfl, rfl⟩
    exact ⟨_, rfl, Nat.le_refl _, _, trivial, rfl, rfl⟩
  · cases h
theorem pr_44 : pg_Rn pg_F 44 pg_y44 [] pg_t44 := by
  intro vs σ P h hp
  replace h : pf_44 vs σ = some P := h
  unfold pf_44 at h
  split at h
  · rename_i a
    cases h
    refine ⟨by simp [Value.category], Nat.le_of_ble_eq_true rfl, ev_go pg_hhs pg_cd pg_o44 (fun _ => false) 2000 (Q1 := ev_at (ev_tl pg_t44) σ.2.2 (sp_i True (fun _ => True) σ).2) ?_ (fun _ _ _ _ h => ev_fin h)⟩
    change ev_wp pg_F pg_lay none [] (ev_lu pg_c44) (fun _ => false) _ 2000 0 [some (.ref 0), some (.int a)] [] σ
    refine ⟨trivial, ?_⟩
    rintro _ _ ⟨rfl, rfl⟩
    change ev_wp pg_F pg_lay none [] (ev_lu pg_c44) (fun _ => false) _ 1995 9 [some (.ref 0), some (.int a)] [.int (sp_at σ a 4)] σ
    exact ⟨_, rfl, Nat.le_refl _, _, trivial, rfl, rfl⟩
  · cases h
theorem pr_47 : pg_Rn pg_F 47 pg_y47 [] pg_t47 := by
  intro vs σ P h hp
  replace h : pf_47 vs σ = some P := h
  unfold pf_47 at h
  split at h
  · rename_i a
    cases h
    refine ⟨by simp [Value.category], Nat.le_of_ble_eq_true rfl, ev_go pg_hhs pg_cd pg_o47 (fun _ => false) 2000 (Q1 := ev_at (ev_tl pg_t47) σ.2.2 (sp_i True (fun _ => True) σ).2) ?_ (fun _ _ _ _ h => ev_fin h)⟩
    change ev_wp pg_F pg_lay none [] (ev_lu pg_c47) (fun _ => false) _ 2000 0 [some (.ref 0), some (.int a)] [] σ
    refine ⟨trivial, ?_⟩
    rintro _ _ ⟨rfl, rfl⟩
    change ev_wp pg_F pg_lay none [] (ev_lu pg_c47) (fun _ => false) _ 1995 9 [some (.ref 0), some (.int a)] [.int (sp_at σ a 4)] σ
    exact ⟨_, rfl, Nat.le_refl _, _, trivial, rfl, rfl⟩
  · cases h
theorem pr_52 : pg_Rn pg_F 52 pg_y52 [] pg_t52 := by
  intro vs σ P h hp
  replace h : pf_52 vs σ = some P := h
  unfold pf_52 at h
  split at h
  · rename_i a
    cases h
    refine ⟨by simp [Value.category], Nat.le_of_ble_eq_true rfl, ev_go pg_hhs pg_cd pg_o52 (fun _ => false) 2000 (Q1 := ev_at (ev_tl pg_t52) σ.2.2 (sp_i True (fun _ => True) σ).2) ?_ (fun _ _ _ _ h => ev_fin h)⟩
    change ev_wp pg_F pg_lay none [] (ev_lu pg_c52) (fun _ => false) _ 2000 0 [some (.ref 0), some (.int a)] [] σ
    refine ⟨trivial, ?_⟩
    rintro _ _ ⟨rfl, rfl⟩
    change ev_wp pg_F pg_lay none [] (ev_lu pg_c52) (fun _ => false) _ 1995 9 [some (.ref 0), some (.int a)] [.int (sp_at σ a 3)] σ
    exact ⟨_, rfl, Nat.le_refl _, _, trivial, rfl, rfl⟩
  · cases h
theorem pr_53 : pg_Rn pg_F 53 pg_y53 [] pg_t53 := by
  intro vs σ P h hp
  replace h : pf_53 vs σ = some P := h
  unfold pf_53 at h
  split at h
  · rename_i a
    cases h
    refine ⟨by simp [Value.category], Nat.le_of_ble_eq_true rfl, ev_go pg_hhs pg_cd pg_o53 (fun _ => false) 2000 (Q1 := ev_at (ev_tl pg_t53) σ.2.2 (sp_i True (fun _ => True) σ).2) ?_ (fun _ _ _ _ h => ev_fin h)⟩
    change ev_wp pg_F pg_lay none [] (ev_lu pg_c53) (fun _ => false) _ 2000 0 [some (.ref 0), some (.int a)] [] σ
    refine ⟨trivial, ?_⟩
    rintro _ _ ⟨rfl, rfl⟩
    exact ⟨_, rfl, Nat.le_refl _, _, trivial, rfl, rfl⟩
  · cases h
theorem pr_55 : pg_Rn pg_F 55 pg_y55 [] pg_t55 := by
  intro vs σ P h hp
  replace h : pf_55 vs σ = some P := h
  unfold pf_55 at h
  split at h
  · rename_i a
    cases h
    refine ⟨by simp [Value.category], Nat.le_of_ble_eq_true rfl, ev_go pg_hhs pg_cd pg_o55 (fun _ => false) 2000 (Q1 := ev_at (ev_tl pg_t55) σ.2.2 (sp_i True (fun _ => True) σ).2) ?_ (fun _ _ _ _ h => ev_fin h)⟩
    change ev_wp pg_F pg_lay none [] (ev_lu pg_c55) (fun _ => false) _ 2000 0 [some (.ref 0), some (.int a)] [] σ
    refine ⟨trivial, ?_⟩
    rintro _ _ ⟨rfl, rfl⟩
    change ev_wp pg_F pg_lay none [] (ev_lu pg_c55) (fun _ => false) _ 1995 9 [some (.ref 0), some (.int a)] [.int (sp_at σ a 2)] σ
    exact ⟨_, rfl, Nat.le_refl _, _, trivial, rfl, rfl⟩
  · cases h
theorem pr_56 : pg_Rn pg_F 56 pg_y56 [] pg_t56 := by
  intro vs σ P h hp
  replace h : pf_56 vs σ = some P := h
  unfold pf_56 at h
  split at h
  · rename_i a
    cases h
    refine ⟨by simp [Value.category], Nat.le_of_ble_eq_true rfl, ev_go pg_hhs pg_cd pg_o56 (fun _ => false) 2000 (Q1 := ev_at (ev_tl pg_t56) σ.2.2 (sp_i True (fun _ => True) σ).2) ?_ (fun _ _ _ _ h => ev_fin h)⟩
    change ev_wp pg_F pg_lay none [] (ev_lu pg_c56) (fun _ => false) _ 2000 0 [some (.ref 0), some (.int a)] [] σ
    refine ⟨trivial, ?_⟩
    rintro _ _ ⟨rfl, rfl⟩
    change ev_wp pg_F pg_lay none [] (ev_lu pg_c56) (fun _ => false) _ 1995 9 [some (.ref 0), some (.int a)] [.int (sp_at σ a 3)] σ
    exact ⟨_, rfl, Nat.le_refl _, _, trivial, rfl, rfl⟩
  · cases h
theorem pr_41 : pg_Rn pg_F 41 pg_y41 [] pg_t41 := by
  intro vs σ P h hp
  replace h : pf_41 vs σ = some P := h
  unfold pf_41 at h
  split at h
  · rename_i a b
    cases h
    refine ⟨by simp [Value.category], Nat.le_of_ble_eq_true rfl, ev_go pg_hhs pg_cd pg_o41 (fun _ => false) 2000 (Q1 := ev_at (ev_tl pg_t41) σ.2.2 (sp_i True (fun _ => True) σ).2) ?_ (fun _ _ _ _ h => ev_fin h)⟩
    change ev_wp pg_F pg_lay none [] (ev_lu pg_c41) (fun _ => false) _ 2000 0 [some (.ref 0), some (.int a), some (.int b)] [] σ
    refine ⟨trivial, ?_⟩
    rintro _ _ ⟨rfl, rfl⟩
    change ev_wp pg_F pg_lay none [] (ev_lu pg_c41) (fun _ => false) _ 1995 9 [some (.ref 0), some (.int a), some (.int b)] [.int (sp_at σ a 2)] σ
    refine ⟨fun (h1 : (sp_at σ a 2) = b) => ?_, fun (h1 : ¬ (sp_at σ a 2) = b) => ?_⟩
    · skip
      change ev_wp pg_F pg_lay none [] (ev_lu pg_c41) (fun _ => false) _ 1993 13 [some (.ref 0), some (.int a), some (.int b)] [] σ
      refine ⟨trivial, ?_⟩
      rintro _ _ ⟨rfl, rfl⟩
      change ev_wp pg_F pg_lay none [] (ev_lu pg_c41) (fun _ => false) _ 1988 22 [some (.ref 0), some (.int a), some (.int b)] [.int (sp_at σ a 3)] σ
      exact ⟨_, rfl, Nat.le_refl _, _, trivial, rfl, rfl⟩
    · skip
      change ev_wp pg_F pg_lay none [] (ev_lu pg_c41) (fun _ => false) _ 1993 25 [some (.ref 0), some (.int a), some (.int b)] [] σ
      exact ⟨_, rfl, Nat.le_refl _, _, trivial, rfl, rfl⟩
  · cases h
theorem pr_48 : pg_Rn pg_F 48 pg_y48 [] pg_t48 := by
  intro vs σ P h hp
  replace h : pf_48 vs σ = some P := h
  unfold pf_48 at h
  split at h
  · rename_i n
    cases h
    refine ⟨by simp [Value.category], Nat.le_of_ble_eq_true rfl, ev_go pg_hhs pg_cd pg_o48 (fun _ => false) 2000 (Q1 := ev_at (ev_tl pg_t48) σ.2.2 (sp_e (sp_upto n 11) σ).2) ?_ (fun _ _ _ _ h => ev_fin h)⟩
    change ev_wp pg_F pg_lay none [] (ev_lu pg_c48) (fun _ => false) _ 2000 0 [some (.int n)] [] σ
    refine ⟨trivial, ?_⟩
    rintro _ _ ⟨rfl, rfl⟩
    exact ⟨_, rfl, sp_upto_b _ _, Nat.le_refl _, rfl, rfl⟩
  · cases h
theorem pr_51 : pg_Rn pg_F 51 pg_y51 [] pg_t51 := by
  intro vs σ P h hp
  replace h : pf_51 vs σ = some P := h
  unfold pf_51 at h
  split at h
  · cases h
    refine ⟨by simp [Value.category], Nat.le_of_ble_eq_true rfl, ev_go pg_hhs pg_cd pg_o51 (fun _ => false) 2000 (Q1 := ev_at (ev_tl pg_t51) σ.2.2 (sp_e (sp_at σ 0 0) σ).2) ?_ (fun _ _ _ _ h => ev_fin h)⟩
    change ev_wp pg_F pg_lay none [] (ev_lu pg_c51) (fun _ => false) _ 2000 0 [some (.ref 0)] [] σ
    refine ⟨trivial, ?_⟩
    rintro _ _ ⟨rfl, rfl⟩
    exact ⟨_, rfl, Nat.le_refl _, rfl, rfl⟩
  · cases h
theorem pr_54 : pg_Rn pg_F 54 pg_y54 [] pg_t54 := by
  intro vs σ P h hp
  replace h : pf_54 vs σ = some P := h
  unfold pf_54 at h
  split at h
  · rename_i a
    cases h
    refine ⟨by simp [Value.category], Nat.le_of_ble_eq_true rfl, ev_go pg_hhs pg_cd pg_o54 (fun _ => false) 2000 (Q1 := ev_at (ev_tl pg_t54) σ.2.2 (sp_e (sp_at σ 0 a) σ).2) ?_ (fun _ _ _ _ h => ev_fin h)⟩
    change ev_wp pg_F pg_lay none [] (ev_lu pg_c54) (fun _ => false) _ 2000 0 [some (.ref 0), some (.int a)] [] σ
    refine ⟨trivial, ?_⟩
    rintro _ _ ⟨rfl, rfl⟩
    exact ⟨_, rfl, Nat.le_refl _, rfl, rfl⟩
  · cases h
theorem pr_50 : pg_Rn pg_F 50 pg_y50 [] pg_t50 := by
  intro vs σ P h hp
  replace h : pf_50 vs σ = some P := h
  unfold pf_50 at h
  split at h
  · rename_i a b
    cases h
    refine ⟨by simp [Value.category], Nat.le_of_ble_eq_true rfl, ev_go pg_hhs pg_cd pg_o50 (fun _ => false) 2000 (Q1 := ev_at (ev_tl pg_t50) σ.2.2 (sp_e (sp_time a b) σ).2) ?_ (fun _ _ _ _ h => ev_fin h)⟩
    change ev_wp pg_F pg_lay none [] (ev_lu pg_c50) (fun _ => false) _ 2000 0 [some (.int a), some (.int b)] [] σ
    refine ⟨trivial, ?_⟩
    rintro _ _ ⟨rfl, rfl⟩
    change ev_wp pg_F pg_lay none [] (ev_lu pg_c50) (fun _ => false) _ 1997 7 [some (.int a), some (.int b)] [.int (sp_upto a 9999)] σ
    refine ⟨fun (h1 : (sp_upto a 9999) = 0) => ?_, fun (h1 : ¬ (sp_upto a 9999) = 0) => ?_⟩
    · skip
      change ev_wp pg_F pg_lay none [] (ev_lu pg_c50) (fun _ => false) _ 1996 24 [some (.int a), some (.int b)] [] σ
      exact ⟨_, rfl, by first | exact Or.inl rfl | exact Or.inr rfl, Nat.le_refl _, congrArg (fun z => Sum.inl (some (Value.int z))) (by simp only [sp_time, h1, ↓reduceIte]), rfl⟩
    · skip
      change ev_wp pg_F pg_lay none [] (ev_lu pg_c50) (fun _ => false) _ 1996 10 [some (.int a), some (.int b)] [] σ
      refine ⟨trivial, ?_⟩
      rintro _ _ ⟨rfl, rfl⟩
      change ev_wp pg_F pg_lay none [] (ev_lu pg_c50) (fun _ => false) _ 1993 17 [some (.int a), some (.int b)] [.int (sp_upto b 1439)] σ
      refine ⟨fun (h2 : (sp_upto b 1439) = 0) => ?_, fun (h2 : ¬ (sp_upto b 1439) = 0) => ?_⟩
      · skip
        change ev_wp pg_F pg_lay none [] (ev_lu pg_c50) (fun _ => false) _ 1992 24 [some (.int a), some (.int b)] [] σ
        exact ⟨_, rfl, by first | exact Or.inl rfl | exact Or.inr rfl, Nat.le_refl _, congrArg (fun z => Sum.inl (some (Value.int z))) (by simp only [sp_time, h1, h2, ↓reduceIte]), rfl⟩
      · skip
        change ev_wp pg_F pg_lay none [] (ev_lu pg_c50) (fun _ => false) _ 1992 20 [some (.int a), some (.int b)] [] σ
        exact ⟨_, rfl, by first | exact Or.inl rfl | exact Or.inr rfl, Nat.le_refl _, congrArg (fun z => Sum.inl (some (Value.int z))) (by simp only [sp_time, h1, h2, ↓reduceIte]), rfl⟩
  · cases h
theorem pr_39 : pg_Rn pg_F 39 pg_y39 [] pg_t39 := by
  intro vs σ P h hp
  replace h : pf_39 vs σ = some P := h
  unfold pf_39 at h
  split at h
  · cases h
    refine ⟨by simp [Value.category], Nat.le_of_ble_eq_true rfl, ev_go pg_hhs pg_cd pg_o39 (fun _ => false) 2000 (Q1 := ev_at (ev_tl pg_t39) σ.2.2 (sp_i True (fun v => sp_zero σ → v = 0) σ).2) ?_ (fun _ _ _ _ h => ev_fin h)⟩
    change ev_wp pg_F pg_lay none [] (ev_lu pg_c39) (fun _ => false) _ 2000 0 [some (.ref 0), none, none] [] σ
    refine ⟨fun h => absurd h (by decide), fun _ => ?_⟩
    change ev_wp pg_F pg_lay none [] (ev_lu pg_c39) (fun _ => false) _ 1993 9 [some (.ref 0), some (.int 0), some (.int 0)] [] σ
    refine ⟨trivial, ?_⟩
    rintro _ _ ⟨rfl, rfl⟩
    change ev_wp pg_F pg_lay none [] (ev_lu pg_c39) (fun _ => false) _ 1987 19 [some (.ref 0), some (.int 0), some (.int 0)] [.int (sp_at σ 4 0), .int 0] σ
    refine ⟨trivial, ?_⟩
    rintro _ _ ⟨v1, k2, rfl, rfl⟩
    change ev_wp pg_F pg_lay none [] (ev_lu pg_c39) (fun _ => false) _ 1986 22 [some (.ref 0), some (.int 0), some (.int 0)] [.int v1, .int 0] σ
    refine ⟨fun h => absurd h (by decide), fun _ => ?_⟩
    change ev_wp pg_F pg_lay none [] (ev_lu pg_c39) (fun _ => false) _ 1979 9 [some (.ref 0), some (.int (0 + v1)), some (.int 1)] [] σ
    refine ⟨trivial, ?_⟩
    rintro _ _ ⟨rfl, rfl⟩
    change ev_wp pg_F pg_lay none [] (ev_lu pg_c39) (fun _ => false) _ 1973 19 [some (.ref 0), some (.int (0 + v1)), some (.int 1)] [.int (sp_at σ 4 1), .int (0 + v1)] σ
    refine ⟨trivial, ?_⟩
    rintro _ _ ⟨v3, k4, rfl, rfl⟩
    change ev_wp pg_F pg_lay none [] (ev_lu pg_c39) (fun _ => false) _ 1972 22 [some (.ref 0), some (.int (0 + v1)), some (.int 1)] [.int v3, .int (0 + v1)] σ
    refine ⟨fun h => absurd h (by decide), fun _ => ?_⟩
    change ev_wp pg_F pg_lay none [] (ev_lu pg_c39) (fun _ => false) _ 1965 9 [some (.ref 0), some (.int ((0 + v1) + v3)), some (.int 2)] [] σ
    refine ⟨trivial, ?_⟩
    rintro _ _ ⟨rfl, rfl⟩
    change ev_wp pg_F pg_lay none [] (ev_lu pg_c39) (fun _ => false) _ 1959 19 [some (.ref 0), some (.int ((0 + v1) + v3)), some (.int 2)] [.int (sp_at σ 4 2), .int ((0 + v1) + v3)] σ
    refine ⟨trivial, ?_⟩
    rintro _ _ ⟨v5, k6, rfl, rfl⟩
    change ev_wp pg_F pg_lay none [] (ev_lu pg_c39) (fun _ => false) _ 1958 22 [some (.ref 0), some (.int ((0 + v1) + v3)), some (.int 2)] [.int v5, .int ((0 + v1) + v3)] σ
    refine ⟨fun h => absurd h (by decide), fun _ => ?_⟩
    change ev_wp pg_F pg_lay none [] (ev_lu pg_c39) (fun _ => false) _ 1951 9 [some (.ref 0), some (.int (((0 + v1) + v3) + v5)), some (.int 3)] [] σ
    refine ⟨trivial, ?_⟩
    rintro _ _ ⟨rfl, rfl⟩
    change ev_wp pg_F pg_lay none [] (ev_lu pg_c39) (fun _ => false) _ 1945 19 [some (.ref 0), some (.int (((0 + v1) + v3) + v5)), some (.int 3)] [.int (sp_at σ 4 3), .int (((0 + v1) + v3) + v5)] σ
    refine ⟨trivial, ?_⟩
    rintro _ _ ⟨v7, k8, rfl, rfl⟩
    change ev_wp pg_F pg_lay none [] (ev_lu pg_c39) (fun _ => false) _ 1944 22 [some (.ref 0), some (.int (((0 + v1) + v3) + v5)), some (.int 3)] [.int v7, .int (((0 + v1) + v3) + v5)] σ
    refine ⟨fun _ => ?_, fun h => absurd (by decide) h⟩
    change ev_wp pg_F pg_lay none [] (ev_lu pg_c39) (fun _ => false) _ 1937 30 [some (.ref 0), some (.int ((((0 + v1) + v3) + v5) + v7)), some (.int 4)] [] σ
    exact ⟨_, rfl, Nat.le_refl _, _, fun hz => by rw [k2 (sp_at_zero hz _ _)]; rw [k4 (sp_at_zero hz _ _)]; rw [k6 (sp_at_zero hz _ _)]; rw [k8 (sp_at_zero hz _ _)]; decide +kernel, rfl, rfl⟩
  · cases h
theorem pr_57 : pg_Rn pg_F 57 pg_y57 [] pg_t57 := by
  intro vs σ P h hp
  replace h : pf_57 vs σ = some P := h
  unfold pf_57 at h
  split at h
  · rename_i r
    cases h
    refine ⟨by simp [Value.category], Nat.le_of_ble_eq_true rfl, ev_go pg_hhs pg_cd pg_o57 (fun _ => false) 2000 (Q1 := ev_at (ev_tl pg_t57) σ.2.2 (sp_i True (fun v => sp_b v ∧ (sp_zero σ → v = 0)) σ).2) ?_ (fun _ _ _ _ h => ev_fin h)⟩
    change ev_wp pg_F pg_lay none [] (ev_lu pg_c57) (fun _ => false) _ 2000 0 [some (.ref 1), some (.int r), none, none] [] σ
    refine ⟨fun h => absurd h (by decide), fun _ => ?_⟩
    change ev_wp pg_F pg_lay none [] (ev_lu pg_c57) (fun _ => false) _ 1993 10 [some (.ref 1), some (.int r), some (.int 0), some (.int 0)] [] σ
    refine ⟨trivial, ?_⟩
    rintro _ _ ⟨rfl, rfl⟩
    change ev_wp pg_F pg_lay none [] (ev_lu pg_c57) (fun _ => false) _ 1988 17 [some (.ref 1), some (.int r), some (.int 0), some (.int 0)] [.int (sp_at σ r 0), .int 0] σ
    refine ⟨trivial, ?_⟩
    rintro _ _ ⟨rfl, rfl⟩
    change ev_wp pg_F pg_lay none [] (ev_lu pg_c57) (fun _ => false) _ 1987 20 [some (.ref 1), some (.int r), some (.int 0), some (.int 0)] [.int (sp_add 0 (sp_at σ r 0))] σ
    refine ⟨fun h => absurd h (by decide), fun _ => ?_⟩
    change ev_wp pg_F pg_lay none [] (ev_lu pg_c57) (fun _ => false) _ 1981 10 [some (.ref 1), some (.int r), some (.int (sp_add 0 (sp_at σ r 0))), some (.int 1)] [] σ
    refine ⟨trivial, ?_⟩
    rintro _ _ ⟨rfl, rfl⟩
    change ev_wp pg_F pg_lay none [] (ev_lu pg_c57) (fun _ => false) _ 1976 17 [some (.ref 1), some (.int r), some (.int (sp_add 0 (sp_at σ r 0))), some (.int 1)] [.int (sp_at σ r 1), .int (sp_add 0 (sp_at σ r 0))] σ
    refine ⟨trivial, ?_⟩
    rintro _ _ ⟨rfl, rfl⟩
    change ev_wp pg_F pg_lay none [] (ev_lu pg_c57) (fun _ => false) _ 1975 20 [some (.ref 1), some (.int r), some (.int (sp_add 0 (sp_at σ r 0))), some (.int 1)] [.int (sp_add (sp_add 0 (sp_at σ r 0)) (sp_at σ r 1))] σ
    refine ⟨fun h => absurd h (by decide), fun _ => ?_⟩
    change ev_wp pg_F pg_lay none [] (ev_lu pg_c57) (fun _ => false) _ 1969 10 [some (.ref 1), some (.int r), some (.int (sp_add (sp_add 0 (sp_at σ r 0)) (sp_at σ r 1))), some (.int 2)] [] σ
    refine ⟨trivial, ?_⟩
    rintro _ _ ⟨rfl, rfl⟩
    change ev_wp pg_F pg_lay none [] (ev_lu pg_c57) (fun _ => false) _ 1964 17 [some (.ref 1), some (.int r), some (.int (sp_add (sp_add 0 (sp_at σ r 0)) (sp_at σ r 1))), some (.int 2)] [.int (sp_at σ r 2), .int (sp_add (sp_add 0 (sp_at σ r 0)) (sp_at σ r 1))] σ
    refine ⟨trivial, ?_⟩
    rintro _ _ ⟨rfl, rfl⟩
    change ev_wp pg_F pg_lay none [] (ev_lu pg_c57) (fun _ => false) _ 1963 20 [some (.ref 1), some (.int r), some (.int (sp_add (sp_add 0 (sp_at σ r 0)) (sp_at σ r 1))), some (.int 2)] [.int (sp_add (sp_add (sp_add 0 (sp_at σ r 0)) (sp_at σ r 1)) (sp_at σ r 2))] σ
    refine ⟨fun h => absurd h (by decide), fun _ => ?_⟩
    change ev_wp pg_F pg_lay none [] (ev_lu pg_c57) (fun _ => false) _ 1957 10 [some (.ref 1), some (.int r), some (.int (sp_add (sp_add (sp_add 0 (sp_at σ r 0)) (sp_at σ r 1)) (sp_at σ r 2))), some (.int 3)] [] σ
    refine ⟨trivial, ?_⟩
    rintro _ _ ⟨rfl, rfl⟩
    change ev_wp pg_F pg_lay none [] (ev_lu pg_c57) (fun _ => false) _ 1952 17 [some (.ref 1), some (.int r), some (.int (sp_add (sp_add (sp_add 0 (sp_at σ r 0)) (sp_at σ r 1)) (sp_at σ r 2))), some (.int 3)] [.int (sp_at σ r 3), .int (sp_add (sp_add (sp_add 0 (sp_at σ r 0)) (sp_at σ r 1)) (sp_at σ r 2))] σ
    refine ⟨trivial, ?_⟩
    rintro _ _ ⟨rfl, rfl⟩
    change ev_wp pg_F pg_lay none [] (ev_lu pg_c57) (fun _ => false) _ 1951 20 [some (.ref 1), some (.int r), some (.int (sp_add (sp_add (sp_add 0 (sp_at σ r 0)) (sp_at σ r 1)) (sp_at σ r 2))), some (.int 3)] [.int (sp_add (sp_add (sp_add (sp_add 0 (sp_at σ r 0)) (sp_at σ r 1)) (sp_at σ r 2)) (sp_at σ r 3))] σ
    refine ⟨fun h => absurd h (by decide), fun _ => ?_⟩
    change ev_wp pg_F pg_lay none [] (ev_lu pg_c57) (fun _ => false) _ 1945 10 [some (.ref 1), some (.int r), some (.int (sp_add (sp_add (sp_add (sp_add 0 (sp_at σ r 0)) (sp_at σ r 1)) (sp_at σ r 2)) (sp_at σ r 3))), some (.int 4)] [] σ
    refine ⟨trivial, ?_⟩
    rintro _ _ ⟨rfl, rfl⟩
    change ev_wp pg_F pg_lay none [] (ev_lu pg_c57) (fun _ => false) _ 1940 17 [some (.ref 1), some (.int r), some (.int (sp_add (sp_add (sp_add (sp_add 0 (sp_at σ r 0)) (sp_at σ r 1)) (sp_at σ r 2)) (sp_at σ r 3))), some (.int 4)] [.int (sp_at σ r 4), .int (sp_add (sp_add (sp_add (sp_add 0 (sp_at σ r 0)) (sp_at σ r 1)) (sp_at σ r 2)) (sp_at σ r 3))] σ
    refine ⟨trivial, ?_⟩
    rintro _ _ ⟨rfl, rfl⟩
    change ev_wp pg_F pg_lay none [] (ev_lu pg_c57) (fun _ => false) _ 1939 20 [some (.ref 1), some (.int r), some (.int (sp_add (sp_add (sp_add (sp_add 0 (sp_at σ r 0)) (sp_at σ r 1)) (sp_at σ r 2)) (sp_at σ r 3))), some (.int 4)] [.int (sp_add (sp_add (sp_add (sp_add (sp_add 0 (sp_at σ r 0)) (sp_at σ r 1)) (sp_at σ r 2)) (sp_at σ r 3)) (sp_at σ r 4))] σ
    refine ⟨fun h => absurd h (by decide), fun _ => ?_⟩
    change ev_wp pg_F pg_lay none [] (ev_lu pg_c57) (fun _ => false) _ 1933 10 [some (.ref 1), some (.int r), some (.int (sp_add (sp_add (sp_add (sp_add (sp_add 0 (sp_at σ r 0)) (sp_at σ r 1)) (sp_at σ r 2)) (sp_at σ r 3)) (sp_at σ r 4))), some (.int 5)] [] σ
    refine ⟨trivial, ?_⟩
    rintro _ _ ⟨rfl, rfl⟩
    change ev_wp pg_F pg_lay none [] (ev_lu pg_c57) (fun _ => false) _ 1928 17 [some (.ref 1), some (.int r), some (.int (sp_add (sp_add (sp_add (sp_add (sp_add 0 (sp_at σ r 0)) (sp_at σ r 1)) (sp_at σ r 2)) (sp_at σ r 3)) (sp_at σ r 4))), some (.int 5)] [.int (sp_at σ r 5), .int (sp_add (sp_add (sp_add (sp_add (sp_add 0 (sp_at σ r 0)) (sp_at σ r 1)) (sp_at σ r 2)) (sp_at σ r 3)) (sp_at σ r 4))] σ
    refine ⟨trivial, ?_⟩
    rintro _ _ ⟨rfl, rfl⟩
    change ev_wp pg_F pg_lay none [] (ev_lu pg_c57) (fun _ => false) _ 1927 20 [some (.ref 1), some (.int r), some (.int (sp_add (sp_add (sp_add (sp_add (sp_add 0 (sp_at σ r 0)) (sp_at σ r 1)) (sp_at σ r 2)) (sp_at σ r 3)) (sp_at σ r 4))), some (.int 5)] [.int (sp_add (sp_add (sp_add (sp_add (sp_add (sp_add 0 (sp_at σ r 0)) (sp_at σ r 1)) (sp_at σ r 2)) (sp_at σ r 3)) (sp_at σ r 4)) (sp_at σ r 5))] σ
    refine ⟨fun h => absurd h (by decide), fun _ => ?_⟩
    change ev_wp pg_F pg_lay none [] (ev_lu pg_c57) (fun _ => false) _ 1921 10 [some (.ref 1), some (.int r), some (.int (sp_add (sp_add (sp_add (sp_add (sp_add (sp_add 0 (sp_at σ r 0)) (sp_at σ r 1)) (sp_at σ r 2)) (sp_at σ r 3)) (sp_at σ r 4)) (sp_at σ r 5))), some (.int 6)] [] σ
    refine ⟨trivial, ?_⟩
    rintro _ _ ⟨rfl, rfl⟩
    change ev_wp pg_F pg_lay none [] (ev_lu pg_c57) (fun _ => false) _ 1916 17 [some (.ref 1), some (.int r), some (.int (sp_add (sp_add (sp_add (sp_add (sp_add (sp_add 0 (sp_at σ r 0)) (sp_at σ r 1)) (sp_at σ r 2)) (sp_at σ r 3)) (sp_at σ r 4)) (sp_at σ r 5))), some (.int 6)] [.int (sp_at σ r 6), .int (sp_add (sp_add (sp_add (sp_add (sp_add (sp_add 0 (sp_at σ r 0)) (sp_at σ r 1)) (sp_at σ r 2)) (sp_at σ r 3)) (sp_at σ r 4)) (sp_at σ r 5))] σ
    refine ⟨trivial, ?_⟩
    rintro _ _ ⟨rfl, rfl⟩
    change ev_wp pg_F pg_lay none [] (ev_lu pg_c57) (fun _ => false) _ 1915 20 [some (.ref 1), some (.int r), some (.int (sp_add (sp_add (sp_add (sp_add (sp_add (sp_add 0 (sp_at σ r 0)) (sp_at σ r 1)) (sp_at σ r 2)) (sp_at σ r 3)) (sp_at σ r 4)) (sp_at σ r 5))), some (.int 6)] [.int (sp_add (sp_add (sp_add (sp_add (sp_add (sp_add (sp_add 0 (sp_at σ r 0)) (sp_at σ r 1)) (sp_at σ r 2)) (sp_at σ r 3)) (sp_at σ r 4)) (sp_at σ r 5)) (sp_at σ r 6))] σ
    refine ⟨fun _ => ?_, fun h => absurd (by decide) h⟩
    change ev_wp pg_F pg_lay none [] (ev_lu pg_c57) (fun _ => false) _ 1909 27 [some (.ref 1), some (.int r), some (.int (sp_add (sp_add (sp_add (sp_add (sp_add (sp_add (sp_add 0 (sp_at σ r 0)) (sp_at σ r 1)) (sp_at σ r 2)) (sp_at σ r 3)) (sp_at σ r 4)) (sp_at σ r 5)) (sp_at σ r 6))), some (.int 7)] [] σ
    refine ⟨trivial, ?_⟩
    rintro _ _ ⟨rfl, rfl⟩
    change ev_wp pg_F pg_lay none [] (ev_lu pg_c57) (fun _ => false) _ 1905 34 [some (.ref 1), some (.int r), some (.int (sp_add (sp_add (sp_add (sp_add (sp_add (sp_add (sp_add 0 (sp_at σ r 0)) (sp_at σ r 1)) (sp_at σ r 2)) (sp_at σ r 3)) (sp_at σ r 4)) (sp_at σ r 5)) (sp_at σ r 6))), some (.int 7)] [.int (sp_at σ r 7)] σ
    refine ⟨fun (h1 : (sp_at σ r 7) = (65535 - (sp_add (sp_add (sp_add (sp_add (sp_add (sp_add (sp_add 0 (sp_at σ r 0)) (sp_at σ r 1)) (sp_at σ r 2)) (sp_at σ r 3)) (sp_at σ r 4)) (sp_at σ r 5)) (sp_at σ r 6)))) => ?_, fun (h1 : ¬ (sp_at σ r 7) = (65535 - (sp_add (sp_add (sp_add (sp_add (sp_add (sp_add (sp_add 0 (sp_at σ r 0)) (sp_at σ r 1)) (sp_at σ r 2)) (sp_at σ r 3)) (sp_at σ r 4)) (sp_at σ r 5)) (sp_at σ r 6)))) => ?_⟩
    · skip
      change ev_wp pg_F pg_lay none [] (ev_lu pg_c57) (fun _ => false) _ 1901 41 [some (.ref 1), some (.int r), some (.int (sp_add (sp_add (sp_add (sp_add (sp_add (sp_add (sp_add 0 (sp_at σ r 0)) (sp_at σ r 1)) (sp_at σ r 2)) (sp_at σ r 3)) (sp_at σ r 4)) (sp_at σ r 5)) (sp_at σ r 6))), some (.int 7)] [] σ
      exact ⟨_, rfl, by first | exact Or.inl rfl | exact Or.inr rfl, Nat.le_refl _, _, ⟨by first | exact Or.inl rfl | exact Or.inr rfl, fun hz => by first | rfl | (simp only [sp_at_zero hz] at h1; exact absurd h1 (by decide +kernel))⟩, rfl, rfl⟩
    · skip
      change ev_wp pg_F pg_lay none [] (ev_lu pg_c57) (fun _ => false) _ 1901 45 [some (.ref 1), some (.int r), some (.int (sp_add (sp_add (sp_add (sp_add (sp_add (sp_add (sp_add 0 (sp_at σ r 0)) (sp_at σ r 1)) (sp_at σ r 2)) (sp_at σ r 3)) (sp_at σ r 4)) (sp_at σ r 5)) (sp_at σ r 6))), some (.int 7)] [] σ
      exact ⟨_, rfl, by first | exact Or.inl rfl | exact Or.inr rfl, Nat.le_refl _, _, ⟨by first | exact Or.inl rfl | exact Or.inr rfl, fun hz => by first | rfl | (simp only [sp_at_zero hz] at h1; exact absurd h1 (by decide +kernel))⟩, rfl, rfl⟩
  · cases h
theorem pr_10 : pg_Rn pg_F 10 pg_y10 [] pg_t10 := by
  intro vs σ P h hp
  replace h : pf_10 vs σ = some P := h
  unfold pf_10 at h
  split at h
  · rename_i a b c d e f
    cases h
    refine ⟨by simp [Value.category], Nat.le_of_ble_eq_true rfl, ev_go pg_hhs pg_cd pg_o10 (fun _ => false) 2000 (Q1 := ev_at (ev_tl pg_t10) σ.2.2 (sp_v True (fun σ' => sp_w σ σ')).2) ?_ (fun _ _ _ _ h => ev_fin h)⟩
    change ev_wp pg_F pg_lay none [] (ev_lu pg_c10) (fun _ => false) _ 2000 0 [some (.ref 1), some (.int a), some (.int b), some (.int c), some (.int d), some (.int e), some (.int f)] [] σ
    refine ⟨sp_in rfl rfl, ?_⟩
    have r1 := (sp_w.rf σ).tr (sp_up45 σ 5 (Or.inr rfl) (Int32.toNatClampNeg 1) a)
    change ev_wp pg_F pg_lay none [] (ev_lu pg_c10) (fun _ => false) _ 1995 7 [some (.ref 1), some (.int a), some (.int b), some (.int c), some (.int d), some (.int e), some (.int f)] [] (ev_up σ 5 (Int32.toNatClampNeg 1) a)
    refine ⟨sp_in rfl rfl, ?_⟩
    have r2 := r1.tr (sp_up45 (ev_up σ 5 (Int32.toNatClampNeg 1) a) 5 (Or.inr rfl) (Int32.toNatClampNeg 2) b)
    change ev_wp pg_F pg_lay none [] (ev_lu pg_c10) (fun _ => false) _ 1990 14 [some (.ref 1), some (.int a), some (.int b), some (.int c), some (.int d), some (.int e), some (.int f)] [] (ev_up (ev_up σ 5 (Int32.toNatClampNeg 1) a) 5 (Int32.toNatClampNeg 2) b)
    refine ⟨sp_in rfl rfl, ?_⟩
    have r3 := r2.tr (sp_up45 (ev_up (ev_up σ 5 (Int32.toNatClampNeg 1) a) 5 (Int32.toNatClampNeg 2) b) 5 (Or.inr rfl) (Int32.toNatClampNeg 3) c)
    change ev_wp pg_F pg_lay none [] (ev_lu pg_c10) (fun _ => false) _ 1985 21 [some (.ref 1), some (.int a), some (.int b), some (.int c), some (.int d), some (.int e), some (.int f)] [] (ev_up (ev_up (ev_up σ 5 (Int32.toNatClampNeg 1) a) 5 (Int32.toNatClampNeg 2) b) 5 (Int32.toNatClampNeg 3) c)
    refine ⟨sp_in rfl rfl, ?_⟩
    have r4 := r3.tr (sp_up45 (ev_up (ev_up (ev_up σ 5 (Int32.toNatClampNeg 1) a) 5 (Int32.toNatClampNeg 2) b) 5 (Int32.toNatClampNeg 3) c) 5 (Or.inr rfl) (Int32.toNatClampNeg 4) d)
    change ev_wp pg_F pg_lay none [] (ev_lu pg_c10) (fun _ => false) _ 1980 29 [some (.ref 1), some (.int a), some (.int b), some (.int c), some (.int d), some (.int e), some (.int f)] [] (ev_up (ev_up (ev_up (ev_up σ 5 (Int32.toNatClampNeg 1) a) 5 (Int32.toNatClampNeg 2) b) 5 (Int32.toNatClampNeg 3) c) 5 (Int32.toNatClampNeg 4) d)
    refine ⟨sp_in rfl rfl, ?_⟩
    have r5 := r4.tr (sp_up45 (ev_up (ev_up (ev_up (ev_up σ 5 (Int32.toNatClampNeg 1) a) 5 (Int32.toNatClampNeg 2) b) 5 (Int32.toNatClampNeg 3) c) 5 (Int32.toNatClampNeg 4) d) 5 (Or.inr rfl) (Int32.toNatClampNeg 5) e)
    change ev_wp pg_F pg_lay none [] (ev_lu pg_c10) (fun _ => false) _ 1975 37 [some (.ref 1), some (.int a), some (.int b), some (.int c), some (.int d), some (.int e), some (.int f)] [] (ev_up (ev_up (ev_up (ev_up (ev_up σ 5 (Int32.toNatClampNeg 1) a) 5 (Int32.toNatClampNeg 2) b) 5 (Int32.toNatClampNeg 3) c) 5 (Int32.toNatClampNeg 4) d) 5 (Int32.toNatClampNeg 5) e)
    refine ⟨sp_in rfl rfl, ?_⟩
    have r6 := r5.tr (sp_up45 (ev_up (ev_up (ev_up (ev_up (ev_up σ 5 (Int32.toNatClampNeg 1) a) 5 (Int32.toNatClampNeg 2) b) 5 (Int32.toNatClampNeg 3) c) 5 (Int32.toNatClampNeg 4) d) 5 (Int32.toNatClampNeg 5) e) 5 (Or.inr rfl) (Int32.toNatClampNeg 6) f)
    exact ⟨rfl, Nat.le_of_eq (congrArg Prod.snd r6.2.1), r6, rfl⟩
  · cases h
theorem pr_13 : pg_Rn pg_F 13 pg_y13 [] pg_t13 := by
  intro vs σ P h hp
  replace h : pf_13 vs σ = some P := h
  unfold pf_13 at h
  split at h
  · cases h
    refine ⟨by simp [Value.category], Nat.le_of_ble_eq_true rfl, ev_go pg_hhs pg_cd pg_o13 (fun _ => false) 2000 (Q1 := ev_at (ev_tl pg_t13) σ.2.2 (sp_m True (fun v σ' => sp_b v ∧ sp_w σ σ')).2) ?_ (fun _ _ _ _ h => ev_fin h)⟩
    change ev_wp pg_F pg_lay none [] (ev_lu pg_c13) (fun _ => false) _ 2000 0 [some (.ref 1)] [] σ
    refine ⟨fun (h1 : (σ.1 1 5) = 0) => ?_, fun (h1 : ¬ (σ.1 1 5) = 0) => ?_⟩
    · skip
      change ev_wp pg_F pg_lay none [] (ev_lu pg_c13) (fun _ => false) _ 1997 14 [some (.ref 1)] [] σ
      exact ⟨_, rfl, by first | exact Or.inl rfl | exact Or.inr rfl, Nat.le_of_eq (congrArg Prod.snd (sp_w.rf σ).2.1), _, ⟨by first | exact Or.inl rfl | exact Or.inr rfl, (sp_w.rf σ)⟩, rfl⟩
    · skip
      change ev_wp pg_F pg_lay none [] (ev_lu pg_c13) (fun _ => false) _ 1997 7 [some (.ref 1)] [] σ
      refine ⟨fun (h2 : (σ.1 1 4) = 0) => ?_, fun (h2 : ¬ (σ.1 1 4) = 0) => ?_⟩
      · skip
        change ev_wp pg_F pg_lay none [] (ev_lu pg_c13) (fun _ => false) _ 1994 14 [some (.ref 1)] [] σ
        exact ⟨_, rfl, by first | exact Or.inl rfl | exact Or.inr rfl, Nat.le_of_eq (congrArg Prod.snd (sp_w.rf σ).2.1), _, ⟨by first | exact Or.inl rfl | exact Or.inr rfl, (sp_w.rf σ)⟩, rfl⟩
      · skip
        change ev_wp pg_F pg_lay none [] (ev_lu pg_c13) (fun _ => false) _ 1994 16 [some (.ref 1)] [] σ
        have r3 := (sp_w.rf σ).tr (sp_up1 σ 6 ((σ.1 1 6) - 1) (fun h => absurd h (by decide)) (fun h => absurd h (by decide)))
        refine ⟨fun (h4 : 0 ≤ ((ev_up σ 1 6 ((σ.1 1 6) - 1)).1 1 6)) => ?_, fun (h4 : ¬ 0 ≤ ((ev_up σ 1 6 ((σ.1 1 6) - 1)).1 1 6)) => ?_⟩
        · skip
          change ev_wp pg_F pg_lay none [] (ev_lu pg_c13) (fun _ => false) _ 1985 37 [some (.ref 1)] [] (ev_up σ 1 6 ((σ.1 1 6) - 1))
          exact ⟨_, rfl, by first | exact Or.inl rfl | exact Or.inr rfl, Nat.le_of_eq (congrArg Prod.snd r3.2.1), _, ⟨by first | exact Or.inl rfl | exact Or.inr rfl, r3⟩, rfl⟩
        · skip
          change ev_wp pg_F pg_lay none [] (ev_lu pg_c13) (fun _ => false) _ 1985 33 [some (.ref 1)] [] (ev_up σ 1 6 ((σ.1 1 6) - 1))
          exact ⟨_, rfl, by first | exact Or.inl rfl | exact Or.inr rfl, Nat.le_of_eq (congrArg Prod.snd r3.2.1), _, ⟨by first | exact Or.inl rfl | exact Or.inr rfl, r3⟩, rfl⟩
  · cases h
theorem pr_14 : pg_Rn pg_F 14 pg_y14 [] pg_t14 := by
  intro vs σ P h hp
  replace h : pf_14 vs σ = some P := h
  unfold pf_14 at h
  split at h
  · rename_i a b
    cases h
    refine ⟨by simp [Value.category], Nat.le_of_ble_eq_true rfl, ev_go pg_hhs pg_cd pg_o14 (fun _ => false) 2000 (Q1 := ev_at (ev_tl pg_t14) σ.2.2 (sp_v True (fun σ' => sp_w σ σ')).2) ?_ (fun _ _ _ _ h => ev_fin h)⟩
    change ev_wp pg_F pg_lay none [] (ev_lu pg_c14) (fun _ => false) _ 2000 0 [some (.ref 1), some (.int a), some (.int b)] [] σ
    refine ⟨Or.inr rfl, ?_⟩
    have r1 := (sp_w.rf σ).tr (sp_up1 σ 5 1 (fun h => absurd h (by decide)) (fun _ => Or.inr rfl))
    change ev_wp pg_F pg_lay none [] (ev_lu pg_c14) (fun _ => false) _ 1997 5 [some (.ref 1), some (.int a), some (.int b)] [] (ev_up σ 1 5 1)
    have r2 := r1.tr (sp_up1 (ev_up σ 1 5 1) 6 a (fun h => absurd h (by decide)) (fun h => absurd h (by decide)))
    have r3 := r2.tr (sp_up1 (ev_up (ev_up σ 1 5 1) 1 6 a) 7 b (fun h => absurd h (by decide)) (fun h => absurd h (by decide)))
    exact ⟨rfl, Nat.le_of_eq (congrArg Prod.snd r3.2.1), r3, rfl⟩
  · cases h
theorem pr_58 : pg_Rn pg_F 58 pg_y58 [] pg_t58 := by
  intro vs σ P h hp
  replace h : pf_58 vs σ = some P := h
  unfold pf_58 at h
  split at h
  · rename_i a b c
    cases h
    refine ⟨by simp [Value.category], Nat.le_of_ble_eq_true rfl, ev_go pg_hhs pg_cd pg_o58 (fun _ => false) 2000 (Q1 := ev_at (ev_tl pg_t58) σ.2.2 (sp_m True (fun v σ' => sp_b v ∧ sp_w σ σ')).2) ?_ (fun _ _ _ _ h => ev_fin h)⟩
    change ev_wp pg_F pg_lay none [] (ev_lu pg_c58) (fun _ => false) _ 2000 0 [some (.ref 1), some (.int a), some (.int b), some (.int c), none, none] [] σ
    refine ⟨fun (h1 : ((a * 4) + b) < 0) => ?_, fun (h1 : ¬ ((a * 4) + b) < 0) => ?_⟩
    · skip
      change ev_wp pg_F pg_lay none [] (ev_lu pg_c58) (fun _ => false) _ 1992 22 [some (.ref 1), some (.int a), some (.int b), some (.int c), some (.int ((a * 4) + b)), none] [] σ
      exact ⟨_, rfl, by first | exact Or.inl rfl | exact Or.inr rfl, Nat.le_of_eq (congrArg Prod.snd (sp_w.rf σ).2.1), _, ⟨by first | exact Or.inl rfl | exact Or.inr rfl, (sp_w.rf σ)⟩, rfl⟩
    · skip
      change ev_wp pg_F pg_lay none [] (ev_lu pg_c58) (fun _ => false) _ 1992 12 [some (.ref 1), some (.int a), some (.int b), some (.int c), some (.int ((a * 4) + b)), none] [] σ
      refine ⟨fun (h2 : ((a * 4) + b) < (Int32.ofNat 256)) => ?_, fun (h2 : ¬ ((a * 4) + b) < (Int32.ofNat 256)) => ?_⟩
      · skip
        change ev_wp pg_F pg_lay none [] (ev_lu pg_c58) (fun _ => false) _ 1987 24 [some (.ref 1), some (.int a), some (.int b), some (.int c), some (.int ((a * 4) + b)), none] [] σ
        refine ⟨fun (h3 : (((a * 4) + b) / 4) = 4) => ?_, fun (h3 : ¬ (((a * 4) + b) / 4) = 4) => ?_⟩
        · skip
          change ev_wp pg_F pg_lay none [] (ev_lu pg_c58) (fun _ => false) _ 1982 32 [some (.ref 1), some (.int a), some (.int b), some (.int c), some (.int ((a * 4) + b)), none] [] σ
          have r4 := (sp_w.rf σ).tr (sp_up1 σ 2 ((σ.1 1 2) + 1) (fun h => absurd h (by decide)) (fun h => absurd h (by decide)))
          refine ⟨trivial, ?_⟩
          rintro _ s7 ⟨v5, k6, rfl⟩
          have r8 := r4.tr k6.2
          change ev_wp pg_F pg_lay none [] (ev_lu pg_c58) (fun _ => false) _ 1971 53 [some (.ref 1), some (.int a), some (.int b), some (.int c), some (.int ((a * 4) + b)), some (.int 1)] [.int v5] s7
          refine ⟨fun (h9 : v5 = 0) => ?_, fun (h9 : ¬ v5 = 0) => ?_⟩
          · skip
            change ev_wp pg_F pg_lay none [] (ev_lu pg_c58) (fun _ => false) _ 1970 105 [some (.ref 1), some (.int a), some (.int b), some (.int c), some (.int ((a * 4) + b)), some (.int 1)] [] s7
            refine ⟨fun h => absurd h (by decide), fun _ => ?_⟩
            change ev_wp pg_F pg_lay none [] (ev_lu pg_c58) (fun _ => false) _ 1965 116 [some (.ref 1), some (.int a), some (.int b), some (.int c), some (.int ((a * 4) + b)), some (.int 1)] [.int ((a * 4) + b), .ref 4] s7
            refine ⟨sp_in3 (by decide) h1 h2, ?_⟩
            change ev_wp pg_F pg_lay none [] (ev_lu pg_c58) (fun _ => false) _ 1961 123 [some (.ref 1), some (.int a), some (.int b), some (.int c), some (.int ((a * 4) + b)), some (.int 1)] [.int (s7.1 4 (Int32.toNatClampNeg ((a * 4) + b))), .int ((a * 4) + b), .ref 4] s7
            refine ⟨sp_in3 (by decide) h1 h2, ?_⟩
            have r10 := r8.tr (sp_up45 s7 4 (Or.inl rfl) (Int32.toNatClampNeg ((a * 4) + b)) ((s7.1 4 (Int32.toNatClampNeg ((a * 4) + b))) ||| c))
            change ev_wp pg_F pg_lay none [] (ev_lu pg_c58) (fun _ => false) _ 1957 130 [some (.ref 1), some (.int a), some (.int b), some (.int c), some (.int ((a * 4) + b)), some (.int 1)] [] (ev_up s7 4 (Int32.toNatClampNeg ((a * 4) + b)) ((s7.1 4 (Int32.toNatClampNeg ((a * 4) + b))) ||| c))
            exact ⟨_, rfl, by first | exact Or.inl rfl | exact Or.inr rfl, Nat.le_of_eq (congrArg Prod.snd r10.2.1), _, ⟨by first | exact Or.inl rfl | exact Or.inr rfl, r10⟩, rfl⟩
          · skip
            change ev_wp pg_F pg_lay none [] (ev_lu pg_c58) (fun _ => false) _ 1970 56 [some (.ref 1), some (.int a), some (.int b), some (.int c), some (.int ((a * 4) + b)), some (.int 1)] [] s7
            refine ⟨fun h => absurd h (by decide), fun _ => ?_⟩
            change ev_wp pg_F pg_lay none [] (ev_lu pg_c58) (fun _ => false) _ 1965 67 [some (.ref 1), some (.int a), some (.int b), some (.int c), some (.int ((a * 4) + b)), some (.int 1)] [.int ((a * 4) + b), .ref 4] s7
            refine ⟨sp_in3 (by decide) h1 h2, ?_⟩
            change ev_wp pg_F pg_lay none [] (ev_lu pg_c58) (fun _ => false) _ 1961 74 [some (.ref 1), some (.int a), some (.int b), some (.int c), some (.int ((a * 4) + b)), some (.int 1)] [.int (s7.1 4 (Int32.toNatClampNeg ((a * 4) + b))), .int ((a * 4) + b), .ref 4] s7
            refine ⟨sp_in3 (by decide) h1 h2, ?_⟩
            have r11 := r8.tr (sp_up45 s7 4 (Or.inl rfl) (Int32.toNatClampNeg ((a * 4) + b)) ((s7.1 4 (Int32.toNatClampNeg ((a * 4) + b))) ||| (c &&& (s7.1 1 7))))
            change ev_wp pg_F pg_lay none [] (ev_lu pg_c58) (fun _ => false) _ 1954 89 [some (.ref 1), some (.int a), some (.int b), some (.int c), some (.int ((a * 4) + b)), some (.int 1)] [] (ev_up s7 4 (Int32.toNatClampNeg ((a * 4) + b)) ((s7.1 4 (Int32.toNatClampNeg ((a * 4) + b))) ||| (c &&& (s7.1 1 7))))
            have r12 := r11.tr (sp_up1 (ev_up s7 4 (Int32.toNatClampNeg ((a * 4) + b)) ((s7.1 4 (Int32.toNatClampNeg ((a * 4) + b))) ||| (c &&& (s7.1 1 7)))) 3 (((ev_up s7 4 (Int32.toNatClampNeg ((a * 4) + b)) ((s7.1 4 (Int32.toNatClampNeg ((a * 4) + b))) ||| (c &&& (s7.1 1 7)))).1 1 3) + 1) (fun h => absurd h (by decide)) (fun h => absurd h (by decide)))
            refine ⟨trivial, ?_⟩
            rintro _ _ ⟨rfl, rfl⟩
            have r13 := r12.tr ((sp_up1 (ev_up (ev_up s7 4 (Int32.toNatClampNeg ((a * 4) + b)) ((s7.1 4 (Int32.toNatClampNeg ((a * 4) + b))) ||| (c &&& (s7.1 1 7)))) 1 3 (((ev_up s7 4 (Int32.toNatClampNeg ((a * 4) + b)) ((s7.1 4 (Int32.toNatClampNeg ((a * 4) + b))) ||| (c &&& (s7.1 1 7)))).1 1 3) + 1)) 4 0 (fun _ => Or.inl rfl) (fun h => absurd h (by decide))).tr (sp_up1 _ 5 0 (fun h => absurd h (by decide)) (fun _ => Or.inl rfl)))
            change ev_wp pg_F pg_lay none [] (ev_lu pg_c58) (fun _ => false) _ 1946 103 [some (.ref 1), some (.int a), some (.int b), some (.int c), some (.int ((a * 4) + b)), some (.int 1)] [] (ev_up (ev_up (ev_up (ev_up s7 4 (Int32.toNatClampNeg ((a * 4) + b)) ((s7.1 4 (Int32.toNatClampNeg ((a * 4) + b))) ||| (c &&& (s7.1 1 7)))) 1 3 (((ev_up s7 4 (Int32.toNatClampNeg ((a * 4) + b)) ((s7.1 4 (Int32.toNatClampNeg ((a * 4) + b))) ||| (c &&& (s7.1 1 7)))).1 1 3) + 1)) 1 4 0) 1 5 0)
            exact ⟨_, rfl, by first | exact Or.inl rfl | exact Or.inr rfl, Nat.le_of_eq (congrArg Prod.snd r13.2.1), _, ⟨by first | exact Or.inl rfl | exact Or.inr rfl, r13⟩, rfl⟩
        · skip
          change ev_wp pg_F pg_lay none [] (ev_lu pg_c58) (fun _ => false) _ 1982 36 [some (.ref 1), some (.int a), some (.int b), some (.int c), some (.int ((a * 4) + b)), none] [] σ
          have r14 := (sp_w.rf σ).tr (sp_up1 σ 2 ((σ.1 1 2) + 1) (fun h => absurd h (by decide)) (fun h => absurd h (by decide)))
          refine ⟨trivial, ?_⟩
          rintro _ s17 ⟨v15, k16, rfl⟩
          have r18 := r14.tr k16.2
          change ev_wp pg_F pg_lay none [] (ev_lu pg_c58) (fun _ => false) _ 1972 53 [some (.ref 1), some (.int a), some (.int b), some (.int c), some (.int ((a * 4) + b)), some (.int 0)] [.int v15] s17
          refine ⟨fun (h19 : v15 = 0) => ?_, fun (h19 : ¬ v15 = 0) => ?_⟩
          · skip
            change ev_wp pg_F pg_lay none [] (ev_lu pg_c58) (fun _ => false) _ 1971 105 [some (.ref 1), some (.int a), some (.int b), some (.int c), some (.int ((a * 4) + b)), some (.int 0)] [] s17
            refine ⟨fun _ => ?_, fun h => absurd (by decide) h⟩
            change ev_wp pg_F pg_lay none [] (ev_lu pg_c58) (fun _ => false) _ 1966 128 [some (.ref 1), some (.int a), some (.int b), some (.int c), some (.int ((a * 4) + b)), some (.int 0)] [.int ((a * 4) + b), .ref 4] s17
            refine ⟨sp_in3 (by decide) h1 h2, ?_⟩
            have r20 := r18.tr (sp_up45 s17 4 (Or.inl rfl) (Int32.toNatClampNeg ((a * 4) + b)) c)
            change ev_wp pg_F pg_lay none [] (ev_lu pg_c58) (fun _ => false) _ 1964 130 [some (.ref 1), some (.int a), some (.int b), some (.int c), some (.int ((a * 4) + b)), some (.int 0)] [] (ev_up s17 4 (Int32.toNatClampNeg ((a * 4) + b)) c)
            exact ⟨_, rfl, by first | exact Or.inl rfl | exact Or.inr rfl, Nat.le_of_eq (congrArg Prod.snd r20.2.1), _, ⟨by first | exact Or.inl rfl | exact Or.inr rfl, r20⟩, rfl⟩
          · skip
            change ev_wp pg_F pg_lay none [] (ev_lu pg_c58) (fun _ => false) _ 1971 56 [some (.ref 1), some (.int a), some (.int b), some (.int c), some (.int ((a * 4) + b)), some (.int 0)] [] s17
            refine ⟨fun _ => ?_, fun h => absurd (by decide) h⟩
            change ev_wp pg_F pg_lay none [] (ev_lu pg_c58) (fun _ => false) _ 1966 84 [some (.ref 1), some (.int a), some (.int b), some (.int c), some (.int ((a * 4) + b)), some (.int 0)] [.int ((a * 4) + b), .ref 4] s17
            refine ⟨sp_in3 (by decide) h1 h2, ?_⟩
            have r21 := r18.tr (sp_up45 s17 4 (Or.inl rfl) (Int32.toNatClampNeg ((a * 4) + b)) (s17.1 1 7))
            change ev_wp pg_F pg_lay none [] (ev_lu pg_c58) (fun _ => false) _ 1963 89 [some (.ref 1), some (.int a), some (.int b), some (.int c), some (.int ((a * 4) + b)), some (.int 0)] [] (ev_up s17 4 (Int32.toNatClampNeg ((a * 4) + b)) (s17.1 1 7))
            have r22 := r21.tr (sp_up1 (ev_up s17 4 (Int32.toNatClampNeg ((a * 4) + b)) (s17.1 1 7)) 3 (((ev_up s17 4 (Int32.toNatClampNeg ((a * 4) + b)) (s17.1 1 7)).1 1 3) + 1) (fun h => absurd h (by decide)) (fun h => absurd h (by decide)))
            refine ⟨trivial, ?_⟩
            rintro _ _ ⟨rfl, rfl⟩
            have r23 := r22.tr ((sp_up1 (ev_up (ev_up s17 4 (Int32.toNatClampNeg ((a * 4) + b)) (s17.1 1 7)) 1 3 (((ev_up s17 4 (Int32.toNatClampNeg ((a * 4) + b)) (s17.1 1 7)).1 1 3) + 1)) 4 0 (fun _ => Or.inl rfl) (fun h => absurd h (by decide))).tr (sp_up1 _ 5 0 (fun h => absurd h (by decide)) (fun _ => Or.inl rfl)))
            change ev_wp pg_F pg_lay none [] (ev_lu pg_c58) (fun _ => false) _ 1955 103 [some (.ref 1), some (.int a), some (.int b), some (.int c), some (.int ((a * 4) + b)), some (.int 0)] [] (ev_up (ev_up (ev_up (ev_up s17 4 (Int32.toNatClampNeg ((a * 4) + b)) (s17.1 1 7)) 1 3 (((ev_up s17 4 (Int32.toNatClampNeg ((a * 4) + b)) (s17.1 1 7)).1 1 3) + 1)) 1 4 0) 1 5 0)
            exact ⟨_, rfl, by first | exact Or.inl rfl | exact Or.inr rfl, Nat.le_of_eq (congrArg Prod.snd r23.2.1), _, ⟨by first | exact Or.inl rfl | exact Or.inr rfl, r23⟩, rfl⟩
      · skip
        change ev_wp pg_F pg_lay none [] (ev_lu pg_c58) (fun _ => false) _ 1987 22 [some (.ref 1), some (.int a), some (.int b), some (.int c), some (.int ((a * 4) + b)), none] [] σ
        exact ⟨_, rfl, by first | exact Or.inl rfl | exact Or.inr rfl, Nat.le_of_eq (congrArg Prod.snd (sp_w.rf σ).2.1), _, ⟨by first | exact Or.inl rfl | exact Or.inr rfl, (sp_w.rf σ)⟩, rfl⟩
  · cases h
theorem pr_79 : pg_Rn pg_F 79 pg_y79 [] pg_t79 := by
  intro vs σ P h hp
  replace h : pf_79 vs σ = some P := h
  unfold pf_79 at h
  split at h
  · rename_i a
    cases h
    refine ⟨by simp [Value.category], Nat.le_of_ble_eq_true rfl, ev_go pg_hhs pg_cd pg_o79 (fun _ => false) 2000 (Q1 := ev_at (ev_tl pg_t79) σ.2.2 (sp_m True (fun v σ' => sp_b v ∧ sp_w σ σ')).2) ?_ (fun _ _ _ _ h => ev_fin h)⟩
    change ev_wp pg_F pg_lay none [] (ev_lu pg_c79) (fun _ => false) _ 2000 0 [some (.ref 1), some (.int a), none] [] σ
    refine ⟨fun h => absurd h (by decide), fun _ => ?_⟩
    change ev_wp pg_F pg_lay none [] (ev_lu pg_c79) (fun _ => false) _ 1995 8 [some (.ref 1), some (.int a), some (.int 0)] [] σ
    refine ⟨trivial, ?_⟩
    rintro _ s3 ⟨v1, k2, rfl⟩
    have r4 := (sp_w.rf σ).tr k2.2
    change ev_wp pg_F pg_lay none [] (ev_lu pg_c79) (fun _ => false) _ 1990 15 [some (.ref 1), some (.int a), some (.int 0)] [.int v1] s3
    refine ⟨fun (h5 : v1 = 0) => ?_, fun (h5 : ¬ v1 = 0) => ?_⟩
    · skip
      change ev_wp pg_F pg_lay none [] (ev_lu pg_c79) (fun _ => false) _ 1989 18 [some (.ref 1), some (.int a), some (.int 0)] [] s3
      exact ⟨_, rfl, by first | exact Or.inl rfl | exact Or.inr rfl, Nat.le_of_eq (congrArg Prod.snd r4.2.1), _, ⟨by first | exact Or.inl rfl | exact Or.inr rfl, r4⟩, rfl⟩
    · skip
      change ev_wp pg_F pg_lay none [] (ev_lu pg_c79) (fun _ => false) _ 1989 20 [some (.ref 1), some (.int a), some (.int 0)] [] s3
      refine ⟨fun h => absurd h (by decide), fun _ => ?_⟩
      change ev_wp pg_F pg_lay none [] (ev_lu pg_c79) (fun _ => false) _ 1984 8 [some (.ref 1), some (.int a), some (.int 1)] [] s3
      refine ⟨trivial, ?_⟩
      rintro _ s8 ⟨v6, k7, rfl⟩
      have r9 := r4.tr k7.2
      change ev_wp pg_F pg_lay none [] (ev_lu pg_c79) (fun _ => false) _ 1979 15 [some (.ref 1), some (.int a), some (.int 1)] [.int v6] s8
      refine ⟨fun (h10 : v6 = 0) => ?_, fun (h10 : ¬ v6 = 0) => ?_⟩
      · skip
        change ev_wp pg_F pg_lay none [] (ev_lu pg_c79) (fun _ => false) _ 1978 18 [some (.ref 1), some (.int a), some (.int 1)] [] s8
        exact ⟨_, rfl, by first | exact Or.inl rfl | exact Or.inr rfl, Nat.le_of_eq (congrArg Prod.snd r9.2.1), _, ⟨by first | exact Or.inl rfl | exact Or.inr rfl, r9⟩, rfl⟩
      · skip
        change ev_wp pg_F pg_lay none [] (ev_lu pg_c79) (fun _ => false) _ 1978 20 [some (.ref 1), some (.int a), some (.int 1)] [] s8
        refine ⟨fun h => absurd h (by decide), fun _ => ?_⟩
        change ev_wp pg_F pg_lay none [] (ev_lu pg_c79) (fun _ => false) _ 1973 8 [some (.ref 1), some (.int a), some (.int 2)] [] s8
        refine ⟨trivial, ?_⟩
        rintro _ s13 ⟨v11, k12, rfl⟩
        have r14 := r9.tr k12.2
        change ev_wp pg_F pg_lay none [] (ev_lu pg_c79) (fun _ => false) _ 1968 15 [some (.ref 1), some (.int a), some (.int 2)] [.int v11] s13
        refine ⟨fun (h15 : v11 = 0) => ?_, fun (h15 : ¬ v11 = 0) => ?_⟩
        · skip
          change ev_wp pg_F pg_lay none [] (ev_lu pg_c79) (fun _ => false) _ 1967 18 [some (.ref 1), some (.int a), some (.int 2)] [] s13
          exact ⟨_, rfl, by first | exact Or.inl rfl | exact Or.inr rfl, Nat.le_of_eq (congrArg Prod.snd r14.2.1), _, ⟨by first | exact Or.inl rfl | exact Or.inr rfl, r14⟩, rfl⟩
        · skip
          change ev_wp pg_F pg_lay none [] (ev_lu pg_c79) (fun _ => false) _ 1967 20 [some (.ref 1), some (.int a), some (.int 2)] [] s13
          refine ⟨fun h => absurd h (by decide), fun _ => ?_⟩
          change ev_wp pg_F pg_lay none [] (ev_lu pg_c79) (fun _ => false) _ 1962 8 [some (.ref 1), some (.int a), some (.int 3)] [] s13
          refine ⟨trivial, ?_⟩
          rintro _ s18 ⟨v16, k17, rfl⟩
          have r19 := r14.tr k17.2
          change ev_wp pg_F pg_lay none [] (ev_lu pg_c79) (fun _ => false) _ 1957 15 [some (.ref 1), some (.int a), some (.int 3)] [.int v16] s18
          refine ⟨fun (h20 : v16 = 0) => ?_, fun (h20 : ¬ v16 = 0) => ?_⟩
          · skip
            change ev_wp pg_F pg_lay none [] (ev_lu pg_c79) (fun _ => false) _ 1956 18 [some (.ref 1), some (.int a), some (.int 3)] [] s18
            exact ⟨_, rfl, by first | exact Or.inl rfl | exact Or.inr rfl, Nat.le_of_eq (congrArg Prod.snd r19.2.1), _, ⟨by first | exact Or.inl rfl | exact Or.inr rfl, r19⟩, rfl⟩
          · skip
            change ev_wp pg_F pg_lay none [] (ev_lu pg_c79) (fun _ => false) _ 1956 20 [some (.ref 1), some (.int a), some (.int 3)] [] s18
            refine ⟨fun h => absurd h (by decide), fun _ => ?_⟩
            change ev_wp pg_F pg_lay none [] (ev_lu pg_c79) (fun _ => false) _ 1951 8 [some (.ref 1), some (.int a), some (.int 4)] [] s18
            refine ⟨trivial, ?_⟩
            rintro _ s23 ⟨v21, k22, rfl⟩
            have r24 := r19.tr k22.2
            change ev_wp pg_F pg_lay none [] (ev_lu pg_c79) (fun _ => false) _ 1946 15 [some (.ref 1), some (.int a), some (.int 4)] [.int v21] s23
            refine ⟨fun (h25 : v21 = 0) => ?_, fun (h25 : ¬ v21 = 0) => ?_⟩
            · skip
              change ev_wp pg_F pg_lay none [] (ev_lu pg_c79) (fun _ => false) _ 1945 18 [some (.ref 1), some (.int a), some (.int 4)] [] s23
              exact ⟨_, rfl, by first | exact Or.inl rfl | exact Or.inr rfl, Nat.le_of_eq (congrArg Prod.snd r24.2.1), _, ⟨by first | exact Or.inl rfl | exact Or.inr rfl, r24⟩, rfl⟩
            · skip
              change ev_wp pg_F pg_lay none [] (ev_lu pg_c79) (fun _ => false) _ 1945 20 [some (.ref 1), some (.int a), some (.int 4)] [] s23
              refine ⟨fun h => absurd h (by decide), fun _ => ?_⟩
              change ev_wp pg_F pg_lay none [] (ev_lu pg_c79) (fun _ => false) _ 1940 8 [some (.ref 1), some (.int a), some (.int 5)] [] s23
              refine ⟨trivial, ?_⟩
              rintro _ s28 ⟨v26, k27, rfl⟩
              have r29 := r24.tr k27.2
              change ev_wp pg_F pg_lay none [] (ev_lu pg_c79) (fun _ => false) _ 1935 15 [some (.ref 1), some (.int a), some (.int 5)] [.int v26] s28
              refine ⟨fun (h30 : v26 = 0) => ?_, fun (h30 : ¬ v26 = 0) => ?_⟩
              · skip
                change ev_wp pg_F pg_lay none [] (ev_lu pg_c79) (fun _ => false) _ 1934 18 [some (.ref 1), some (.int a), some (.int 5)] [] s28
                exact ⟨_, rfl, by first | exact Or.inl rfl | exact Or.inr rfl, Nat.le_of_eq (congrArg Prod.snd r29.2.1), _, ⟨by first | exact Or.inl rfl | exact Or.inr rfl, r29⟩, rfl⟩
              · skip
                change ev_wp pg_F pg_lay none [] (ev_lu pg_c79) (fun _ => false) _ 1934 20 [some (.ref 1), some (.int a), some (.int 5)] [] s28
                refine ⟨fun h => absurd h (by decide), fun _ => ?_⟩
                change ev_wp pg_F pg_lay none [] (ev_lu pg_c79) (fun _ => false) _ 1929 8 [some (.ref 1), some (.int a), some (.int 6)] [] s28
                refine ⟨trivial, ?_⟩
                rintro _ s33 ⟨v31, k32, rfl⟩
                have r34 := r29.tr k32.2
                change ev_wp pg_F pg_lay none [] (ev_lu pg_c79) (fun _ => false) _ 1924 15 [some (.ref 1), some (.int a), some (.int 6)] [.int v31] s33
                refine ⟨fun (h35 : v31 = 0) => ?_, fun (h35 : ¬ v31 = 0) => ?_⟩
                · skip
                  change ev_wp pg_F pg_lay none [] (ev_lu pg_c79) (fun _ => false) _ 1923 18 [some (.ref 1), some (.int a), some (.int 6)] [] s33
                  exact ⟨_, rfl, by first | exact Or.inl rfl | exact Or.inr rfl, Nat.le_of_eq (congrArg Prod.snd r34.2.1), _, ⟨by first | exact Or.inl rfl | exact Or.inr rfl, r34⟩, rfl⟩
                · skip
                  change ev_wp pg_F pg_lay none [] (ev_lu pg_c79) (fun _ => false) _ 1923 20 [some (.ref 1), some (.int a), some (.int 6)] [] s33
                  refine ⟨fun h => absurd h (by decide), fun _ => ?_⟩
                  change ev_wp pg_F pg_lay none [] (ev_lu pg_c79) (fun _ => false) _ 1918 8 [some (.ref 1), some (.int a), some (.int 7)] [] s33
                  refine ⟨trivial, ?_⟩
                  rintro _ s38 ⟨v36, k37, rfl⟩
                  have r39 := r34.tr k37.2
                  change ev_wp pg_F pg_lay none [] (ev_lu pg_c79) (fun _ => false) _ 1913 15 [some (.ref 1), some (.int a), some (.int 7)] [.int v36] s38
                  refine ⟨fun (h40 : v36 = 0) => ?_, fun (h40 : ¬ v36 = 0) => ?_⟩
                  · skip
                    change ev_wp pg_F pg_lay none [] (ev_lu pg_c79) (fun _ => false) _ 1912 18 [some (.ref 1), some (.int a), some (.int 7)] [] s38
                    exact ⟨_, rfl, by first | exact Or.inl rfl | exact Or.inr rfl, Nat.le_of_eq (congrArg Prod.snd r39.2.1), _, ⟨by first | exact Or.inl rfl | exact Or.inr rfl, r39⟩, rfl⟩
                  · skip
                    change ev_wp pg_F pg_lay none [] (ev_lu pg_c79) (fun _ => false) _ 1912 20 [some (.ref 1), some (.int a), some (.int 7)] [] s38
                    refine ⟨fun _ => ?_, fun h => absurd (by decide) h⟩
                    change ev_wp pg_F pg_lay none [] (ev_lu pg_c79) (fun _ => false) _ 1907 26 [some (.ref 1), some (.int a), some (.int 8)] [] s38
                    exact ⟨_, rfl, by first | exact Or.inl rfl | exact Or.inr rfl, Nat.le_of_eq (congrArg Prod.snd r39.2.1), _, ⟨by first | exact Or.inl rfl | exact Or.inr rfl, r39⟩, rfl⟩
  · cases h
theorem pr_81 : pg_Rn pg_F 81 pg_y81 [] pg_t81 := by
  intro vs σ P h hp
  replace h : pf_81 vs σ = some P := h
  unfold pf_81 at h
  split at h
  · rename_i a b
    cases h
    refine ⟨by simp [Value.category], Nat.le_of_ble_eq_true rfl, ev_go pg_hhs pg_cd pg_o81 (fun _ => false) 2000 (Q1 := ev_at (ev_tl pg_t81) σ.2.2 (sp_m True (fun v σ' => sp_b v ∧ sp_w σ σ')).2) ?_ (fun _ _ _ _ h => ev_fin h)⟩
    change ev_wp pg_F pg_lay none [] (ev_lu pg_c81) (fun _ => false) _ 2000 0 [some (.ref 1), some (.int a), some (.int b), none, none] [] σ
    refine ⟨sp_in rfl rfl, ?_⟩
    have r1 := (sp_w.rf σ).tr (sp_up45 σ 5 (Or.inr rfl) (Int32.toNatClampNeg 0) b)
    change ev_wp pg_F pg_lay none [] (ev_lu pg_c81) (fun _ => false) _ 1995 7 [some (.ref 1), some (.int a), some (.int b), none, none] [] (ev_up σ 5 (Int32.toNatClampNeg 0) b)
    refine ⟨fun h => absurd h (by decide), fun _ => ?_⟩
    change ev_wp pg_F pg_lay none [] (ev_lu pg_c81) (fun _ => false) _ 1988 19 [some (.ref 1), some (.int a), some (.int b), some (.int 0), some (.int 0)] [] (ev_up σ 5 (Int32.toNatClampNeg 0) b)
    refine ⟨sp_in rfl rfl, ?_⟩
    change ev_wp pg_F pg_lay none [] (ev_lu pg_c81) (fun _ => false) _ 1981 30 [some (.ref 1), some (.int a), some (.int b), some (.int 0), some (.int 0)] [.int ((ev_up σ 5 (Int32.toNatClampNeg 0) b).1 5 (Int32.toNatClampNeg 0)), .int 0, .int a, .ref 1] (ev_up σ 5 (Int32.toNatClampNeg 0) b)
    refine ⟨trivial, ?_⟩
    rintro _ s4 ⟨v2, k3, rfl⟩
    have r5 := r1.tr k3.2
    change ev_wp pg_F pg_lay none [] (ev_lu pg_c81) (fun _ => false) _ 1980 33 [some (.ref 1), some (.int a), some (.int b), some (.int 0), some (.int 0)] [.int v2] s4
    refine ⟨fun (h6 : v2 = 0) => ?_, fun (h6 : ¬ v2 = 0) => ?_⟩
    · skip
      change ev_wp pg_F pg_lay none [] (ev_lu pg_c81) (fun _ => false) _ 1979 36 [some (.ref 1), some (.int a), some (.int b), some (.int 0), some (.int 0)] [] s4
      exact ⟨_, rfl, by first | exact Or.inl rfl | exact Or.inr rfl, Nat.le_of_eq (congrArg Prod.snd r5.2.1), _, ⟨by first | exact Or.inl rfl | exact Or.inr rfl, r5⟩, rfl⟩
    · skip
      change ev_wp pg_F pg_lay none [] (ev_lu pg_c81) (fun _ => false) _ 1979 38 [some (.ref 1), some (.int a), some (.int b), some (.int 0), some (.int 0)] [] s4
      refine ⟨sp_in rfl rfl, ?_⟩
      change ev_wp pg_F pg_lay none [] (ev_lu pg_c81) (fun _ => false) _ 1974 46 [some (.ref 1), some (.int a), some (.int b), some (.int 0), some (.int 0)] [.int (s4.1 5 (Int32.toNatClampNeg 0)), .int 0] s4
      refine ⟨trivial, ?_⟩
      rintro _ _ ⟨rfl, rfl⟩
      change ev_wp pg_F pg_lay none [] (ev_lu pg_c81) (fun _ => false) _ 1973 49 [some (.ref 1), some (.int a), some (.int b), some (.int 0), some (.int 0)] [.int (sp_add 0 (s4.1 5 (Int32.toNatClampNeg 0)))] s4
      refine ⟨fun h => absurd h (by decide), fun _ => ?_⟩
      change ev_wp pg_F pg_lay none [] (ev_lu pg_c81) (fun _ => false) _ 1967 19 [some (.ref 1), some (.int a), some (.int b), some (.int (sp_add 0 (s4.1 5 (Int32.toNatClampNeg 0)))), some (.int 1)] [] s4
      refine ⟨sp_in rfl rfl, ?_⟩
      change ev_wp pg_F pg_lay none [] (ev_lu pg_c81) (fun _ => false) _ 1960 30 [some (.ref 1), some (.int a), some (.int b), some (.int (sp_add 0 (s4.1 5 (Int32.toNatClampNeg 0)))), some (.int 1)] [.int (s4.1 5 (Int32.toNatClampNeg 1)), .int 1, .int a, .ref 1] s4
      refine ⟨trivial, ?_⟩
      rintro _ s9 ⟨v7, k8, rfl⟩
      have r10 := r5.tr k8.2
      change ev_wp pg_F pg_lay none [] (ev_lu pg_c81) (fun _ => false) _ 1959 33 [some (.ref 1), some (.int a), some (.int b), some (.int (sp_add 0 (s4.1 5 (Int32.toNatClampNeg 0)))), some (.int 1)] [.int v7] s9
      refine ⟨fun (h11 : v7 = 0) => ?_, fun (h11 : ¬ v7 = 0) => ?_⟩
      · skip
        change ev_wp pg_F pg_lay none [] (ev_lu pg_c81) (fun _ => false) _ 1958 36 [some (.ref 1), some (.int a), some (.int b), some (.int (sp_add 0 (s4.1 5 (Int32.toNatClampNeg 0)))), some (.int 1)] [] s9
        exact ⟨_, rfl, by first | exact Or.inl rfl | exact Or.inr rfl, Nat.le_of_eq (congrArg Prod.snd r10.2.1), _, ⟨by first | exact Or.inl rfl | exact Or.inr rfl, r10⟩, rfl⟩
      · skip
        change ev_wp pg_F pg_lay none [] (ev_lu pg_c81) (fun _ => false) _ 1958 38 [some (.ref 1), some (.int a), some (.int b), some (.int (sp_add 0 (s4.1 5 (Int32.toNatClampNeg 0)))), some (.int 1)] [] s9
        refine ⟨sp_in rfl rfl, ?_⟩
        change ev_wp pg_F pg_lay none [] (ev_lu pg_c81) (fun _ => false) _ 1953 46 [some (.ref 1), some (.int a), some (.int b), some (.int (sp_add 0 (s4.1 5 (Int32.toNatClampNeg 0)))), some (.int 1)] [.int (s9.1 5 (Int32.toNatClampNeg 1)), .int (sp_add 0 (s4.1 5 (Int32.toNatClampNeg 0)))] s9
        refine ⟨trivial, ?_⟩
        rintro _ _ ⟨rfl, rfl⟩
        change ev_wp pg_F pg_lay none [] (ev_lu pg_c81) (fun _ => false) _ 1952 49 [some (.ref 1), some (.int a), some (.int b), some (.int (sp_add 0 (s4.1 5 (Int32.toNatClampNeg 0)))), some (.int 1)] [.int (sp_add (sp_add 0 (s4.1 5 (Int32.toNatClampNeg 0))) (s9.1 5 (Int32.toNatClampNeg 1)))] s9
        refine ⟨fun h => absurd h (by decide), fun _ => ?_⟩
        change ev_wp pg_F pg_lay none [] (ev_lu pg_c81) (fun _ => false) _ 1946 19 [some (.ref 1), some (.int a), some (.int b), some (.int (sp_add (sp_add 0 (s4.1 5 (Int32.toNatClampNeg 0))) (s9.1 5 (Int32.toNatClampNeg 1)))), some (.int 2)] [] s9
        refine ⟨sp_in rfl rfl, ?_⟩
        change ev_wp pg_F pg_lay none [] (ev_lu pg_c81) (fun _ => false) _ 1939 30 [some (.ref 1), some (.int a), some (.int b), some (.int (sp_add (sp_add 0 (s4.1 5 (Int32.toNatClampNeg 0))) (s9.1 5 (Int32.toNatClampNeg 1)))), some (.int 2)] [.int (s9.1 5 (Int32.toNatClampNeg 2)), .int 2, .int a, .ref 1] s9
        refine ⟨trivial, ?_⟩
        rintro _ s14 ⟨v12, k13, rfl⟩
        have r15 := r10.tr k13.2
        change ev_wp pg_F pg_lay none [] (ev_lu pg_c81) (fun _ => false) _ 1938 33 [some (.ref 1), some (.int a), some (.int b), some (.int (sp_add (sp_add 0 (s4.1 5 (Int32.toNatClampNeg 0))) (s9.1 5 (Int32.toNatClampNeg 1)))), some (.int 2)] [.int v12] s14
        refine ⟨fun (h16 : v12 = 0) => ?_, fun (h16 : ¬ v12 = 0) => ?_⟩
        · skip
          change ev_wp pg_F pg_lay none [] (ev_lu pg_c81) (fun _ => false) _ 1937 36 [some (.ref 1), some (.int a), some (.int b), some (.int (sp_add (sp_add 0 (s4.1 5 (Int32.toNatClampNeg 0))) (s9.1 5 (Int32.toNatClampNeg 1)))), some (.int 2)] [] s14
          exact ⟨_, rfl, by first | exact Or.inl rfl | exact Or.inr rfl, Nat.le_of_eq (congrArg Prod.snd r15.2.1), _, ⟨by first | exact Or.inl rfl | exact Or.inr rfl, r15⟩, rfl⟩
        · skip
          change ev_wp pg_F pg_lay none [] (ev_lu pg_c81) (fun _ => false) _ 1937 38 [some (.ref 1), some (.int a), some (.int b), some (.int (sp_add (sp_add 0 (s4.1 5 (Int32.toNatClampNeg 0))) (s9.1 5 (Int32.toNatClampNeg 1)))), some (.int 2)] [] s14
          refine ⟨sp_in rfl rfl, ?_⟩
          change ev_wp pg_F pg_lay none [] (ev_lu pg_c81) (fun _ => false) _ 1932 46 [some (.ref 1), some (.int a), some (.int b), some (.int (sp_add (sp_add 0 (s4.1 5 (Int32.toNatClampNeg 0))) (s9.1 5 (Int32.toNatClampNeg 1)))), some (.int 2)] [.int (s14.1 5 (Int32.toNatClampNeg 2)), .int (sp_add (sp_add 0 (s4.1 5 (Int32.toNatClampNeg 0))) (s9.1 5 (Int32.toNatClampNeg 1)))] s14
          refine ⟨trivial, ?_⟩
          rintro _ _ ⟨rfl, rfl⟩
          change ev_wp pg_F pg_lay none [] (ev_lu pg_c81) (fun _ => false) _ 1931 49 [some (.ref 1), some (.int a), some (.int b), some (.int (sp_add (sp_add 0 (s4.1 5 (Int32.toNatClampNeg 0))) (s9.1 5 (Int32.toNatClampNeg 1)))), some (.int 2)] [.int (sp_add (sp_add (sp_add 0 (s4.1 5 (Int32.toNatClampNeg 0))) (s9.1 5 (Int32.toNatClampNeg 1))) (s14.1 5 (Int32.toNatClampNeg 2)))] s14
          refine ⟨fun h => absurd h (by decide), fun _ => ?_⟩
          change ev_wp pg_F pg_lay none [] (ev_lu pg_c81) (fun _ => false) _ 1925 19 [some (.ref 1), some (.int a), some (.int b), some (.int (sp_add (sp_add (sp_add 0 (s4.1 5 (Int32.toNatClampNeg 0))) (s9.1 5 (Int32.toNatClampNeg 1))) (s14.1 5 (Int32.toNatClampNeg 2)))), some (.int 3)] [] s14
          refine ⟨sp_in rfl rfl, ?_⟩
          change ev_wp pg_F pg_lay none [] (ev_lu pg_c81) (fun _ => false) _ 1918 30 [some (.ref 1), some (.int a), some (.int b), some (.int (sp_add (sp_add (sp_add 0 (s4.1 5 (Int32.toNatClampNeg 0))) (s9.1 5 (Int32.toNatClampNeg 1))) (s14.1 5 (Int32.toNatClampNeg 2)))), some (.int 3)] [.int (s14.1 5 (Int32.toNatClampNeg 3)), .int 3, .int a, .ref 1] s14
          refine ⟨trivial, ?_⟩
          rintro _ s19 ⟨v17, k18, rfl⟩
          have r20 := r15.tr k18.2
          change ev_wp pg_F pg_lay none [] (ev_lu pg_c81) (fun _ => false) _ 1917 33 [some (.ref 1), some (.int a), some (.int b), some (.int (sp_add (sp_add (sp_add 0 (s4.1 5 (Int32.toNatClampNeg 0))) (s9.1 5 (Int32.toNatClampNeg 1))) (s14.1 5 (Int32.toNatClampNeg 2)))), some (.int 3)] [.int v17] s19
          refine ⟨fun (h21 : v17 = 0) => ?_, fun (h21 : ¬ v17 = 0) => ?_⟩
          · skip
            change ev_wp pg_F pg_lay none [] (ev_lu pg_c81) (fun _ => false) _ 1916 36 [some (.ref 1), some (.int a), some (.int b), some (.int (sp_add (sp_add (sp_add 0 (s4.1 5 (Int32.toNatClampNeg 0))) (s9.1 5 (Int32.toNatClampNeg 1))) (s14.1 5 (Int32.toNatClampNeg 2)))), some (.int 3)] [] s19
            exact ⟨_, rfl, by first | exact Or.inl rfl | exact Or.inr rfl, Nat.le_of_eq (congrArg Prod.snd r20.2.1), _, ⟨by first | exact Or.inl rfl | exact Or.inr rfl, r20⟩, rfl⟩
          · skip
            change ev_wp pg_F pg_lay none [] (ev_lu pg_c81) (fun _ => false) _ 1916 38 [some (.ref 1), some (.int a), some (.int b), some (.int (sp_add (sp_add (sp_add 0 (s4.1 5 (Int32.toNatClampNeg 0))) (s9.1 5 (Int32.toNatClampNeg 1))) (s14.1 5 (Int32.toNatClampNeg 2)))), some (.int 3)] [] s19
            refine ⟨sp_in rfl rfl, ?_⟩
            change ev_wp pg_F pg_lay none [] (ev_lu pg_c81) (fun _ => false) _ 1911 46 [some (.ref 1), some (.int a), some (.int b), some (.int (sp_add (sp_add (sp_add 0 (s4.1 5 (Int32.toNatClampNeg 0))) (s9.1 5 (Int32.toNatClampNeg 1))) (s14.1 5 (Int32.toNatClampNeg 2)))), some (.int 3)] [.int (s19.1 5 (Int32.toNatClampNeg 3)), .int (sp_add (sp_add (sp_add 0 (s4.1 5 (Int32.toNatClampNeg 0))) (s9.1 5 (Int32.toNatClampNeg 1))) (s14.1 5 (Int32.toNatClampNeg 2)))] s19
            refine ⟨trivial, ?_⟩
            rintro _ _ ⟨rfl, rfl⟩
            change ev_wp pg_F pg_lay none [] (ev_lu pg_c81) (fun _ => false) _ 1910 49 [some (.ref 1), some (.int a), some (.int b), some (.int (sp_add (sp_add (sp_add 0 (s4.1 5 (Int32.toNatClampNeg 0))) (s9.1 5 (Int32.toNatClampNeg 1))) (s14.1 5 (Int32.toNatClampNeg 2)))), some (.int 3)] [.int (sp_add (sp_add (sp_add (sp_add 0 (s4.1 5 (Int32.toNatClampNeg 0))) (s9.1 5 (Int32.toNatClampNeg 1))) (s14.1 5 (Int32.toNatClampNeg 2))) (s19.1 5 (Int32.toNatClampNeg 3)))] s19
            refine ⟨fun h => absurd h (by decide), fun _ => ?_⟩
            change ev_wp pg_F pg_lay none [] (ev_lu pg_c81) (fun _ => false) _ 1904 19 [some (.ref 1), some (.int a), some (.int b), some (.int (sp_add (sp_add (sp_add (sp_add 0 (s4.1 5 (Int32.toNatClampNeg 0))) (s9.1 5 (Int32.toNatClampNeg 1))) (s14.1 5 (Int32.toNatClampNeg 2))) (s19.1 5 (Int32.toNatClampNeg 3)))), some (.int 4)] [] s19
            refine ⟨sp_in rfl rfl, ?_⟩
            change ev_wp pg_F pg_lay none [] (ev_lu pg_c81) (fun _ => false) _ 1897 30 [some (.ref 1), some (.int a), some (.int b), some (.int (sp_add (sp_add (sp_add (sp_add 0 (s4.1 5 (Int32.toNatClampNeg 0))) (s9.1 5 (Int32.toNatClampNeg 1))) (s14.1 5 (Int32.toNatClampNeg 2))) (s19.1 5 (Int32.toNatClampNeg 3)))), some (.int 4)] [.int (s19.1 5 (Int32.toNatClampNeg 4)), .int 4, .int a, .ref 1] s19
            refine ⟨trivial, ?_⟩
            rintro _ s24 ⟨v22, k23, rfl⟩
            have r25 := r20.tr k23.2
            change ev_wp pg_F pg_lay none [] (ev_lu pg_c81) (fun _ => false) _ 1896 33 [some (.ref 1), some (.int a), some (.int b), some (.int (sp_add (sp_add (sp_add (sp_add 0 (s4.1 5 (Int32.toNatClampNeg 0))) (s9.1 5 (Int32.toNatClampNeg 1))) (s14.1 5 (Int32.toNatClampNeg 2))) (s19.1 5 (Int32.toNatClampNeg 3)))), some (.int 4)] [.int v22] s24
            refine ⟨fun (h26 : v22 = 0) => ?_, fun (h26 : ¬ v22 = 0) => ?_⟩
            · skip
              change ev_wp pg_F pg_lay none [] (ev_lu pg_c81) (fun _ => false) _ 1895 36 [some (.ref 1), some (.int a), some (.int b), some (.int (sp_add (sp_add (sp_add (sp_add 0 (s4.1 5 (Int32.toNatClampNeg 0))) (s9.1 5 (Int32.toNatClampNeg 1))) (s14.1 5 (Int32.toNatClampNeg 2))) (s19.1 5 (Int32.toNatClampNeg 3)))), some (.int 4)] [] s24
              exact ⟨_, rfl, by first | exact Or.inl rfl | exact Or.inr rfl, Nat.le_of_eq (congrArg Prod.snd r25.2.1), _, ⟨by first | exact Or.inl rfl | exact Or.inr rfl, r25⟩, rfl⟩
            · skip
              change ev_wp pg_F pg_lay none [] (ev_lu pg_c81) (fun _ => false) _ 1895 38 [some (.ref 1), some (.int a), some (.int b), some (.int (sp_add (sp_add (sp_add (sp_add 0 (s4.1 5 (Int32.toNatClampNeg 0))) (s9.1 5 (Int32.toNatClampNeg 1))) (s14.1 5 (Int32.toNatClampNeg 2))) (s19.1 5 (Int32.toNatClampNeg 3)))), some (.int 4)] [] s24
              refine ⟨sp_in rfl rfl, ?_⟩
              change ev_wp pg_F pg_lay none [] (ev_lu pg_c81) (fun _ => false) _ 1890 46 [some (.ref 1), some (.int a), some (.int b), some (.int (sp_add (sp_add (sp_add (sp_add 0 (s4.1 5 (Int32.toNatClampNeg 0))) (s9.1 5 (Int32.toNatClampNeg 1))) (s14.1 5 (Int32.toNatClampNeg 2))) (s19.1 5 (Int32.toNatClampNeg 3)))), some (.int 4)] [.int (s24.1 5 (Int32.toNatClampNeg 4)), .int (sp_add (sp_add (sp_add (sp_add 0 (s4.1 5 (Int32.toNatClampNeg 0))) (s9.1 5 (Int32.toNatClampNeg 1))) (s14.1 5 (Int32.toNatClampNeg 2))) (s19.1 5 (Int32.toNatClampNeg 3)))] s24
              refine ⟨trivial, ?_⟩
              rintro _ _ ⟨rfl, rfl⟩
              change ev_wp pg_F pg_lay none [] (ev_lu pg_c81) (fun _ => false) _ 1889 49 [some (.ref 1), some (.int a), some (.int b), some (.int (sp_add (sp_add (sp_add (sp_add 0 (s4.1 5 (Int32.toNatClampNeg 0))) (s9.1 5 (Int32.toNatClampNeg 1))) (s14.1 5 (Int32.toNatClampNeg 2))) (s19.1 5 (Int32.toNatClampNeg 3)))), some (.int 4)] [.int (sp_add (sp_add (sp_add (sp_add (sp_add 0 (s4.1 5 (Int32.toNatClampNeg 0))) (s9.1 5 (Int32.toNatClampNeg 1))) (s14.1 5 (Int32.toNatClampNeg 2))) (s19.1 5 (Int32.toNatClampNeg 3))) (s24.1 5 (Int32.toNatClampNeg 4)))] s24
              refine ⟨fun h => absurd h (by decide), fun _ => ?_⟩
              change ev_wp pg_F pg_lay none [] (ev_lu pg_c81) (fun _ => false) _ 1883 19 [some (.ref 1), some (.int a), some (.int b), some (.int (sp_add (sp_add (sp_add (sp_add (sp_add 0 (s4.1 5 (Int32.toNatClampNeg 0))) (s9.1 5 (Int32.toNatClampNeg 1))) (s14.1 5 (Int32.toNatClampNeg 2))) (s19.1 5 (Int32.toNatClampNeg 3))) (s24.1 5 (Int32.toNatClampNeg 4)))), some (.int 5)] [] s24
              refine ⟨sp_in rfl rfl, ?_⟩
              change ev_wp pg_F pg_lay none [] (ev_lu pg_c81) (fun _ => false) _ 1876 30 [some (.ref 1), some (.int a), some (.int b), some (.int (sp_add (sp_add (sp_add (sp_add (sp_add 0 (s4.1 5 (Int32.toNatClampNeg 0))) (s9.1 5 (Int32.toNatClampNeg 1))) (s14.1 5 (Int32.toNatClampNeg 2))) (s19.1 5 (Int32.toNatClampNeg 3))) (s24.1 5 (Int32.toNatClampNeg 4)))), some (.int 5)] [.int (s24.1 5 (Int32.toNatClampNeg 5)), .int 5, .int a, .ref 1] s24
              refine ⟨trivial, ?_⟩
              rintro _ s29 ⟨v27, k28, rfl⟩
              have r30 := r25.tr k28.2
              change ev_wp pg_F pg_lay none [] (ev_lu pg_c81) (fun _ => false) _ 1875 33 [some (.ref 1), some (.int a), some (.int b), some (.int (sp_add (sp_add (sp_add (sp_add (sp_add 0 (s4.1 5 (Int32.toNatClampNeg 0))) (s9.1 5 (Int32.toNatClampNeg 1))) (s14.1 5 (Int32.toNatClampNeg 2))) (s19.1 5 (Int32.toNatClampNeg 3))) (s24.1 5 (Int32.toNatClampNeg 4)))), some (.int 5)] [.int v27] s29
              refine ⟨fun (h31 : v27 = 0) => ?_, fun (h31 : ¬ v27 = 0) => ?_⟩
              · skip
                change ev_wp pg_F pg_lay none [] (ev_lu pg_c81) (fun _ => false) _ 1874 36 [some (.ref 1), some (.int a), some (.int b), some (.int (sp_add (sp_add (sp_add (sp_add (sp_add 0 (s4.1 5 (Int32.toNatClampNeg 0))) (s9.1 5 (Int32.toNatClampNeg 1))) (s14.1 5 (Int32.toNatClampNeg 2))) (s19.1 5 (Int32.toNatClampNeg 3))) (s24.1 5 (Int32.toNatClampNeg 4)))), some (.int 5)] [] s29
                exact ⟨_, rfl, by first | exact Or.inl rfl | exact Or.inr rfl, Nat.le_of_eq (congrArg Prod.snd r30.2.1), _, ⟨by first | exact Or.inl rfl | exact Or.inr rfl, r30⟩, rfl⟩
              · skip
                change ev_wp pg_F pg_lay none [] (ev_lu pg_c81) (fun _ => false) _ 1874 38 [some (.ref 1), some (.int a), some (.int b), some (.int (sp_add (sp_add (sp_add (sp_add (sp_add 0 (s4.1 5 (Int32.toNatClampNeg 0))) (s9.1 5 (Int32.toNatClampNeg 1))) (s14.1 5 (Int32.toNatClampNeg 2))) (s19.1 5 (Int32.toNatClampNeg 3))) (s24.1 5 (Int32.toNatClampNeg 4)))), some (.int 5)] [] s29
                refine ⟨sp_in rfl rfl, ?_⟩
                change ev_wp pg_F pg_lay none [] (ev_lu pg_c81) (fun _ => false) _ 1869 46 [some (.ref 1), some (.int a), some (.int b), some (.int (sp_add (sp_add (sp_add (sp_add (sp_add 0 (s4.1 5 (Int32.toNatClampNeg 0))) (s9.1 5 (Int32.toNatClampNeg 1))) (s14.1 5 (Int32.toNatClampNeg 2))) (s19.1 5 (Int32.toNatClampNeg 3))) (s24.1 5 (Int32.toNatClampNeg 4)))), some (.int 5)] [.int (s29.1 5 (Int32.toNatClampNeg 5)), .int (sp_add (sp_add (sp_add (sp_add (sp_add 0 (s4.1 5 (Int32.toNatClampNeg 0))) (s9.1 5 (Int32.toNatClampNeg 1))) (s14.1 5 (Int32.toNatClampNeg 2))) (s19.1 5 (Int32.toNatClampNeg 3))) (s24.1 5 (Int32.toNatClampNeg 4)))] s29
                refine ⟨trivial, ?_⟩
                rintro _ _ ⟨rfl, rfl⟩
                change ev_wp pg_F pg_lay none [] (ev_lu pg_c81) (fun _ => false) _ 1868 49 [some (.ref 1), some (.int a), some (.int b), some (.int (sp_add (sp_add (sp_add (sp_add (sp_add 0 (s4.1 5 (Int32.toNatClampNeg 0))) (s9.1 5 (Int32.toNatClampNeg 1))) (s14.1 5 (Int32.toNatClampNeg 2))) (s19.1 5 (Int32.toNatClampNeg 3))) (s24.1 5 (Int32.toNatClampNeg 4)))), some (.int 5)] [.int (sp_add (sp_add (sp_add (sp_add (sp_add (sp_add 0 (s4.1 5 (Int32.toNatClampNeg 0))) (s9.1 5 (Int32.toNatClampNeg 1))) (s14.1 5 (Int32.toNatClampNeg 2))) (s19.1 5 (Int32.toNatClampNeg 3))) (s24.1 5 (Int32.toNatClampNeg 4))) (s29.1 5 (Int32.toNatClampNeg 5)))] s29
                refine ⟨fun h => absurd h (by decide), fun _ => ?_⟩
                change ev_wp pg_F pg_lay none [] (ev_lu pg_c81) (fun _ => false) _ 1862 19 [some (.ref 1), some (.int a), some (.int b), some (.int (sp_add (sp_add (sp_add (sp_add (sp_add (sp_add 0 (s4.1 5 (Int32.toNatClampNeg 0))) (s9.1 5 (Int32.toNatClampNeg 1))) (s14.1 5 (Int32.toNatClampNeg 2))) (s19.1 5 (Int32.toNatClampNeg 3))) (s24.1 5 (Int32.toNatClampNeg 4))) (s29.1 5 (Int32.toNatClampNeg 5)))), some (.int 6)] [] s29
                refine ⟨sp_in rfl rfl, ?_⟩
                change ev_wp pg_F pg_lay none [] (ev_lu pg_c81) (fun _ => false) _ 1855 30 [some (.ref 1), some (.int a), some (.int b), some (.int (sp_add (sp_add (sp_add (sp_add (sp_add (sp_add 0 (s4.1 5 (Int32.toNatClampNeg 0))) (s9.1 5 (Int32.toNatClampNeg 1))) (s14.1 5 (Int32.toNatClampNeg 2))) (s19.1 5 (Int32.toNatClampNeg 3))) (s24.1 5 (Int32.toNatClampNeg 4))) (s29.1 5 (Int32.toNatClampNeg 5)))), some (.int 6)] [.int (s29.1 5 (Int32.toNatClampNeg 6)), .int 6, .int a, .ref 1] s29
                refine ⟨trivial, ?_⟩
                rintro _ s34 ⟨v32, k33, rfl⟩
                have r35 := r30.tr k33.2
                change ev_wp pg_F pg_lay none [] (ev_lu pg_c81) (fun _ => false) _ 1854 33 [some (.ref 1), some (.int a), some (.int b), some (.int (sp_add (sp_add (sp_add (sp_add (sp_add (sp_add 0 (s4.1 5 (Int32.toNatClampNeg 0))) (s9.1 5 (Int32.toNatClampNeg 1))) (s14.1 5 (Int32.toNatClampNeg 2))) (s19.1 5 (Int32.toNatClampNeg 3))) (s24.1 5 (Int32.toNatClampNeg 4))) (s29.1 5 (Int32.toNatClampNeg 5)))), some (.int 6)] [.int v32] s34
                refine ⟨fun (h36 : v32 = 0) => ?_, fun (h36 : ¬ v32 = 0) => ?_⟩
                · skip
                  change ev_wp pg_F pg_lay none [] (ev_lu pg_c81) (fun _ => false) _ 1853 36 [some (.ref 1), some (.int a), some (.int b), some (.int (sp_add (sp_add (sp_add (sp_add (sp_add (sp_add 0 (s4.1 5 (Int32.toNatClampNeg 0))) (s9.1 5 (Int32.toNatClampNeg 1))) (s14.1 5 (Int32.toNatClampNeg 2))) (s19.1 5 (Int32.toNatClampNeg 3))) (s24.1 5 (Int32.toNatClampNeg 4))) (s29.1 5 (Int32.toNatClampNeg 5)))), some (.int 6)] [] s34
                  exact ⟨_, rfl, by first | exact Or.inl rfl | exact Or.inr rfl, Nat.le_of_eq (congrArg Prod.snd r35.2.1), _, ⟨by first | exact Or.inl rfl | exact Or.inr rfl, r35⟩, rfl⟩
                · skip
                  change ev_wp pg_F pg_lay none [] (ev_lu pg_c81) (fun _ => false) _ 1853 38 [some (.ref 1), some (.int a), some (.int b), some (.int (sp_add (sp_add (sp_add (sp_add (sp_add (sp_add 0 (s4.1 5 (Int32.toNatClampNeg 0))) (s9.1 5 (Int32.toNatClampNeg 1))) (s14.1 5 (Int32.toNatClampNeg 2))) (s19.1 5 (Int32.toNatClampNeg 3))) (s24.1 5 (Int32.toNatClampNeg 4))) (s29.1 5 (Int32.toNatClampNeg 5)))), some (.int 6)] [] s34
                  refine ⟨sp_in rfl rfl, ?_⟩
                  change ev_wp pg_F pg_lay none [] (ev_lu pg_c81) (fun _ => false) _ 1848 46 [some (.ref 1), some (.int a), some (.int b), some (.int (sp_add (sp_add (sp_add (sp_add (sp_add (sp_add 0 (s4.1 5 (Int32.toNatClampNeg 0))) (s9.1 5 (Int32.toNatClampNeg 1))) (s14.1 5 (Int32.toNatClampNeg 2))) (s19.1 5 (Int32.toNatClampNeg 3))) (s24.1 5 (Int32.toNatClampNeg 4))) (s29.1 5 (Int32.toNatClampNeg 5)))), some (.int 6)] [.int (s34.1 5 (Int32.toNatClampNeg 6)), .int (sp_add (sp_add (sp_add (sp_add (sp_add (sp_add 0 (s4.1 5 (Int32.toNatClampNeg 0))) (s9.1 5 (Int32.toNatClampNeg 1))) (s14.1 5 (Int32.toNatClampNeg 2))) (s19.1 5 (Int32.toNatClampNeg 3))) (s24.1 5 (Int32.toNatClampNeg 4))) (s29.1 5 (Int32.toNatClampNeg 5)))] s34
                  refine ⟨trivial, ?_⟩
                  rintro _ _ ⟨rfl, rfl⟩
                  change ev_wp pg_F pg_lay none [] (ev_lu pg_c81) (fun _ => false) _ 1847 49 [some (.ref 1), some (.int a), some (.int b), some (.int (sp_add (sp_add (sp_add (sp_add (sp_add (sp_add 0 (s4.1 5 (Int32.toNatClampNeg 0))) (s9.1 5 (Int32.toNatClampNeg 1))) (s14.1 5 (Int32.toNatClampNeg 2))) (s19.1 5 (Int32.toNatClampNeg 3))) (s24.1 5 (Int32.toNatClampNeg 4))) (s29.1 5 (Int32.toNatClampNeg 5)))), some (.int 6)] [.int (sp_add (sp_add (sp_add (sp_add (sp_add (sp_add (sp_add 0 (s4.1 5 (Int32.toNatClampNeg 0))) (s9.1 5 (Int32.toNatClampNeg 1))) (s14.1 5 (Int32.toNatClampNeg 2))) (s19.1 5 (Int32.toNatClampNeg 3))) (s24.1 5 (Int32.toNatClampNeg 4))) (s29.1 5 (Int32.toNatClampNeg 5))) (s34.1 5 (Int32.toNatClampNeg 6)))] s34
                  refine ⟨fun _ => ?_, fun h => absurd (by decide) h⟩
                  change ev_wp pg_F pg_lay none [] (ev_lu pg_c81) (fun _ => false) _ 1841 56 [some (.ref 1), some (.int a), some (.int b), some (.int (sp_add (sp_add (sp_add (sp_add (sp_add (sp_add (sp_add 0 (s4.1 5 (Int32.toNatClampNeg 0))) (s9.1 5 (Int32.toNatClampNeg 1))) (s14.1 5 (Int32.toNatClampNeg 2))) (s19.1 5 (Int32.toNatClampNeg 3))) (s24.1 5 (Int32.toNatClampNeg 4))) (s29.1 5 (Int32.toNatClampNeg 5))) (s34.1 5 (Int32.toNatClampNeg 6)))), some (.int 7)] [] s34
                  refine ⟨trivial, ?_⟩
                  rintro _ s39 ⟨v37, k38, rfl⟩
                  have r40 := r35.tr k38.2
                  exact ⟨_, rfl, k38.1, Nat.le_of_eq (congrArg Prod.snd r40.2.1), _, ⟨k38.1, r40⟩, rfl⟩
  · cases h
theorem pr_80 : pg_Rn pg_F 80 pg_y80 [] pg_t80 := by
  intro vs σ P h hp
  replace h : pf_80 vs σ = some P := h
  unfold pf_80 at h
  split at h
  · rename_i a
    cases h
    refine ⟨by simp [Value.category], Nat.le_of_ble_eq_true rfl, ev_go pg_hhs pg_cd pg_o80 (fun _ => false) 2000 (Q1 := ev_at (ev_tl pg_t80) σ.2.2 (sp_i True (fun v => sp_zero σ → v = -1) σ).2) ?_ (fun _ _ _ _ h => ev_fin h)⟩
    change ev_wp pg_F pg_lay none [] (ev_lu pg_c80) (fun _ => false) _ 2000 0 [some (.ref 1), some (.int a), none, none] [] σ
    refine ⟨trivial, ?_⟩
    rintro _ _ ⟨v1, k2, rfl, rfl⟩
    change ev_wp pg_F pg_lay none [] (ev_lu pg_c80) (fun _ => false) _ 1997 5 [some (.ref 1), some (.int a), none, none] [.int v1] σ
    refine ⟨trivial, ?_⟩
    rintro _ _ ⟨v3, k4, rfl, rfl⟩
    change ev_wp pg_F pg_lay none [] (ev_lu pg_c80) (fun _ => false) _ 1993 11 [some (.ref 1), some (.int a), some (.int v1), none] [.int v3] σ
    refine ⟨fun (h5 : v3 = 0) => ?_, fun (h5 : ¬ v3 = 0) => ?_⟩
    · skip
      change ev_wp pg_F pg_lay none [] (ev_lu pg_c80) (fun _ => false) _ 1992 14 [some (.ref 1), some (.int a), some (.int v1), none] [] σ
      refine ⟨trivial, ?_⟩
      rintro _ _ ⟨v6, k7, rfl, rfl⟩
      change ev_wp pg_F pg_lay none [] (ev_lu pg_c80) (fun _ => false) _ 1989 19 [some (.ref 1), some (.int a), some (.int v1), none] [.int v6] σ
      refine ⟨fun (h8 : v6 = 0) => ?_, fun (h8 : ¬ v6 = 0) => ?_⟩
      · skip
        change ev_wp pg_F pg_lay none [] (ev_lu pg_c80) (fun _ => false) _ 1988 26 [some (.ref 1), some (.int a), some (.int v1), none] [] σ
        exact ⟨_, rfl, Nat.le_refl _, _, fun hz => by first | rfl, rfl, rfl⟩
      · skip
        change ev_wp pg_F pg_lay none [] (ev_lu pg_c80) (fun _ => false) _ 1988 22 [some (.ref 1), some (.int a), some (.int v1), none] [] σ
        exact ⟨_, rfl, Nat.le_refl _, _, fun hz => by first | rfl | (exact absurd (k4.2 hz) h8) | (exact absurd (k7.2 hz) h8), rfl, rfl⟩
    · skip
      change ev_wp pg_F pg_lay none [] (ev_lu pg_c80) (fun _ => false) _ 1992 28 [some (.ref 1), some (.int a), some (.int v1), none] [] σ
      refine ⟨trivial, ?_⟩
      rintro _ _ ⟨v9, k10, rfl, rfl⟩
      change ev_wp pg_F pg_lay none [] (ev_lu pg_c80) (fun _ => false) _ 1989 33 [some (.ref 1), some (.int a), some (.int v1), none] [.int v9] σ
      refine ⟨fun (h11 : v9 = 0) => ?_, fun (h11 : ¬ v9 = 0) => ?_⟩
      · skip
        change ev_wp pg_F pg_lay none [] (ev_lu pg_c80) (fun _ => false) _ 1988 36 [some (.ref 1), some (.int a), some (.int v1), none] [] σ
        exact ⟨_, rfl, Nat.le_refl _, _, fun hz => by first | rfl | (exact absurd (k4.2 hz) h5) | (exact absurd (k10.2 hz) h5), rfl, rfl⟩
      · skip
        change ev_wp pg_F pg_lay none [] (ev_lu pg_c80) (fun _ => false) _ 1988 38 [some (.ref 1), some (.int a), some (.int v1), none] [] σ
        refine ⟨trivial, ?_⟩
        rintro _ _ ⟨rfl, rfl⟩
        change ev_wp pg_F pg_lay none [] (ev_lu pg_c80) (fun _ => false) _ 1984 44 [some (.ref 1), some (.int a), some (.int v1), none] [.int (sp_at σ v1 0)] σ
        refine ⟨trivial, ?_⟩
        rintro _ _ ⟨rfl, rfl⟩
        change ev_wp pg_F pg_lay none [] (ev_lu pg_c80) (fun _ => false) _ 1980 50 [some (.ref 1), some (.int a), some (.int v1), none] [.int (sp_at σ a 0), .int (sp_at σ v1 0)] σ
        refine ⟨fun (h12 : (((sp_at σ v1 0) - (sp_at σ a 0)) &&& 65535) < 1) => ?_, fun (h12 : ¬ (((sp_at σ v1 0) - (sp_at σ a 0)) &&& 65535) < 1) => ?_⟩
        · skip
          change ev_wp pg_F pg_lay none [] (ev_lu pg_c80) (fun _ => false) _ 1973 71 [some (.ref 1), some (.int a), some (.int v1), some (.int (((sp_at σ v1 0) - (sp_at σ a 0)) &&& 65535))] [] σ
          exact ⟨_, rfl, Nat.le_refl _, _, fun hz => by first | rfl | (exact absurd (k4.2 hz) h5) | (exact absurd (k4.2 hz) h11) | (exact absurd (k10.2 hz) h5) | (exact absurd (k10.2 hz) h11), rfl, rfl⟩
        · skip
          change ev_wp pg_F pg_lay none [] (ev_lu pg_c80) (fun _ => false) _ 1973 60 [some (.ref 1), some (.int a), some (.int v1), some (.int (((sp_at σ v1 0) - (sp_at σ a 0)) &&& 65535))] [] σ
          refine ⟨fun (h13 : 32767 < (((sp_at σ v1 0) - (sp_at σ a 0)) &&& 65535)) => ?_, fun (h13 : ¬ 32767 < (((sp_at σ v1 0) - (sp_at σ a 0)) &&& 65535)) => ?_⟩
          · skip
            change ev_wp pg_F pg_lay none [] (ev_lu pg_c80) (fun _ => false) _ 1970 71 [some (.ref 1), some (.int a), some (.int v1), some (.int (((sp_at σ v1 0) - (sp_at σ a 0)) &&& 65535))] [] σ
            exact ⟨_, rfl, Nat.le_refl _, _, fun hz => by first | rfl | (exact absurd (k4.2 hz) h5) | (exact absurd (k4.2 hz) h11) | (exact absurd (k4.2 hz) h12) | (exact absurd (k10.2 hz) h5) | (exact absurd (k10.2 hz) h11) | (exact absurd (k10.2 hz) h12), rfl, rfl⟩
          · skip
            change ev_wp pg_F pg_lay none [] (ev_lu pg_c80) (fun _ => false) _ 1970 67 [some (.ref 1), some (.int a), some (.int v1), some (.int (((sp_at σ v1 0) - (sp_at σ a 0)) &&& 65535))] [] σ
            exact ⟨_, rfl, Nat.le_refl _, _, fun hz => by first | rfl | (exact absurd (k4.2 hz) h5) | (exact absurd (k4.2 hz) h11) | (exact absurd (k4.2 hz) h12) | (exact absurd (k4.2 hz) h13) | (exact absurd (k10.2 hz) h5) | (exact absurd (k10.2 hz) h11) | (exact absurd (k10.2 hz) h12) | (exact absurd (k10.2 hz) h13), rfl, rfl⟩
  · cases h
theorem pr_96 : pg_Rn pg_F 96 pg_y96 [] pg_t96 := by
  intro vs σ P h hp
  replace h : pf_96 vs σ = some P := h
  unfold pf_96 at h
  split at h
  · rename_i a
    cases h
    refine ⟨by simp [Value.category], Nat.le_of_ble_eq_true rfl, ev_go pg_hhs pg_cd pg_o96 (fun _ => false) 2000 (Q1 := ev_at (ev_tl pg_t96) σ.2.2 (sp_m True (fun v σ' => sp_b v ∧ sp_w σ σ')).2) ?_ (fun _ _ _ _ h => ev_fin h)⟩
    change ev_wp pg_F pg_lay none [] (ev_lu pg_c96) (fun _ => false) _ 2000 0 [some (.ref 1), some (.int a), none] [] σ
    refine ⟨trivial, ?_⟩
    rintro _ _ ⟨v1, k2, rfl, rfl⟩
    change ev_wp pg_F pg_lay none [] (ev_lu pg_c96) (fun _ => false) _ 1997 5 [some (.ref 1), some (.int a), none] [.int v1] σ
    refine ⟨fun (h3 : v1 = (-1)) => ?_, fun (h3 : ¬ v1 = (-1)) => ?_⟩
    · skip
      change ev_wp pg_F pg_lay none [] (ev_lu pg_c96) (fun _ => false) _ 1993 11 [some (.ref 1), some (.int a), some (.int v1)] [] σ
      refine ⟨trivial, ?_⟩
      rintro _ s6 ⟨v4, k5, rfl⟩
      have r7 := (sp_w.rf σ).tr k5.2
      exact ⟨_, rfl, k5.1, Nat.le_of_eq (congrArg Prod.snd r7.2.1), _, ⟨k5.1, r7⟩, rfl⟩
    · skip
      change ev_wp pg_F pg_lay none [] (ev_lu pg_c96) (fun _ => false) _ 1993 18 [some (.ref 1), some (.int a), some (.int v1)] [] σ
      refine ⟨trivial, ?_⟩
      rintro _ _ ⟨v8, k9, rfl, rfl⟩
      change ev_wp pg_F pg_lay none [] (ev_lu pg_c96) (fun _ => false) _ 1989 24 [some (.ref 1), some (.int a), some (.int v1)] [.int v8, .ref 1] σ
      refine ⟨trivial, ?_⟩
      rintro _ _ ⟨rfl, rfl⟩
      change ev_wp pg_F pg_lay none [] (ev_lu pg_c96) (fun _ => false) _ 1985 30 [some (.ref 1), some (.int a), some (.int v1)] [.int (sp_at σ v1 0), .int v8, .ref 1] σ
      refine ⟨trivial, ?_⟩
      rintro _ s12 ⟨v10, k11, rfl⟩
      have r13 := (sp_w.rf σ).tr k11.2
      exact ⟨_, rfl, k11.1, Nat.le_of_eq (congrArg Prod.snd r13.2.1), _, ⟨k11.1, r13⟩, rfl⟩
  · cases h
theorem pr_45 : pg_Rn pg_F 45 pg_y45 [] pg_t45 := by
  intro vs σ P h hp
  replace h : pf_45 vs σ = some P := h
  unfold pf_45 at h
  split at h
  · rename_i a b c d
    cases h
    refine ⟨by simp [Value.category], Nat.le_of_ble_eq_true rfl, ev_go pg_hhs pg_cd pg_o45 (fun _ => false) 2000 (Q1 := ev_at (ev_tl pg_t45) σ.2.2 (sp_v (sp_inv σ) (fun σ' => sp_w σ σ')).2) ?_ (fun _ _ _ _ h => ev_fin h)⟩
    change ev_wp pg_F pg_lay none [] (ev_lu pg_c45) (fun _ => false) _ 2000 0 [some (.ref 0), some (.int a), some (.int b), some (.int c), some (.int d)] [] σ
    refine ⟨hp, ?_⟩
    rintro _ _ ⟨v1, k2, rfl, rfl⟩
    change ev_wp pg_F pg_lay none [] (ev_lu pg_c45) (fun _ => false) _ 1996 8 [some (.ref 0), some (.int a), some (.int b), some (.int c), some (.int d)] [.int v1, .ref 1] σ
    refine ⟨hp, ?_⟩
    rintro _ _ ⟨v3, k4, rfl, rfl⟩
    change ev_wp pg_F pg_lay none [] (ev_lu pg_c45) (fun _ => false) _ 1992 16 [some (.ref 0), some (.int a), some (.int b), some (.int c), some (.int d)] [.int v3, .int (v1 / 1440), .ref 1] σ
    refine ⟨trivial, ?_⟩
    rintro _ s6 ⟨k5, rfl⟩
    have r7 := (sp_w.rf σ).tr k5
    have i8 := k5.inv hp
    exact ⟨rfl, Nat.le_of_eq (congrArg Prod.snd r7.2.1), r7, rfl⟩
  · cases h
theorem pr_46 : pg_Rn pg_F 46 pg_y46 [] pg_t46 := by
  intro vs σ P h hp
  replace h : pf_46 vs σ = some P := h
  unfold pf_46 at h
  split at h
  · rename_i a b c
    cases h
    refine ⟨by simp [Value.category], Nat.le_of_ble_eq_true rfl, ev_go pg_hhs pg_cd pg_o46 (fun _ => false) 2000 (Q1 := ev_at (ev_tl pg_t46) σ.2.2 (sp_v True (fun σ' => sp_w σ σ')).2) ?_ (fun _ _ _ _ h => ev_fin h)⟩
    change ev_wp pg_F pg_lay none [] (ev_lu pg_c46) (fun _ => false) _ 2000 0 [some (.ref 0), some (.int a), some (.int b), some (.int c)] [] σ
    refine ⟨trivial, ?_⟩
    rintro _ s2 ⟨k1, rfl⟩
    have r3 := (sp_w.rf σ).tr k1
    exact ⟨rfl, Nat.le_of_eq (congrArg Prod.snd r3.2.1), r3, rfl⟩
  · cases h
theorem pr_70 : pg_Rn pg_F 70 pg_y70 [] pg_t70 := by
  intro vs σ P h hp
  replace h : pf_70 vs σ = some P := h
  unfold pf_70 at h
  split at h
  · rename_i a b c
    cases h
    refine ⟨by simp [Value.category], Nat.le_of_ble_eq_true rfl, ev_go pg_hhs pg_cd pg_o70 (fun _ => false) 2000 (Q1 := ev_at (ev_tl pg_t70) σ.2.2 (sp_i True sp_b σ).2) ?_ (fun _ _ _ _ h => ev_fin h)⟩
    change ev_wp pg_F pg_lay none [] (ev_lu pg_c70) (fun _ => false) _ 2000 0 [some (.ref 0), some (.int a), some (.int b), some (.int c)] [] σ
    refine ⟨fun (h1 : a = (-1)) => ?_, fun (h1 : ¬ a = (-1)) => ?_⟩
    · skip
      change ev_wp pg_F pg_lay none [] (ev_lu pg_c70) (fun _ => false) _ 1997 23 [some (.ref 0), some (.int a), some (.int b), some (.int c)] [] σ
      exact ⟨_, rfl, by first | exact Or.inl rfl | exact Or.inr rfl, Nat.le_refl _, _, by first | exact Or.inl rfl | exact Or.inr rfl, rfl, rfl⟩
    · skip
      change ev_wp pg_F pg_lay none [] (ev_lu pg_c70) (fun _ => false) _ 1997 5 [some (.ref 0), some (.int a), some (.int b), some (.int c)] [] σ
      refine ⟨trivial, ?_⟩
      rintro _ _ ⟨v2, k3, rfl, rfl⟩
      change ev_wp pg_F pg_lay none [] (ev_lu pg_c70) (fun _ => false) _ 1993 11 [some (.ref 0), some (.int a), some (.int b), some (.int c)] [.int v2, .int b] σ
      refine ⟨trivial, ?_⟩
      rintro _ _ ⟨rfl, rfl⟩
      change ev_wp pg_F pg_lay none [] (ev_lu pg_c70) (fun _ => false) _ 1990 16 [some (.ref 0), some (.int a), some (.int b), some (.int c)] [.int (sp_upto (b - v2) c)] σ
      refine ⟨fun (h4 : (sp_upto (b - v2) c) = 0) => ?_, fun (h4 : ¬ (sp_upto (b - v2) c) = 0) => ?_⟩
      · skip
        change ev_wp pg_F pg_lay none [] (ev_lu pg_c70) (fun _ => false) _ 1989 23 [some (.ref 0), some (.int a), some (.int b), some (.int c)] [] σ
        exact ⟨_, rfl, by first | exact Or.inl rfl | exact Or.inr rfl, Nat.le_refl _, _, by first | exact Or.inl rfl | exact Or.inr rfl, rfl, rfl⟩
      · skip
        change ev_wp pg_F pg_lay none [] (ev_lu pg_c70) (fun _ => false) _ 1989 19 [some (.ref 0), some (.int a), some (.int b), some (.int c)] [] σ
        exact ⟨_, rfl, by first | exact Or.inl rfl | exact Or.inr rfl, Nat.le_refl _, _, by first | exact Or.inl rfl | exact Or.inr rfl, rfl, rfl⟩
  · cases h
theorem pr_71 : pg_Rn pg_F 71 pg_y71 [] pg_t71 := by
  intro vs σ P h hp
  replace h : pf_71 vs σ = some P := h
  unfold pf_71 at h
  split at h
  · rename_i a b
    cases h
    refine ⟨by simp [Value.category], Nat.le_of_ble_eq_true rfl, ev_go pg_hhs pg_cd pg_o71 (fun _ => false) 2000 (Q1 := ev_at (ev_tl pg_t71) σ.2.2 (sp_i True (fun _ => True) σ).2) ?_ (fun _ _ _ _ h => ev_fin h)⟩
    change ev_wp pg_F pg_lay none [] (ev_lu pg_c71) (fun _ => false) _ 2000 0 [some (.ref 0), some (.int a), some (.int b)] [] σ
    refine ⟨trivial, ?_⟩
    rintro _ _ ⟨rfl, rfl⟩
    change ev_wp pg_F pg_lay none [] (ev_lu pg_c71) (fun _ => false) _ 1996 6 [some (.ref 0), some (.int a), some (.int b)] [.int (sp_at σ 0 1), .int 0] σ
    refine ⟨trivial, ?_⟩
    rintro _ _ ⟨v1, k2, rfl, rfl⟩
    change ev_wp pg_F pg_lay none [] (ev_lu pg_c71) (fun _ => false) _ 1992 12 [some (.ref 0), some (.int a), some (.int b)] [.int v1, .int (sp_at σ 0 1), .int 0] σ
    refine ⟨trivial, ?_⟩
    rintro _ _ ⟨rfl, rfl⟩
    exact ⟨_, rfl, Nat.le_refl _, _, trivial, rfl, rfl⟩
  · cases h
theorem pr_73 : pg_Rn pg_F 73 pg_y73 [] pg_t73 := by
  intro vs σ P h hp
  replace h : pf_73 vs σ = some P := h
  unfold pf_73 at h
  split at h
  · rename_i a
    cases h
    refine ⟨by simp [Value.category], Nat.le_of_ble_eq_true rfl, ev_go pg_hhs pg_cd pg_o73 (fun _ => false) 2000 (Q1 := ev_at (ev_tl pg_t73) σ.2.2 (sp_i True (fun _ => True) σ).2) ?_ (fun _ _ _ _ h => ev_fin h)⟩
    change ev_wp pg_F pg_lay none [] (ev_lu pg_c73) (fun _ => false) _ 2000 0 [some (.ref 0), some (.int a), none] [] σ
    refine ⟨trivial, ?_⟩
    rintro _ _ ⟨v1, k2, rfl, rfl⟩
    change ev_wp pg_F pg_lay none [] (ev_lu pg_c73) (fun _ => false) _ 1998 4 [some (.ref 0), some (.int a), none] [.int v1] σ
    refine ⟨trivial, ?_⟩
    rintro _ _ ⟨v3, k4, rfl, rfl⟩
    change ev_wp pg_F pg_lay none [] (ev_lu pg_c73) (fun _ => false) _ 1993 13 [some (.ref 0), some (.int a), some (.int v1)] [.int v3] σ
    refine ⟨fun (h5 : v3 = 0) => ?_, fun (h5 : ¬ v3 = 0) => ?_⟩
    · skip
      change ev_wp pg_F pg_lay none [] (ev_lu pg_c73) (fun _ => false) _ 1992 29 [some (.ref 0), some (.int a), some (.int v1)] [] σ
      exact ⟨_, rfl, Nat.le_refl _, _, trivial, rfl, rfl⟩
    · skip
      change ev_wp pg_F pg_lay none [] (ev_lu pg_c73) (fun _ => false) _ 1992 16 [some (.ref 0), some (.int a), some (.int v1)] [] σ
      refine ⟨trivial, ?_⟩
      rintro _ _ ⟨v6, k7, rfl, rfl⟩
      change ev_wp pg_F pg_lay none [] (ev_lu pg_c73) (fun _ => false) _ 1989 21 [some (.ref 0), some (.int a), some (.int v1)] [.int v6] σ
      refine ⟨fun (h8 : v6 = a) => ?_, fun (h8 : ¬ v6 = a) => ?_⟩
      · skip
        change ev_wp pg_F pg_lay none [] (ev_lu pg_c73) (fun _ => false) _ 1987 25 [some (.ref 0), some (.int a), some (.int v1)] [] σ
        exact ⟨_, rfl, Nat.le_refl _, _, trivial, rfl, rfl⟩
      · skip
        change ev_wp pg_F pg_lay none [] (ev_lu pg_c73) (fun _ => false) _ 1987 29 [some (.ref 0), some (.int a), some (.int v1)] [] σ
        exact ⟨_, rfl, Nat.le_refl _, _, trivial, rfl, rfl⟩
  · cases h
theorem pr_74 : pg_Rn pg_F 74 pg_y74 [] pg_t74 := by
  intro vs σ P h hp
  replace h : pf_74 vs σ = some P := h
  unfold pf_74 at h
  split at h
  · cases h
    refine ⟨by simp [Value.category], Nat.le_of_ble_eq_true rfl, ev_go pg_hhs pg_cd pg_o74 (fun _ => false) 2000 (Q1 := ev_at (ev_tl pg_t74) σ.2.2 (sp_i (sp_inv σ) (fun _ => True) σ).2) ?_ (fun _ _ _ _ h => ev_fin h)⟩
    change ev_wp pg_F pg_lay none [] (ev_lu pg_c74) (fun _ => false) _ 2000 0 [some (.ref 0)] [] σ
    refine ⟨hp.1, ?_⟩
    change ev_wp pg_F pg_lay none [] (ev_lu pg_c74) (fun _ => false) _ 1995 9 [some (.ref 0)] [.int (σ.1 3 (Int32.toNatClampNeg (σ.1 0 3)))] σ
    refine ⟨fun (h1 : (σ.1 3 (Int32.toNatClampNeg (σ.1 0 3))) = 0) => ?_, fun (h1 : ¬ (σ.1 3 (Int32.toNatClampNeg (σ.1 0 3))) = 0) => ?_⟩
    · skip
      change ev_wp pg_F pg_lay none [] (ev_lu pg_c74) (fun _ => false) _ 1994 14 [some (.ref 0)] [] σ
      refine ⟨trivial, ?_⟩
      rintro _ _ ⟨rfl, rfl⟩
      change ev_wp pg_F pg_lay none [] (ev_lu pg_c74) (fun _ => false) _ 1992 18 [some (.ref 0)] [.int (sp_at σ 0 0)] σ
      refine ⟨fun (h2 : (sp_at σ 0 0) = 0) => ?_, fun (h2 : ¬ (sp_at σ 0 0) = 0) => ?_⟩
      · skip
        change ev_wp pg_F pg_lay none [] (ev_lu pg_c74) (fun _ => false) _ 1991 21 [some (.ref 0)] [] σ
        exact ⟨_, rfl, Nat.le_refl _, _, trivial, rfl, rfl⟩
      · skip
        change ev_wp pg_F pg_lay none [] (ev_lu pg_c74) (fun _ => false) _ 1991 25 [some (.ref 0)] [] σ
        exact ⟨_, rfl, Nat.le_refl _, _, trivial, rfl, rfl⟩
    · skip
      change ev_wp pg_F pg_lay none [] (ev_lu pg_c74) (fun _ => false) _ 1994 12 [some (.ref 0)] [] σ
      exact ⟨_, rfl, Nat.le_refl _, _, trivial, rfl, rfl⟩
  · cases h
theorem pr_75 : pg_Rn pg_F 75 pg_y75 [] pg_t75 := by
  intro vs σ P h hp
  replace h : pf_75 vs σ = some P := h
  unfold pf_75 at h
  split at h
  · rename_i a b
    cases h
    refine ⟨by simp [Value.category], Nat.le_of_ble_eq_true rfl, ev_go pg_hhs pg_cd pg_o75 (fun _ => false) 2000 (Q1 := ev_at (ev_tl pg_t75) σ.2.2 (sp_i True (fun _ => True) σ).2) ?_ (fun _ _ _ _ h => ev_fin h)⟩
    change ev_wp pg_F pg_lay none [] (ev_lu pg_c75) (fun _ => false) _ 2000 0 [some (.ref 0), some (.int a), some (.int b)] [] σ
    refine ⟨trivial, ?_⟩
    rintro _ _ ⟨rfl, rfl⟩
    change ev_wp pg_F pg_lay none [] (ev_lu pg_c75) (fun _ => false) _ 1996 6 [some (.ref 0), some (.int a), some (.int b)] [.int (sp_at σ 0 2), .int a] σ
    refine ⟨fun (h1 : a < (sp_at σ 0 2)) => ?_, fun (h1 : ¬ a < (sp_at σ 0 2)) => ?_⟩
    · skip
      change ev_wp pg_F pg_lay none [] (ev_lu pg_c75) (fun _ => false) _ 1995 18 [some (.ref 0), some (.int a), some (.int b)] [] σ
      exact ⟨_, rfl, Nat.le_refl _, _, trivial, rfl, rfl⟩
    · skip
      change ev_wp pg_F pg_lay none [] (ev_lu pg_c75) (fun _ => false) _ 1995 9 [some (.ref 0), some (.int a), some (.int b)] [] σ
      refine ⟨trivial, ?_⟩
      rintro _ _ ⟨rfl, rfl⟩
      change ev_wp pg_F pg_lay none [] (ev_lu pg_c75) (fun _ => false) _ 1991 15 [some (.ref 0), some (.int a), some (.int b)] [.int (sp_at σ 0 3), .int a] σ
      refine ⟨fun (h2 : a ≤ (sp_at σ 0 3)) => ?_, fun (h2 : ¬ a ≤ (sp_at σ 0 3)) => ?_⟩
      · skip
        change ev_wp pg_F pg_lay none [] (ev_lu pg_c75) (fun _ => false) _ 1990 20 [some (.ref 0), some (.int a), some (.int b)] [] σ
        refine ⟨trivial, ?_⟩
        rintro _ _ ⟨rfl, rfl⟩
        change ev_wp pg_F pg_lay none [] (ev_lu pg_c75) (fun _ => false) _ 1987 25 [some (.ref 0), some (.int a), some (.int b)] [.int (sp_at σ 0 1)] σ
        refine ⟨fun (h3 : ((((sp_at σ 0 1) : Int32) >>> ((b : Int32) &&& 31)) &&& 1) = 0) => ?_, fun (h3 : ¬ ((((sp_at σ 0 1) : Int32) >>> ((b : Int32) &&& 31)) &&& 1) = 0) => ?_⟩
        · skip
          change ev_wp pg_F pg_lay none [] (ev_lu pg_c75) (fun _ => false) _ 1982 32 [some (.ref 0), some (.int a), some (.int b)] [] σ
          exact ⟨_, rfl, Nat.le_refl _, _, trivial, rfl, rfl⟩
        · skip
          change ev_wp pg_F pg_lay none [] (ev_lu pg_c75) (fun _ => false) _ 1982 36 [some (.ref 0), some (.int a), some (.int b)] [] σ
          exact ⟨_, rfl, Nat.le_refl _, _, trivial, rfl, rfl⟩
      · skip
        change ev_wp pg_F pg_lay none [] (ev_lu pg_c75) (fun _ => false) _ 1990 18 [some (.ref 0), some (.int a), some (.int b)] [] σ
        exact ⟨_, rfl, Nat.le_refl _, _, trivial, rfl, rfl⟩
  · cases h
theorem pr_77 : pg_Rn pg_F 77 pg_y77 [] pg_t77 := by
  intro vs σ P h hp
  replace h : pf_77 vs σ = some P := h
  unfold pf_77 at h
  split at h
  · rename_i a
    cases h
    refine ⟨by simp [Value.category], Nat.le_of_ble_eq_true rfl, ev_go pg_hhs pg_cd pg_o77 (fun _ => false) 2000 (Q1 := ev_at (ev_tl pg_t77) σ.2.2 (sp_i True (fun _ => True) σ).2) ?_ (fun _ _ _ _ h => ev_fin h)⟩
    change ev_wp pg_F pg_lay none [] (ev_lu pg_c77) (fun _ => false) _ 2000 0 [some (.ref 0), some (.int a)] [] σ
    refine ⟨trivial, ?_⟩
    rintro _ _ ⟨v1, k2, rfl, rfl⟩
    change ev_wp pg_F pg_lay none [] (ev_lu pg_c77) (fun _ => false) _ 1997 5 [some (.ref 0), some (.int a)] [.int v1] σ
    refine ⟨trivial, ?_⟩
    rintro _ _ ⟨rfl, rfl⟩
    change ev_wp pg_F pg_lay none [] (ev_lu pg_c77) (fun _ => false) _ 1992 14 [some (.ref 0), some (.int a)] [.int (sp_at σ a 5), .int v1] σ
    exact ⟨_, rfl, Nat.le_refl _, _, trivial, rfl, rfl⟩
  · cases h
theorem pr_76 : pg_Rn pg_F 76 pg_y76 [] pg_t76 := by
  intro vs σ P h hp
  replace h : pf_76 vs σ = some P := h
  unfold pf_76 at h
  split at h
  · cases h
    refine ⟨by simp [Value.category], Nat.le_of_ble_eq_true rfl, ev_go pg_hhs pg_cd pg_o76 (fun _ => false) 2000 (Q1 := ev_at (ev_tl pg_t76) σ.2.2 (sp_i True (fun v => sp_at σ 0 0 ≠ 1 → v = -1) σ).2) ?_ (fun _ _ _ _ h => ev_fin h)⟩
    change ev_wp pg_F pg_lay none [] (ev_lu pg_c76) (fun _ => false) _ 2000 0 [some (.ref 0)] [] σ
    refine ⟨trivial, ?_⟩
    rintro _ _ ⟨rfl, rfl⟩
    change ev_wp pg_F pg_lay none [] (ev_lu pg_c76) (fun _ => false) _ 1998 4 [some (.ref 0)] [.int (sp_at σ 0 0)] σ
    refine ⟨fun (h1 : (sp_at σ 0 0) = 1) => ?_, fun (h1 : ¬ (sp_at σ 0 0) = 1) => ?_⟩
    · skip
      change ev_wp pg_F pg_lay none [] (ev_lu pg_c76) (fun _ => false) _ 1996 10 [some (.ref 0)] [] σ
      refine ⟨trivial, ?_⟩
      rintro _ _ ⟨rfl, rfl⟩
      change ev_wp pg_F pg_lay none [] (ev_lu pg_c76) (fun _ => false) _ 1992 16 [some (.ref 0)] [.int (sp_at σ 0 1), .int 0] σ
      refine ⟨trivial, ?_⟩
      rintro _ _ ⟨v2, k3, rfl, rfl⟩
      change ev_wp pg_F pg_lay none [] (ev_lu pg_c76) (fun _ => false) _ 1990 20 [some (.ref 0)] [.int v2, .int (sp_at σ 0 1), .int 0] σ
      refine ⟨trivial, ?_⟩
      rintro _ _ ⟨rfl, rfl⟩
      exact ⟨_, rfl, Nat.le_refl _, _, fun hz => by first | rfl | exact absurd h1 hz, rfl, rfl⟩
    · skip
      change ev_wp pg_F pg_lay none [] (ev_lu pg_c76) (fun _ => false) _ 1996 8 [some (.ref 0)] [] σ
      exact ⟨_, rfl, Nat.le_refl _, _, fun hz => by first | rfl | exact absurd h1 hz, rfl, rfl⟩
  · cases h
theorem pr_78 : pg_Rn pg_F 78 pg_y78 [] pg_t78 := by
  intro vs σ P h hp
  replace h : pf_78 vs σ = some P := h
  unfold pf_78 at h
  split at h
  · cases h
    refine ⟨by simp [Value.category], Nat.le_of_ble_eq_true rfl, ev_go pg_hhs pg_cd pg_o78 (fun _ => false) 2000 (Q1 := ev_at (ev_tl pg_t78) σ.2.2 (sp_m True (fun v σ' => sp_b v ∧ sp_w σ σ')).2) ?_ (fun _ _ _ _ h => ev_fin h)⟩
    change ev_wp pg_F pg_lay none [] (ev_lu pg_c78) (fun _ => false) _ 2000 0 [some (.ref 0), none, none, none] [] σ
    refine ⟨fun h => absurd h (by decide), fun _ => ?_⟩
    change ev_wp pg_F pg_lay none [] (ev_lu pg_c78) (fun _ => false) _ 1995 8 [some (.ref 0), some (.int 0), none, none] [] σ
    refine ⟨trivial, ?_⟩
    rintro _ _ ⟨rfl, rfl⟩
    change ev_wp pg_F pg_lay none [] (ev_lu pg_c78) (fun _ => false) _ 1980 29 [some (.ref 0), some (.int 0), some (.int 0), some (.int 1)] [.int (sp_at σ 4 0)] σ
    refine ⟨fun (h1 : ((sp_at σ 4 0) &&& 1) = 0) => ?_, fun (h1 : ¬ ((sp_at σ 4 0) &&& 1) = 0) => ?_⟩
    · skip
      change ev_wp pg_F pg_lay none [] (ev_lu pg_c78) (fun _ => false) _ 1977 34 [some (.ref 0), some (.int 0), some (.int 0), some (.int 1)] [] σ
      refine ⟨trivial, ?_⟩
      rintro _ _ ⟨rfl, rfl⟩
      change ev_wp pg_F pg_lay none [] (ev_lu pg_c78) (fun _ => false) _ 1968 49 [some (.ref 0), some (.int 0), some (.int 0), some (.int 1)] [.int (sp_at σ 4 0), .int 0, .int 4, .ref 1] σ
      refine ⟨trivial, ?_⟩
      rintro _ s4 ⟨v2, k3, rfl⟩
      have r5 := (sp_w.rf σ).tr k3.2
      exact ⟨_, rfl, k3.1, Nat.le_of_eq (congrArg Prod.snd r5.2.1), _, ⟨k3.1, r5⟩, rfl⟩
    · skip
      change ev_wp pg_F pg_lay none [] (ev_lu pg_c78) (fun _ => false) _ 1977 55 [some (.ref 0), some (.int 0), some (.int 0), some (.int 1)] [] σ
      refine ⟨fun h => absurd h (by decide), fun _ => ?_⟩
      change ev_wp pg_F pg_lay none [] (ev_lu pg_c78) (fun _ => false) _ 1972 8 [some (.ref 0), some (.int 1), some (.int 0), some (.int 1)] [] σ
      refine ⟨trivial, ?_⟩
      rintro _ _ ⟨rfl, rfl⟩
      change ev_wp pg_F pg_lay none [] (ev_lu pg_c78) (fun _ => false) _ 1957 29 [some (.ref 0), some (.int 1), some (.int 0), some (.int 2)] [.int (sp_at σ 4 0)] σ
      refine ⟨fun (h6 : ((sp_at σ 4 0) &&& 2) = 0) => ?_, fun (h6 : ¬ ((sp_at σ 4 0) &&& 2) = 0) => ?_⟩
      · skip
        change ev_wp pg_F pg_lay none [] (ev_lu pg_c78) (fun _ => false) _ 1954 34 [some (.ref 0), some (.int 1), some (.int 0), some (.int 2)] [] σ
        refine ⟨trivial, ?_⟩
        rintro _ _ ⟨rfl, rfl⟩
        change ev_wp pg_F pg_lay none [] (ev_lu pg_c78) (fun _ => false) _ 1945 49 [some (.ref 0), some (.int 1), some (.int 0), some (.int 2)] [.int (sp_at σ 4 0), .int 0, .int 4, .ref 1] σ
        refine ⟨trivial, ?_⟩
        rintro _ s9 ⟨v7, k8, rfl⟩
        have r10 := (sp_w.rf σ).tr k8.2
        exact ⟨_, rfl, k8.1, Nat.le_of_eq (congrArg Prod.snd r10.2.1), _, ⟨k8.1, r10⟩, rfl⟩
      · skip
        change ev_wp pg_F pg_lay none [] (ev_lu pg_c78) (fun _ => false) _ 1954 55 [some (.ref 0), some (.int 1), some (.int 0), some (.int 2)] [] σ
        refine ⟨fun h => absurd h (by decide), fun _ => ?_⟩
        change ev_wp pg_F pg_lay none [] (ev_lu pg_c78) (fun _ => false) _ 1949 8 [some (.ref 0), some (.int 2), some (.int 0), some (.int 2)] [] σ
        refine ⟨trivial, ?_⟩
        rintro _ _ ⟨rfl, rfl⟩
        change ev_wp pg_F pg_lay none [] (ev_lu pg_c78) (fun _ => false) _ 1934 29 [some (.ref 0), some (.int 2), some (.int 0), some (.int 4)] [.int (sp_at σ 4 0)] σ
        refine ⟨fun (h11 : ((sp_at σ 4 0) &&& 4) = 0) => ?_, fun (h11 : ¬ ((sp_at σ 4 0) &&& 4) = 0) => ?_⟩
        · skip
          change ev_wp pg_F pg_lay none [] (ev_lu pg_c78) (fun _ => false) _ 1931 34 [some (.ref 0), some (.int 2), some (.int 0), some (.int 4)] [] σ
          refine ⟨trivial, ?_⟩
          rintro _ _ ⟨rfl, rfl⟩
          change ev_wp pg_F pg_lay none [] (ev_lu pg_c78) (fun _ => false) _ 1922 49 [some (.ref 0), some (.int 2), some (.int 0), some (.int 4)] [.int (sp_at σ 4 0), .int 0, .int 4, .ref 1] σ
          refine ⟨trivial, ?_⟩
          rintro _ s14 ⟨v12, k13, rfl⟩
          have r15 := (sp_w.rf σ).tr k13.2
          exact ⟨_, rfl, k13.1, Nat.le_of_eq (congrArg Prod.snd r15.2.1), _, ⟨k13.1, r15⟩, rfl⟩
        · skip
          change ev_wp pg_F pg_lay none [] (ev_lu pg_c78) (fun _ => false) _ 1931 55 [some (.ref 0), some (.int 2), some (.int 0), some (.int 4)] [] σ
          refine ⟨fun h => absurd h (by decide), fun _ => ?_⟩
          change ev_wp pg_F pg_lay none [] (ev_lu pg_c78) (fun _ => false) _ 1926 8 [some (.ref 0), some (.int 3), some (.int 0), some (.int 4)] [] σ
          refine ⟨trivial, ?_⟩
          rintro _ _ ⟨rfl, rfl⟩
          change ev_wp pg_F pg_lay none [] (ev_lu pg_c78) (fun _ => false) _ 1911 29 [some (.ref 0), some (.int 3), some (.int 0), some (.int 8)] [.int (sp_at σ 4 0)] σ
          refine ⟨fun (h16 : ((sp_at σ 4 0) &&& 8) = 0) => ?_, fun (h16 : ¬ ((sp_at σ 4 0) &&& 8) = 0) => ?_⟩
          · skip
            change ev_wp pg_F pg_lay none [] (ev_lu pg_c78) (fun _ => false) _ 1908 34 [some (.ref 0), some (.int 3), some (.int 0), some (.int 8)] [] σ
            refine ⟨trivial, ?_⟩
            rintro _ _ ⟨rfl, rfl⟩
            change ev_wp pg_F pg_lay none [] (ev_lu pg_c78) (fun _ => false) _ 1899 49 [some (.ref 0), some (.int 3), some (.int 0), some (.int 8)] [.int (sp_at σ 4 0), .int 0, .int 4, .ref 1] σ
            refine ⟨trivial, ?_⟩
            rintro _ s19 ⟨v17, k18, rfl⟩
            have r20 := (sp_w.rf σ).tr k18.2
            exact ⟨_, rfl, k18.1, Nat.le_of_eq (congrArg Prod.snd r20.2.1), _, ⟨k18.1, r20⟩, rfl⟩
          · skip
            change ev_wp pg_F pg_lay none [] (ev_lu pg_c78) (fun _ => false) _ 1908 55 [some (.ref 0), some (.int 3), some (.int 0), some (.int 8)] [] σ
            refine ⟨fun h => absurd h (by decide), fun _ => ?_⟩
            change ev_wp pg_F pg_lay none [] (ev_lu pg_c78) (fun _ => false) _ 1903 8 [some (.ref 0), some (.int 4), some (.int 0), some (.int 8)] [] σ
            refine ⟨trivial, ?_⟩
            rintro _ _ ⟨rfl, rfl⟩
            change ev_wp pg_F pg_lay none [] (ev_lu pg_c78) (fun _ => false) _ 1888 29 [some (.ref 0), some (.int 4), some (.int 0), some (.int 16)] [.int (sp_at σ 4 0)] σ
            refine ⟨fun (h21 : ((sp_at σ 4 0) &&& 16) = 0) => ?_, fun (h21 : ¬ ((sp_at σ 4 0) &&& 16) = 0) => ?_⟩
            · skip
              change ev_wp pg_F pg_lay none [] (ev_lu pg_c78) (fun _ => false) _ 1885 34 [some (.ref 0), some (.int 4), some (.int 0), some (.int 16)] [] σ
              refine ⟨trivial, ?_⟩
              rintro _ _ ⟨rfl, rfl⟩
              change ev_wp pg_F pg_lay none [] (ev_lu pg_c78) (fun _ => false) _ 1876 49 [some (.ref 0), some (.int 4), some (.int 0), some (.int 16)] [.int (sp_at σ 4 0), .int 0, .int 4, .ref 1] σ
              refine ⟨trivial, ?_⟩
              rintro _ s24 ⟨v22, k23, rfl⟩
              have r25 := (sp_w.rf σ).tr k23.2
              exact ⟨_, rfl, k23.1, Nat.le_of_eq (congrArg Prod.snd r25.2.1), _, ⟨k23.1, r25⟩, rfl⟩
            · skip
              change ev_wp pg_F pg_lay none [] (ev_lu pg_c78) (fun _ => false) _ 1885 55 [some (.ref 0), some (.int 4), some (.int 0), some (.int 16)] [] σ
              refine ⟨fun h => absurd h (by decide), fun _ => ?_⟩
              change ev_wp pg_F pg_lay none [] (ev_lu pg_c78) (fun _ => false) _ 1880 8 [some (.ref 0), some (.int 5), some (.int 0), some (.int 16)] [] σ
              refine ⟨trivial, ?_⟩
              rintro _ _ ⟨rfl, rfl⟩
              change ev_wp pg_F pg_lay none [] (ev_lu pg_c78) (fun _ => false) _ 1865 29 [some (.ref 0), some (.int 5), some (.int 0), some (.int 32)] [.int (sp_at σ 4 0)] σ
              refine ⟨fun (h26 : ((sp_at σ 4 0) &&& 32) = 0) => ?_, fun (h26 : ¬ ((sp_at σ 4 0) &&& 32) = 0) => ?_⟩
              · skip
                change ev_wp pg_F pg_lay none [] (ev_lu pg_c78) (fun _ => false) _ 1862 34 [some (.ref 0), some (.int 5), some (.int 0), some (.int 32)] [] σ
                refine ⟨trivial, ?_⟩
                rintro _ _ ⟨rfl, rfl⟩
                change ev_wp pg_F pg_lay none [] (ev_lu pg_c78) (fun _ => false) _ 1853 49 [some (.ref 0), some (.int 5), some (.int 0), some (.int 32)] [.int (sp_at σ 4 0), .int 0, .int 4, .ref 1] σ
                refine ⟨trivial, ?_⟩
                rintro _ s29 ⟨v27, k28, rfl⟩
                have r30 := (sp_w.rf σ).tr k28.2
                exact ⟨_, rfl, k28.1, Nat.le_of_eq (congrArg Prod.snd r30.2.1), _, ⟨k28.1, r30⟩, rfl⟩
              · skip
                change ev_wp pg_F pg_lay none [] (ev_lu pg_c78) (fun _ => false) _ 1862 55 [some (.ref 0), some (.int 5), some (.int 0), some (.int 32)] [] σ
                refine ⟨fun h => absurd h (by decide), fun _ => ?_⟩
                change ev_wp pg_F pg_lay none [] (ev_lu pg_c78) (fun _ => false) _ 1857 8 [some (.ref 0), some (.int 6), some (.int 0), some (.int 32)] [] σ
                refine ⟨trivial, ?_⟩
                rintro _ _ ⟨rfl, rfl⟩
                change ev_wp pg_F pg_lay none [] (ev_lu pg_c78) (fun _ => false) _ 1842 29 [some (.ref 0), some (.int 6), some (.int 0), some (.int 64)] [.int (sp_at σ 4 0)] σ
                refine ⟨fun (h31 : ((sp_at σ 4 0) &&& 64) = 0) => ?_, fun (h31 : ¬ ((sp_at σ 4 0) &&& 64) = 0) => ?_⟩
                · skip
                  change ev_wp pg_F pg_lay none [] (ev_lu pg_c78) (fun _ => false) _ 1839 34 [some (.ref 0), some (.int 6), some (.int 0), some (.int 64)] [] σ
                  refine ⟨trivial, ?_⟩
                  rintro _ _ ⟨rfl, rfl⟩
                  change ev_wp pg_F pg_lay none [] (ev_lu pg_c78) (fun _ => false) _ 1830 49 [some (.ref 0), some (.int 6), some (.int 0), some (.int 64)] [.int (sp_at σ 4 0), .int 0, .int 4, .ref 1] σ
                  refine ⟨trivial, ?_⟩
                  rintro _ s34 ⟨v32, k33, rfl⟩
                  have r35 := (sp_w.rf σ).tr k33.2
                  exact ⟨_, rfl, k33.1, Nat.le_of_eq (congrArg Prod.snd r35.2.1), _, ⟨k33.1, r35⟩, rfl⟩
                · skip
                  change ev_wp pg_F pg_lay none [] (ev_lu pg_c78) (fun _ => false) _ 1839 55 [some (.ref 0), some (.int 6), some (.int 0), some (.int 64)] [] σ
                  refine ⟨fun h => absurd h (by decide), fun _ => ?_⟩
                  change ev_wp pg_F pg_lay none [] (ev_lu pg_c78) (fun _ => false) _ 1834 8 [some (.ref 0), some (.int 7), some (.int 0), some (.int 64)] [] σ
                  refine ⟨trivial, ?_⟩
                  rintro _ _ ⟨rfl, rfl⟩
                  change ev_wp pg_F pg_lay none [] (ev_lu pg_c78) (fun _ => false) _ 1819 29 [some (.ref 0), some (.int 7), some (.int 0), some (.int 128)] [.int (sp_at σ 4 0)] σ
                  refine ⟨fun (h36 : ((sp_at σ 4 0) &&& 128) = 0) => ?_, fun (h36 : ¬ ((sp_at σ 4 0) &&& 128) = 0) => ?_⟩
                  · skip
                    change ev_wp pg_F pg_lay none [] (ev_lu pg_c78) (fun _ => false) _ 1816 34 [some (.ref 0), some (.int 7), some (.int 0), some (.int 128)] [] σ
                    refine ⟨trivial, ?_⟩
                    rintro _ _ ⟨rfl, rfl⟩
                    change ev_wp pg_F pg_lay none [] (ev_lu pg_c78) (fun _ => false) _ 1807 49 [some (.ref 0), some (.int 7), some (.int 0), some (.int 128)] [.int (sp_at σ 4 0), .int 0, .int 4, .ref 1] σ
                    refine ⟨trivial, ?_⟩
                    rintro _ s39 ⟨v37, k38, rfl⟩
                    have r40 := (sp_w.rf σ).tr k38.2
                    exact ⟨_, rfl, k38.1, Nat.le_of_eq (congrArg Prod.snd r40.2.1), _, ⟨k38.1, r40⟩, rfl⟩
                  · skip
                    change ev_wp pg_F pg_lay none [] (ev_lu pg_c78) (fun _ => false) _ 1816 55 [some (.ref 0), some (.int 7), some (.int 0), some (.int 128)] [] σ
                    refine ⟨fun h => absurd h (by decide), fun _ => ?_⟩
                    change ev_wp pg_F pg_lay none [] (ev_lu pg_c78) (fun _ => false) _ 1811 8 [some (.ref 0), some (.int 8), some (.int 0), some (.int 128)] [] σ
                    refine ⟨trivial, ?_⟩
                    rintro _ _ ⟨rfl, rfl⟩
                    change ev_wp pg_F pg_lay none [] (ev_lu pg_c78) (fun _ => false) _ 1796 29 [some (.ref 0), some (.int 8), some (.int 0), some (.int 256)] [.int (sp_at σ 4 0)] σ
                    refine ⟨fun (h41 : ((sp_at σ 4 0) &&& 256) = 0) => ?_, fun (h41 : ¬ ((sp_at σ 4 0) &&& 256) = 0) => ?_⟩
                    · skip
                      change ev_wp pg_F pg_lay none [] (ev_lu pg_c78) (fun _ => false) _ 1793 34 [some (.ref 0), some (.int 8), some (.int 0), some (.int 256)] [] σ
                      refine ⟨trivial, ?_⟩
                      rintro _ _ ⟨rfl, rfl⟩
                      change ev_wp pg_F pg_lay none [] (ev_lu pg_c78) (fun _ => false) _ 1784 49 [some (.ref 0), some (.int 8), some (.int 0), some (.int 256)] [.int (sp_at σ 4 0), .int 0, .int 4, .ref 1] σ
                      refine ⟨trivial, ?_⟩
                      rintro _ s44 ⟨v42, k43, rfl⟩
                      have r45 := (sp_w.rf σ).tr k43.2
                      exact ⟨_, rfl, k43.1, Nat.le_of_eq (congrArg Prod.snd r45.2.1), _, ⟨k43.1, r45⟩, rfl⟩
                    · skip
                      change ev_wp pg_F pg_lay none [] (ev_lu pg_c78) (fun _ => false) _ 1793 55 [some (.ref 0), some (.int 8), some (.int 0), some (.int 256)] [] σ
                      refine ⟨fun h => absurd h (by decide), fun _ => ?_⟩
                      change ev_wp pg_F pg_lay none [] (ev_lu pg_c78) (fun _ => false) _ 1788 8 [some (.ref 0), some (.int 9), some (.int 0), some (.int 256)] [] σ
                      refine ⟨trivial, ?_⟩
                      rintro _ _ ⟨rfl, rfl⟩
                      change ev_wp pg_F pg_lay none [] (ev_lu pg_c78) (fun _ => false) _ 1773 29 [some (.ref 0), some (.int 9), some (.int 0), some (.int 512)] [.int (sp_at σ 4 0)] σ
                      refine ⟨fun (h46 : ((sp_at σ 4 0) &&& 512) = 0) => ?_, fun (h46 : ¬ ((sp_at σ 4 0) &&& 512) = 0) => ?_⟩
                      · skip
                        change ev_wp pg_F pg_lay none [] (ev_lu pg_c78) (fun _ => false) _ 1770 34 [some (.ref 0), some (.int 9), some (.int 0), some (.int 512)] [] σ
                        refine ⟨trivial, ?_⟩
                        rintro _ _ ⟨rfl, rfl⟩
                        change ev_wp pg_F pg_lay none [] (ev_lu pg_c78) (fun _ => false) _ 1761 49 [some (.ref 0), some (.int 9), some (.int 0), some (.int 512)] [.int (sp_at σ 4 0), .int 0, .int 4, .ref 1] σ
                        refine ⟨trivial, ?_⟩
                        rintro _ s49 ⟨v47, k48, rfl⟩
                        have r50 := (sp_w.rf σ).tr k48.2
                        exact ⟨_, rfl, k48.1, Nat.le_of_eq (congrArg Prod.snd r50.2.1), _, ⟨k48.1, r50⟩, rfl⟩
                      · skip
                        change ev_wp pg_F pg_lay none [] (ev_lu pg_c78) (fun _ => false) _ 1770 55 [some (.ref 0), some (.int 9), some (.int 0), some (.int 512)] [] σ
                        refine ⟨fun h => absurd h (by decide), fun _ => ?_⟩
                        change ev_wp pg_F pg_lay none [] (ev_lu pg_c78) (fun _ => false) _ 1765 8 [some (.ref 0), some (.int 10), some (.int 0), some (.int 512)] [] σ
                        refine ⟨trivial, ?_⟩
                        rintro _ _ ⟨rfl, rfl⟩
                        change ev_wp pg_F pg_lay none [] (ev_lu pg_c78) (fun _ => false) _ 1750 29 [some (.ref 0), some (.int 10), some (.int 0), some (.int 1024)] [.int (sp_at σ 4 0)] σ
                        refine ⟨fun (h51 : ((sp_at σ 4 0) &&& 1024) = 0) => ?_, fun (h51 : ¬ ((sp_at σ 4 0) &&& 1024) = 0) => ?_⟩
                        · skip
                          change ev_wp pg_F pg_lay none [] (ev_lu pg_c78) (fun _ => false) _ 1747 34 [some (.ref 0), some (.int 10), some (.int 0), some (.int 1024)] [] σ
                          refine ⟨trivial, ?_⟩
                          rintro _ _ ⟨rfl, rfl⟩
                          change ev_wp pg_F pg_lay none [] (ev_lu pg_c78) (fun _ => false) _ 1738 49 [some (.ref 0), some (.int 10), some (.int 0), some (.int 1024)] [.int (sp_at σ 4 0), .int 0, .int 4, .ref 1] σ
                          refine ⟨trivial, ?_⟩
                          rintro _ s54 ⟨v52, k53, rfl⟩
                          have r55 := (sp_w.rf σ).tr k53.2
                          exact ⟨_, rfl, k53.1, Nat.le_of_eq (congrArg Prod.snd r55.2.1), _, ⟨k53.1, r55⟩, rfl⟩
                        · skip
                          change ev_wp pg_F pg_lay none [] (ev_lu pg_c78) (fun _ => false) _ 1747 55 [some (.ref 0), some (.int 10), some (.int 0), some (.int 1024)] [] σ
                          refine ⟨fun h => absurd h (by decide), fun _ => ?_⟩
                          change ev_wp pg_F pg_lay none [] (ev_lu pg_c78) (fun _ => false) _ 1742 8 [some (.ref 0), some (.int 11), some (.int 0), some (.int 1024)] [] σ
                          refine ⟨trivial, ?_⟩
                          rintro _ _ ⟨rfl, rfl⟩
                          change ev_wp pg_F pg_lay none [] (ev_lu pg_c78) (fun _ => false) _ 1727 29 [some (.ref 0), some (.int 11), some (.int 0), some (.int 2048)] [.int (sp_at σ 4 0)] σ
                          refine ⟨fun (h56 : ((sp_at σ 4 0) &&& 2048) = 0) => ?_, fun (h56 : ¬ ((sp_at σ 4 0) &&& 2048) = 0) => ?_⟩
                          · skip
                            change ev_wp pg_F pg_lay none [] (ev_lu pg_c78) (fun _ => false) _ 1724 34 [some (.ref 0), some (.int 11), some (.int 0), some (.int 2048)] [] σ
                            refine ⟨trivial, ?_⟩
                            rintro _ _ ⟨rfl, rfl⟩
                            change ev_wp pg_F pg_lay none [] (ev_lu pg_c78) (fun _ => false) _ 1715 49 [some (.ref 0), some (.int 11), some (.int 0), some (.int 2048)] [.int (sp_at σ 4 0), .int 0, .int 4, .ref 1] σ
                            refine ⟨trivial, ?_⟩
                            rintro _ s59 ⟨v57, k58, rfl⟩
                            have r60 := (sp_w.rf σ).tr k58.2
                            exact ⟨_, rfl, k58.1, Nat.le_of_eq (congrArg Prod.snd r60.2.1), _, ⟨k58.1, r60⟩, rfl⟩
                          · skip
                            change ev_wp pg_F pg_lay none [] (ev_lu pg_c78) (fun _ => false) _ 1724 55 [some (.ref 0), some (.int 11), some (.int 0), some (.int 2048)] [] σ
                            refine ⟨fun h => absurd h (by decide), fun _ => ?_⟩
                            change ev_wp pg_F pg_lay none [] (ev_lu pg_c78) (fun _ => false) _ 1719 8 [some (.ref 0), some (.int 12), some (.int 0), some (.int 2048)] [] σ
                            refine ⟨trivial, ?_⟩
                            rintro _ _ ⟨rfl, rfl⟩
                            change ev_wp pg_F pg_lay none [] (ev_lu pg_c78) (fun _ => false) _ 1704 29 [some (.ref 0), some (.int 12), some (.int 0), some (.int 4096)] [.int (sp_at σ 4 0)] σ
                            refine ⟨fun (h61 : ((sp_at σ 4 0) &&& 4096) = 0) => ?_, fun (h61 : ¬ ((sp_at σ 4 0) &&& 4096) = 0) => ?_⟩
                            · skip
                              change ev_wp pg_F pg_lay none [] (ev_lu pg_c78) (fun _ => false) _ 1701 34 [some (.ref 0), some (.int 12), some (.int 0), some (.int 4096)] [] σ
                              refine ⟨trivial, ?_⟩
                              rintro _ _ ⟨rfl, rfl⟩
                              change ev_wp pg_F pg_lay none [] (ev_lu pg_c78) (fun _ => false) _ 1692 49 [some (.ref 0), some (.int 12), some (.int 0), some (.int 4096)] [.int (sp_at σ 4 0), .int 0, .int 4, .ref 1] σ
                              refine ⟨trivial, ?_⟩
                              rintro _ s64 ⟨v62, k63, rfl⟩
                              have r65 := (sp_w.rf σ).tr k63.2
                              exact ⟨_, rfl, k63.1, Nat.le_of_eq (congrArg Prod.snd r65.2.1), _, ⟨k63.1, r65⟩, rfl⟩
                            · skip
                              change ev_wp pg_F pg_lay none [] (ev_lu pg_c78) (fun _ => false) _ 1701 55 [some (.ref 0), some (.int 12), some (.int 0), some (.int 4096)] [] σ
                              refine ⟨fun h => absurd h (by decide), fun _ => ?_⟩
                              change ev_wp pg_F pg_lay none [] (ev_lu pg_c78) (fun _ => false) _ 1696 8 [some (.ref 0), some (.int 13), some (.int 0), some (.int 4096)] [] σ
                              refine ⟨trivial, ?_⟩
                              rintro _ _ ⟨rfl, rfl⟩
                              change ev_wp pg_F pg_lay none [] (ev_lu pg_c78) (fun _ => false) _ 1681 29 [some (.ref 0), some (.int 13), some (.int 0), some (.int 8192)] [.int (sp_at σ 4 0)] σ
                              refine ⟨fun (h66 : ((sp_at σ 4 0) &&& 8192) = 0) => ?_, fun (h66 : ¬ ((sp_at σ 4 0) &&& 8192) = 0) => ?_⟩
                              · skip
                                change ev_wp pg_F pg_lay none [] (ev_lu pg_c78) (fun _ => false) _ 1678 34 [some (.ref 0), some (.int 13), some (.int 0), some (.int 8192)] [] σ
                                refine ⟨trivial, ?_⟩
                                rintro _ _ ⟨rfl, rfl⟩
                                change ev_wp pg_F pg_lay none [] (ev_lu pg_c78) (fun _ => false) _ 1669 49 [some (.ref 0), some (.int 13), some (.int 0), some (.int 8192)] [.int (sp_at σ 4 0), .int 0, .int 4, .ref 1] σ
                                refine ⟨trivial, ?_⟩
                                rintro _ s69 ⟨v67, k68, rfl⟩
                                have r70 := (sp_w.rf σ).tr k68.2
                                exact ⟨_, rfl, k68.1, Nat.le_of_eq (congrArg Prod.snd r70.2.1), _, ⟨k68.1, r70⟩, rfl⟩
                              · skip
                                change ev_wp pg_F pg_lay none [] (ev_lu pg_c78) (fun _ => false) _ 1678 55 [some (.ref 0), some (.int 13), some (.int 0), some (.int 8192)] [] σ
                                refine ⟨fun h => absurd h (by decide), fun _ => ?_⟩
                                change ev_wp pg_F pg_lay none [] (ev_lu pg_c78) (fun _ => false) _ 1673 8 [some (.ref 0), some (.int 14), some (.int 0), some (.int 8192)] [] σ
                                refine ⟨trivial, ?_⟩
                                rintro _ _ ⟨rfl, rfl⟩
                                change ev_wp pg_F pg_lay none [] (ev_lu pg_c78) (fun _ => false) _ 1658 29 [some (.ref 0), some (.int 14), some (.int 0), some (.int 16384)] [.int (sp_at σ 4 0)] σ
                                refine ⟨fun (h71 : ((sp_at σ 4 0) &&& 16384) = 0) => ?_, fun (h71 : ¬ ((sp_at σ 4 0) &&& 16384) = 0) => ?_⟩
                                · skip
                                  change ev_wp pg_F pg_lay none [] (ev_lu pg_c78) (fun _ => false) _ 1655 34 [some (.ref 0), some (.int 14), some (.int 0), some (.int 16384)] [] σ
                                  refine ⟨trivial, ?_⟩
                                  rintro _ _ ⟨rfl, rfl⟩
                                  change ev_wp pg_F pg_lay none [] (ev_lu pg_c78) (fun _ => false) _ 1646 49 [some (.ref 0), some (.int 14), some (.int 0), some (.int 16384)] [.int (sp_at σ 4 0), .int 0, .int 4, .ref 1] σ
                                  refine ⟨trivial, ?_⟩
                                  rintro _ s74 ⟨v72, k73, rfl⟩
                                  have r75 := (sp_w.rf σ).tr k73.2
                                  exact ⟨_, rfl, k73.1, Nat.le_of_eq (congrArg Prod.snd r75.2.1), _, ⟨k73.1, r75⟩, rfl⟩
                                · skip
                                  change ev_wp pg_F pg_lay none [] (ev_lu pg_c78) (fun _ => false) _ 1655 55 [some (.ref 0), some (.int 14), some (.int 0), some (.int 16384)] [] σ
                                  refine ⟨fun h => absurd h (by decide), fun _ => ?_⟩
                                  change ev_wp pg_F pg_lay none [] (ev_lu pg_c78) (fun _ => false) _ 1650 8 [some (.ref 0), some (.int 15), some (.int 0), some (.int 16384)] [] σ
                                  refine ⟨trivial, ?_⟩
                                  rintro _ _ ⟨rfl, rfl⟩
                                  change ev_wp pg_F pg_lay none [] (ev_lu pg_c78) (fun _ => false) _ 1635 29 [some (.ref 0), some (.int 15), some (.int 0), some (.int 32768)] [.int (sp_at σ 4 0)] σ
                                  refine ⟨fun (h76 : ((sp_at σ 4 0) &&& 32768) = 0) => ?_, fun (h76 : ¬ ((sp_at σ 4 0) &&& 32768) = 0) => ?_⟩
                                  · skip
                                    change ev_wp pg_F pg_lay none [] (ev_lu pg_c78) (fun _ => false) _ 1632 34 [some (.ref 0), some (.int 15), some (.int 0), some (.int 32768)] [] σ
                                    refine ⟨trivial, ?_⟩
                                    rintro _ _ ⟨rfl, rfl⟩
                                    change ev_wp pg_F pg_lay none [] (ev_lu pg_c78) (fun _ => false) _ 1623 49 [some (.ref 0), some (.int 15), some (.int 0), some (.int 32768)] [.int (sp_at σ 4 0), .int 0, .int 4, .ref 1] σ
                                    refine ⟨trivial, ?_⟩
                                    rintro _ s79 ⟨v77, k78, rfl⟩
                                    have r80 := (sp_w.rf σ).tr k78.2
                                    exact ⟨_, rfl, k78.1, Nat.le_of_eq (congrArg Prod.snd r80.2.1), _, ⟨k78.1, r80⟩, rfl⟩
                                  · skip
                                    change ev_wp pg_F pg_lay none [] (ev_lu pg_c78) (fun _ => false) _ 1632 55 [some (.ref 0), some (.int 15), some (.int 0), some (.int 32768)] [] σ
                                    refine ⟨fun h => absurd h (by decide), fun _ => ?_⟩
                                    change ev_wp pg_F pg_lay none [] (ev_lu pg_c78) (fun _ => false) _ 1627 8 [some (.ref 0), some (.int 16), some (.int 0), some (.int 32768)] [] σ
                                    refine ⟨trivial, ?_⟩
                                    rintro _ _ ⟨rfl, rfl⟩
                                    change ev_wp pg_F pg_lay none [] (ev_lu pg_c78) (fun _ => false) _ 1612 29 [some (.ref 0), some (.int 16), some (.int 1), some (.int 1)] [.int (sp_at σ 4 1)] σ
                                    refine ⟨fun (h81 : ((sp_at σ 4 1) &&& 1) = 0) => ?_, fun (h81 : ¬ ((sp_at σ 4 1) &&& 1) = 0) => ?_⟩
                                    · skip
                                      change ev_wp pg_F pg_lay none [] (ev_lu pg_c78) (fun _ => false) _ 1609 34 [some (.ref 0), some (.int 16), some (.int 1), some (.int 1)] [] σ
                                      refine ⟨trivial, ?_⟩
                                      rintro _ _ ⟨rfl, rfl⟩
                                      change ev_wp pg_F pg_lay none [] (ev_lu pg_c78) (fun _ => false) _ 1600 49 [some (.ref 0), some (.int 16), some (.int 1), some (.int 1)] [.int (sp_at σ 4 1), .int 1, .int 4, .ref 1] σ
                                      refine ⟨trivial, ?_⟩
                                      rintro _ s84 ⟨v82, k83, rfl⟩
                                      have r85 := (sp_w.rf σ).tr k83.2
                                      exact ⟨_, rfl, k83.1, Nat.le_of_eq (congrArg Prod.snd r85.2.1), _, ⟨k83.1, r85⟩, rfl⟩
                                    · skip
                                      change ev_wp pg_F pg_lay none [] (ev_lu pg_c78) (fun _ => false) _ 1609 55 [some (.ref 0), some (.int 16), some (.int 1), some (.int 1)] [] σ
                                      refine ⟨fun h => absurd h (by decide), fun _ => ?_⟩
                                      change ev_wp pg_F pg_lay none [] (ev_lu pg_c78) (fun _ => false) _ 1604 8 [some (.ref 0), some (.int 17), some (.int 1), some (.int 1)] [] σ
                                      refine ⟨trivial, ?_⟩
                                      rintro _ _ ⟨rfl, rfl⟩
                                      change ev_wp pg_F pg_lay none [] (ev_lu pg_c78) (fun _ => false) _ 1589 29 [some (.ref 0), some (.int 17), some (.int 1), some (.int 2)] [.int (sp_at σ 4 1)] σ
                                      refine ⟨fun (h86 : ((sp_at σ 4 1) &&& 2) = 0) => ?_, fun (h86 : ¬ ((sp_at σ 4 1) &&& 2) = 0) => ?_⟩
                                      · skip
                                        change ev_wp pg_F pg_lay none [] (ev_lu pg_c78) (fun _ => false) _ 1586 34 [some (.ref 0), some (.int 17), some (.int 1), some (.int 2)] [] σ
                                        refine ⟨trivial, ?_⟩
                                        rintro _ _ ⟨rfl, rfl⟩
                                        change ev_wp pg_F pg_lay none [] (ev_lu pg_c78) (fun _ => false) _ 1577 49 [some (.ref 0), some (.int 17), some (.int 1), some (.int 2)] [.int (sp_at σ 4 1), .int 1, .int 4, .ref 1] σ
                                        refine ⟨trivial, ?_⟩
                                        rintro _ s89 ⟨v87, k88, rfl⟩
                                        have r90 := (sp_w.rf σ).tr k88.2
                                        exact ⟨_, rfl, k88.1, Nat.le_of_eq (congrArg Prod.snd r90.2.1), _, ⟨k88.1, r90⟩, rfl⟩
                                      · skip
                                        change ev_wp pg_F pg_lay none [] (ev_lu pg_c78) (fun _ => false) _ 1586 55 [some (.ref 0), some (.int 17), some (.int 1), some (.int 2)] [] σ
                                        refine ⟨fun h => absurd h (by decide), fun _ => ?_⟩
                                        change ev_wp pg_F pg_lay none [] (ev_lu pg_c78) (fun _ => false) _ 1581 8 [some (.ref 0), some (.int 18), some (.int 1), some (.int 2)] [] σ
                                        refine ⟨trivial, ?_⟩
                                        rintro _ _ ⟨rfl, rfl⟩
                                        change ev_wp pg_F pg_lay none [] (ev_lu pg_c78) (fun _ => false) _ 1566 29 [some (.ref 0), some (.int 18), some (.int 1), some (.int 4)] [.int (sp_at σ 4 1)] σ
                                        refine ⟨fun (h91 : ((sp_at σ 4 1) &&& 4) = 0) => ?_, fun (h91 : ¬ ((sp_at σ 4 1) &&& 4) = 0) => ?_⟩
                                        · skip
                                          change ev_wp pg_F pg_lay none [] (ev_lu pg_c78) (fun _ => false) _ 1563 34 [some (.ref 0), some (.int 18), some (.int 1), some (.int 4)] [] σ
                                          refine ⟨trivial, ?_⟩
                                          rintro _ _ ⟨rfl, rfl⟩
                                          change ev_wp pg_F pg_lay none [] (ev_lu pg_c78) (fun _ => false) _ 1554 49 [some (.ref 0), some (.int 18), some (.int 1), some (.int 4)] [.int (sp_at σ 4 1), .int 1, .int 4, .ref 1] σ
                                          refine ⟨trivial, ?_⟩
                                          rintro _ s94 ⟨v92, k93, rfl⟩
                                          have r95 := (sp_w.rf σ).tr k93.2
                                          exact ⟨_, rfl, k93.1, Nat.le_of_eq (congrArg Prod.snd r95.2.1), _, ⟨k93.1, r95⟩, rfl⟩
                                        · skip
                                          change ev_wp pg_F pg_lay none [] (ev_lu pg_c78) (fun _ => false) _ 1563 55 [some (.ref 0), some (.int 18), some (.int 1), some (.int 4)] [] σ
                                          refine ⟨fun h => absurd h (by decide), fun _ => ?_⟩
                                          change ev_wp pg_F pg_lay none [] (ev_lu pg_c78) (fun _ => false) _ 1558 8 [some (.ref 0), some (.int 19), some (.int 1), some (.int 4)] [] σ
                                          refine ⟨trivial, ?_⟩
                                          rintro _ _ ⟨rfl, rfl⟩
                                          change ev_wp pg_F pg_lay none [] (ev_lu pg_c78) (fun _ => false) _ 1543 29 [some (.ref 0), some (.int 19), some (.int 1), some (.int 8)] [.int (sp_at σ 4 1)] σ
                                          refine ⟨fun (h96 : ((sp_at σ 4 1) &&& 8) = 0) => ?_, fun (h96 : ¬ ((sp_at σ 4 1) &&& 8) = 0) => ?_⟩
                                          · skip
                                            change ev_wp pg_F pg_lay none [] (ev_lu pg_c78) (fun _ => false) _ 1540 34 [some (.ref 0), some (.int 19), some (.int 1), some (.int 8)] [] σ
                                            refine ⟨trivial, ?_⟩
                                            rintro _ _ ⟨rfl, rfl⟩
                                            change ev_wp pg_F pg_lay none [] (ev_lu pg_c78) (fun _ => false) _ 1531 49 [some (.ref 0), some (.int 19), some (.int 1), some (.int 8)] [.int (sp_at σ 4 1), .int 1, .int 4, .ref 1] σ
                                            refine ⟨trivial, ?_⟩
                                            rintro _ s99 ⟨v97, k98, rfl⟩
                                            have r100 := (sp_w.rf σ).tr k98.2
                                            exact ⟨_, rfl, k98.1, Nat.le_of_eq (congrArg Prod.snd r100.2.1), _, ⟨k98.1, r100⟩, rfl⟩
                                          · skip
                                            change ev_wp pg_F pg_lay none [] (ev_lu pg_c78) (fun _ => false) _ 1540 55 [some (.ref 0), some (.int 19), some (.int 1), some (.int 8)] [] σ
                                            refine ⟨fun h => absurd h (by decide), fun _ => ?_⟩
                                            change ev_wp pg_F pg_lay none [] (ev_lu pg_c78) (fun _ => false) _ 1535 8 [some (.ref 0), some (.int 20), some (.int 1), some (.int 8)] [] σ
                                            refine ⟨trivial, ?_⟩
                                            rintro _ _ ⟨rfl, rfl⟩
                                            change ev_wp pg_F pg_lay none [] (ev_lu pg_c78) (fun _ => false) _ 1520 29 [some (.ref 0), some (.int 20), some (.int 1), some (.int 16)] [.int (sp_at σ 4 1)] σ
                                            refine ⟨fun (h101 : ((sp_at σ 4 1) &&& 16) = 0) => ?_, fun (h101 : ¬ ((sp_at σ 4 1) &&& 16) = 0) => ?_⟩
                                            · skip
                                              change ev_wp pg_F pg_lay none [] (ev_lu pg_c78) (fun _ => false) _ 1517 34 [some (.ref 0), some (.int 20), some (.int 1), some (.int 16)] [] σ
                                              refine ⟨trivial, ?_⟩
                                              rintro _ _ ⟨rfl, rfl⟩
                                              change ev_wp pg_F pg_lay none [] (ev_lu pg_c78) (fun _ => false) _ 1508 49 [some (.ref 0), some (.int 20), some (.int 1), some (.int 16)] [.int (sp_at σ 4 1), .int 1, .int 4, .ref 1] σ
                                              refine ⟨trivial, ?_⟩
                                              rintro _ s104 ⟨v102, k103, rfl⟩
                                              have r105 := (sp_w.rf σ).tr k103.2
                                              exact ⟨_, rfl, k103.1, Nat.le_of_eq (congrArg Prod.snd r105.2.1), _, ⟨k103.1, r105⟩, rfl⟩
                                            · skip
                                              change ev_wp pg_F pg_lay none [] (ev_lu pg_c78) (fun _ => false) _ 1517 55 [some (.ref 0), some (.int 20), some (.int 1), some (.int 16)] [] σ
                                              refine ⟨fun h => absurd h (by decide), fun _ => ?_⟩
                                              change ev_wp pg_F pg_lay none [] (ev_lu pg_c78) (fun _ => false) _ 1512 8 [some (.ref 0), some (.int 21), some (.int 1), some (.int 16)] [] σ
                                              refine ⟨trivial, ?_⟩
                                              rintro _ _ ⟨rfl, rfl⟩
                                              change ev_wp pg_F pg_lay none [] (ev_lu pg_c78) (fun _ => false) _ 1497 29 [some (.ref 0), some (.int 21), some (.int 1), some (.int 32)] [.int (sp_at σ 4 1)] σ
                                              refine ⟨fun (h106 : ((sp_at σ 4 1) &&& 32) = 0) => ?_, fun (h106 : ¬ ((sp_at σ 4 1) &&& 32) = 0) => ?_⟩
                                              · skip
                                                change ev_wp pg_F pg_lay none [] (ev_lu pg_c78) (fun _ => false) _ 1494 34 [some (.ref 0), some (.int 21), some (.int 1), some (.int 32)] [] σ
                                                refine ⟨trivial, ?_⟩
                                                rintro _ _ ⟨rfl, rfl⟩
                                                change ev_wp pg_F pg_lay none [] (ev_lu pg_c78) (fun _ => false) _ 1485 49 [some (.ref 0), some (.int 21), some (.int 1), some (.int 32)] [.int (sp_at σ 4 1), .int 1, .int 4, .ref 1] σ
                                                refine ⟨trivial, ?_⟩
                                                rintro _ s109 ⟨v107, k108, rfl⟩
                                                have r110 := (sp_w.rf σ).tr k108.2
                                                exact ⟨_, rfl, k108.1, Nat.le_of_eq (congrArg Prod.snd r110.2.1), _, ⟨k108.1, r110⟩, rfl⟩
                                              · skip
                                                change ev_wp pg_F pg_lay none [] (ev_lu pg_c78) (fun _ => false) _ 1494 55 [some (.ref 0), some (.int 21), some (.int 1), some (.int 32)] [] σ
                                                refine ⟨fun h => absurd h (by decide), fun _ => ?_⟩
                                                change ev_wp pg_F pg_lay none [] (ev_lu pg_c78) (fun _ => false) _ 1489 8 [some (.ref 0), some (.int 22), some (.int 1), some (.int 32)] [] σ
                                                refine ⟨trivial, ?_⟩
                                                rintro _ _ ⟨rfl, rfl⟩
                                                change ev_wp pg_F pg_lay none [] (ev_lu pg_c78) (fun _ => false) _ 1474 29 [some (.ref 0), some (.int 22), some (.int 1), some (.int 64)] [.int (sp_at σ 4 1)] σ
                                                refine ⟨fun (h111 : ((sp_at σ 4 1) &&& 64) = 0) => ?_, fun (h111 : ¬ ((sp_at σ 4 1) &&& 64) = 0) => ?_⟩
                                                · skip
                                                  change ev_wp pg_F pg_lay none [] (ev_lu pg_c78) (fun _ => false) _ 1471 34 [some (.ref 0), some (.int 22), some (.int 1), some (.int 64)] [] σ
                                                  refine ⟨trivial, ?_⟩
                                                  rintro _ _ ⟨rfl, rfl⟩
                                                  change ev_wp pg_F pg_lay none [] (ev_lu pg_c78) (fun _ => false) _ 1462 49 [some (.ref 0), some (.int 22), some (.int 1), some (.int 64)] [.int (sp_at σ 4 1), .int 1, .int 4, .ref 1] σ
                                                  refine ⟨trivial, ?_⟩
                                                  rintro _ s114 ⟨v112, k113, rfl⟩
                                                  have r115 := (sp_w.rf σ).tr k113.2
                                                  exact ⟨_, rfl, k113.1, Nat.le_of_eq (congrArg Prod.snd r115.2.1), _, ⟨k113.1, r115⟩, rfl⟩
                                                · skip
                                                  change ev_wp pg_F pg_lay none [] (ev_lu pg_c78) (fun _ => false) _ 1471 55 [some (.ref 0), some (.int 22), some (.int 1), some (.int 64)] [] σ
                                                  refine ⟨fun h => absurd h (by decide), fun _ => ?_⟩
                                                  change ev_wp pg_F pg_lay none [] (ev_lu pg_c78) (fun _ => false) _ 1466 8 [some (.ref 0), some (.int 23), some (.int 1), some (.int 64)] [] σ
                                                  refine ⟨trivial, ?_⟩
                                                  rintro _ _ ⟨rfl, rfl⟩
                                                  change ev_wp pg_F pg_lay none [] (ev_lu pg_c78) (fun _ => false) _ 1451 29 [some (.ref 0), some (.int 23), some (.int 1), some (.int 128)] [.int (sp_at σ 4 1)] σ
                                                  refine ⟨fun (h116 : ((sp_at σ 4 1) &&& 128) = 0) => ?_, fun (h116 : ¬ ((sp_at σ 4 1) &&& 128) = 0) => ?_⟩
                                                  · skip
                                                    change ev_wp pg_F pg_lay none [] (ev_lu pg_c78) (fun _ => false) _ 1448 34 [some (.ref 0), some (.int 23), some (.int 1), some (.int 128)] [] σ
                                                    refine ⟨trivial, ?_⟩
                                                    rintro _ _ ⟨rfl, rfl⟩
                                                    change ev_wp pg_F pg_lay none [] (ev_lu pg_c78) (fun _ => false) _ 1439 49 [some (.ref 0), some (.int 23), some (.int 1), some (.int 128)] [.int (sp_at σ 4 1), .int 1, .int 4, .ref 1] σ
                                                    refine ⟨trivial, ?_⟩
                                                    rintro _ s119 ⟨v117, k118, rfl⟩
                                                    have r120 := (sp_w.rf σ).tr k118.2
                                                    exact ⟨_, rfl, k118.1, Nat.le_of_eq (congrArg Prod.snd r120.2.1), _, ⟨k118.1, r120⟩, rfl⟩
                                                  · skip
                                                    change ev_wp pg_F pg_lay none [] (ev_lu pg_c78) (fun _ => false) _ 1448 55 [some (.ref 0), some (.int 23), some (.int 1), some (.int 128)] [] σ
                                                    refine ⟨fun h => absurd h (by decide), fun _ => ?_⟩
                                                    change ev_wp pg_F pg_lay none [] (ev_lu pg_c78) (fun _ => false) _ 1443 8 [some (.ref 0), some (.int 24), some (.int 1), some (.int 128)] [] σ
                                                    refine ⟨trivial, ?_⟩
                                                    rintro _ _ ⟨rfl, rfl⟩
                                                    change ev_wp pg_F pg_lay none [] (ev_lu pg_c78) (fun _ => false) _ 1428 29 [some (.ref 0), some (.int 24), some (.int 1), some (.int 256)] [.int (sp_at σ 4 1)] σ
                                                    refine ⟨fun (h121 : ((sp_at σ 4 1) &&& 256) = 0) => ?_, fun (h121 : ¬ ((sp_at σ 4 1) &&& 256) = 0) => ?_⟩
                                                    · skip
                                                      change ev_wp pg_F pg_lay none [] (ev_lu pg_c78) (fun _ => false) _ 1425 34 [some (.ref 0), some (.int 24), some (.int 1), some (.int 256)] [] σ
                                                      refine ⟨trivial, ?_⟩
                                                      rintro _ _ ⟨rfl, rfl⟩
                                                      change ev_wp pg_F pg_lay none [] (ev_lu pg_c78) (fun _ => false) _ 1416 49 [some (.ref 0), some (.int 24), some (.int 1), some (.int 256)] [.int (sp_at σ 4 1), .int 1, .int 4, .ref 1] σ
                                                      refine ⟨trivial, ?_⟩
                                                      rintro _ s124 ⟨v122, k123, rfl⟩
                                                      have r125 := (sp_w.rf σ).tr k123.2
                                                      exact ⟨_, rfl, k123.1, Nat.le_of_eq (congrArg Prod.snd r125.2.1), _, ⟨k123.1, r125⟩, rfl⟩
                                                    · skip
                                                      change ev_wp pg_F pg_lay none [] (ev_lu pg_c78) (fun _ => false) _ 1425 55 [some (.ref 0), some (.int 24), some (.int 1), some (.int 256)] [] σ
                                                      refine ⟨fun h => absurd h (by decide), fun _ => ?_⟩
                                                      change ev_wp pg_F pg_lay none [] (ev_lu pg_c78) (fun _ => false) _ 1420 8 [some (.ref 0), some (.int 25), some (.int 1), some (.int 256)] [] σ
                                                      refine ⟨trivial, ?_⟩
                                                      rintro _ _ ⟨rfl, rfl⟩
                                                      change ev_wp pg_F pg_lay none [] (ev_lu pg_c78) (fun _ => false) _ 1405 29 [some (.ref 0), some (.int 25), some (.int 1), some (.int 512)] [.int (sp_at σ 4 1)] σ
                                                      refine ⟨fun (h126 : ((sp_at σ 4 1) &&& 512) = 0) => ?_, fun (h126 : ¬ ((sp_at σ 4 1) &&& 512) = 0) => ?_⟩
                                                      · skip
                                                        change ev_wp pg_F pg_lay none [] (ev_lu pg_c78) (fun _ => false) _ 1402 34 [some (.ref 0), some (.int 25), some (.int 1), some (.int 512)] [] σ
                                                        refine ⟨trivial, ?_⟩
                                                        rintro _ _ ⟨rfl, rfl⟩
                                                        change ev_wp pg_F pg_lay none [] (ev_lu pg_c78) (fun _ => false) _ 1393 49 [some (.ref 0), some (.int 25), some (.int 1), some (.int 512)] [.int (sp_at σ 4 1), .int 1, .int 4, .ref 1] σ
                                                        refine ⟨trivial, ?_⟩
                                                        rintro _ s129 ⟨v127, k128, rfl⟩
                                                        have r130 := (sp_w.rf σ).tr k128.2
                                                        exact ⟨_, rfl, k128.1, Nat.le_of_eq (congrArg Prod.snd r130.2.1), _, ⟨k128.1, r130⟩, rfl⟩
                                                      · skip
                                                        change ev_wp pg_F pg_lay none [] (ev_lu pg_c78) (fun _ => false) _ 1402 55 [some (.ref 0), some (.int 25), some (.int 1), some (.int 512)] [] σ
                                                        refine ⟨fun h => absurd h (by decide), fun _ => ?_⟩
                                                        change ev_wp pg_F pg_lay none [] (ev_lu pg_c78) (fun _ => false) _ 1397 8 [some (.ref 0), some (.int 26), some (.int 1), some (.int 512)] [] σ
                                                        refine ⟨trivial, ?_⟩
                                                        rintro _ _ ⟨rfl, rfl⟩
                                                        change ev_wp pg_F pg_lay none [] (ev_lu pg_c78) (fun _ => false) _ 1382 29 [some (.ref 0), some (.int 26), some (.int 1), some (.int 1024)] [.int (sp_at σ 4 1)] σ
                                                        refine ⟨fun (h131 : ((sp_at σ 4 1) &&& 1024) = 0) => ?_, fun (h131 : ¬ ((sp_at σ 4 1) &&& 1024) = 0) => ?_⟩
                                                        · skip
                                                          change ev_wp pg_F pg_lay none [] (ev_lu pg_c78) (fun _ => false) _ 1379 34 [some (.ref 0), some (.int 26), some (.int 1), some (.int 1024)] [] σ
                                                          refine ⟨trivial, ?_⟩
                                                          rintro _ _ ⟨rfl, rfl⟩
                                                          change ev_wp pg_F pg_lay none [] (ev_lu pg_c78) (fun _ => false) _ 1370 49 [some (.ref 0), some (.int 26), some (.int 1), some (.int 1024)] [.int (sp_at σ 4 1), .int 1, .int 4, .ref 1] σ
                                                          refine ⟨trivial, ?_⟩
                                                          rintro _ s134 ⟨v132, k133, rfl⟩
                                                          have r135 := (sp_w.rf σ).tr k133.2
                                                          exact ⟨_, rfl, k133.1, Nat.le_of_eq (congrArg Prod.snd r135.2.1), _, ⟨k133.1, r135⟩, rfl⟩
                                                        · skip
                                                          change ev_wp pg_F pg_lay none [] (ev_lu pg_c78) (fun _ => false) _ 1379 55 [some (.ref 0), some (.int 26), some (.int 1), some (.int 1024)] [] σ
                                                          refine ⟨fun h => absurd h (by decide), fun _ => ?_⟩
                                                          change ev_wp pg_F pg_lay none [] (ev_lu pg_c78) (fun _ => false) _ 1374 8 [some (.ref 0), some (.int 27), some (.int 1), some (.int 1024)] [] σ
                                                          refine ⟨trivial, ?_⟩
                                                          rintro _ _ ⟨rfl, rfl⟩
                                                          change ev_wp pg_F pg_lay none [] (ev_lu pg_c78) (fun _ => false) _ 1359 29 [some (.ref 0), some (.int 27), some (.int 1), some (.int 2048)] [.int (sp_at σ 4 1)] σ
                                                          refine ⟨fun (h136 : ((sp_at σ 4 1) &&& 2048) = 0) => ?_, fun (h136 : ¬ ((sp_at σ 4 1) &&& 2048) = 0) => ?_⟩
                                                          · skip
                                                            change ev_wp pg_F pg_lay none [] (ev_lu pg_c78) (fun _ => false) _ 1356 34 [some (.ref 0), some (.int 27), some (.int 1), some (.int 2048)] [] σ
                                                            refine ⟨trivial, ?_⟩
                                                            rintro _ _ ⟨rfl, rfl⟩
                                                            change ev_wp pg_F pg_lay none [] (ev_lu pg_c78) (fun _ => false) _ 1347 49 [some (.ref 0), some (.int 27), some (.int 1), some (.int 2048)] [.int (sp_at σ 4 1), .int 1, .int 4, .ref 1] σ
                                                            refine ⟨trivial, ?_⟩
                                                            rintro _ s139 ⟨v137, k138, rfl⟩
                                                            have r140 := (sp_w.rf σ).tr k138.2
                                                            exact ⟨_, rfl, k138.1, Nat.le_of_eq (congrArg Prod.snd r140.2.1), _, ⟨k138.1, r140⟩, rfl⟩
                                                          · skip
                                                            change ev_wp pg_F pg_lay none [] (ev_lu pg_c78) (fun _ => false) _ 1356 55 [some (.ref 0), some (.int 27), some (.int 1), some (.int 2048)] [] σ
                                                            refine ⟨fun h => absurd h (by decide), fun _ => ?_⟩
                                                            change ev_wp pg_F pg_lay none [] (ev_lu pg_c78) (fun _ => false) _ 1351 8 [some (.ref 0), some (.int 28), some (.int 1), some (.int 2048)] [] σ
                                                            refine ⟨trivial, ?_⟩
                                                            rintro _ _ ⟨rfl, rfl⟩
                                                            change ev_wp pg_F pg_lay none [] (ev_lu pg_c78) (fun _ => false) _ 1336 29 [some (.ref 0), some (.int 28), some (.int 1), some (.int 4096)] [.int (sp_at σ 4 1)] σ
                                                            refine ⟨fun (h141 : ((sp_at σ 4 1) &&& 4096) = 0) => ?_, fun (h141 : ¬ ((sp_at σ 4 1) &&& 4096) = 0) => ?_⟩
                                                            · skip
                                                              change ev_wp pg_F pg_lay none [] (ev_lu pg_c78) (fun _ => false) _ 1333 34 [some (.ref 0), some (.int 28), some (.int 1), some (.int 4096)] [] σ
                                                              refine ⟨trivial, ?_⟩
                                                              rintro _ _ ⟨rfl, rfl⟩
                                                              change ev_wp pg_F pg_lay none [] (ev_lu pg_c78) (fun _ => false) _ 1324 49 [some (.ref 0), some (.int 28), some (.int 1), some (.int 4096)] [.int (sp_at σ 4 1), .int 1, .int 4, .ref 1] σ
                                                              refine ⟨trivial, ?_⟩
                                                              rintro _ s144 ⟨v142, k143, rfl⟩
                                                              have r145 := (sp_w.rf σ).tr k143.2
                                                              exact ⟨_, rfl, k143.1, Nat.le_of_eq (congrArg Prod.snd r145.2.1), _, ⟨k143.1, r145⟩, rfl⟩
                                                            · skip
                                                              change ev_wp pg_F pg_lay none [] (ev_lu pg_c78) (fun _ => false) _ 1333 55 [some (.ref 0), some (.int 28), some (.int 1), some (.int 4096)] [] σ
                                                              refine ⟨fun h => absurd h (by decide), fun _ => ?_⟩
                                                              change ev_wp pg_F pg_lay none [] (ev_lu pg_c78) (fun _ => false) _ 1328 8 [some (.ref 0), some (.int 29), some (.int 1), some (.int 4096)] [] σ
                                                              refine ⟨trivial, ?_⟩
                                                              rintro _ _ ⟨rfl, rfl⟩
                                                              change ev_wp pg_F pg_lay none [] (ev_lu pg_c78) (fun _ => false) _ 1313 29 [some (.ref 0), some (.int 29), some (.int 1), some (.int 8192)] [.int (sp_at σ 4 1)] σ
                                                              refine ⟨fun (h146 : ((sp_at σ 4 1) &&& 8192) = 0) => ?_, fun (h146 : ¬ ((sp_at σ 4 1) &&& 8192) = 0) => ?_⟩
                                                              · skip
                                                                change ev_wp pg_F pg_lay none [] (ev_lu pg_c78) (fun _ => false) _ 1310 34 [some (.ref 0), some (.int 29), some (.int 1), some (.int 8192)] [] σ
                                                                refine ⟨trivial, ?_⟩
                                                                rintro _ _ ⟨rfl, rfl⟩
                                                                change ev_wp pg_F pg_lay none [] (ev_lu pg_c78) (fun _ => false) _ 1301 49 [some (.ref 0), some (.int 29), some (.int 1), some (.int 8192)] [.int (sp_at σ 4 1), .int 1, .int 4, .ref 1] σ
                                                                refine ⟨trivial, ?_⟩
                                                                rintro _ s149 ⟨v147, k148, rfl⟩
                                                                have r150 := (sp_w.rf σ).tr k148.2
                                                                exact ⟨_, rfl, k148.1, Nat.le_of_eq (congrArg Prod.snd r150.2.1), _, ⟨k148.1, r150⟩, rfl⟩
                                                              · skip
                                                                change ev_wp pg_F pg_lay none [] (ev_lu pg_c78) (fun _ => false) _ 1310 55 [some (.ref 0), some (.int 29), some (.int 1), some (.int 8192)] [] σ
                                                                refine ⟨fun h => absurd h (by decide), fun _ => ?_⟩
                                                                change ev_wp pg_F pg_lay none [] (ev_lu pg_c78) (fun _ => false) _ 1305 8 [some (.ref 0), some (.int 30), some (.int 1), some (.int 8192)] [] σ
                                                                refine ⟨trivial, ?_⟩
                                                                rintro _ _ ⟨rfl, rfl⟩
                                                                change ev_wp pg_F pg_lay none [] (ev_lu pg_c78) (fun _ => false) _ 1290 29 [some (.ref 0), some (.int 30), some (.int 1), some (.int 16384)] [.int (sp_at σ 4 1)] σ
                                                                refine ⟨fun (h151 : ((sp_at σ 4 1) &&& 16384) = 0) => ?_, fun (h151 : ¬ ((sp_at σ 4 1) &&& 16384) = 0) => ?_⟩
                                                                · skip
                                                                  change ev_wp pg_F pg_lay none [] (ev_lu pg_c78) (fun _ => false) _ 1287 34 [some (.ref 0), some (.int 30), some (.int 1), some (.int 16384)] [] σ
                                                                  refine ⟨trivial, ?_⟩
                                                                  rintro _ _ ⟨rfl, rfl⟩
                                                                  change ev_wp pg_F pg_lay none [] (ev_lu pg_c78) (fun _ => false) _ 1278 49 [some (.ref 0), some (.int 30), some (.int 1), some (.int 16384)] [.int (sp_at σ 4 1), .int 1, .int 4, .ref 1] σ
                                                                  refine ⟨trivial, ?_⟩
                                                                  rintro _ s154 ⟨v152, k153, rfl⟩
                                                                  have r155 := (sp_w.rf σ).tr k153.2
                                                                  exact ⟨_, rfl, k153.1, Nat.le_of_eq (congrArg Prod.snd r155.2.1), _, ⟨k153.1, r155⟩, rfl⟩
                                                                · skip
                                                                  change ev_wp pg_F pg_lay none [] (ev_lu pg_c78) (fun _ => false) _ 1287 55 [some (.ref 0), some (.int 30), some (.int 1), some (.int 16384)] [] σ
                                                                  refine ⟨fun h => absurd h (by decide), fun _ => ?_⟩
                                                                  change ev_wp pg_F pg_lay none [] (ev_lu pg_c78) (fun _ => false) _ 1282 8 [some (.ref 0), some (.int 31), some (.int 1), some (.int 16384)] [] σ
                                                                  refine ⟨trivial, ?_⟩
                                                                  rintro _ _ ⟨rfl, rfl⟩
                                                                  change ev_wp pg_F pg_lay none [] (ev_lu pg_c78) (fun _ => false) _ 1267 29 [some (.ref 0), some (.int 31), some (.int 1), some (.int 32768)] [.int (sp_at σ 4 1)] σ
                                                                  refine ⟨fun (h156 : ((sp_at σ 4 1) &&& 32768) = 0) => ?_, fun (h156 : ¬ ((sp_at σ 4 1) &&& 32768) = 0) => ?_⟩
                                                                  · skip
                                                                    change ev_wp pg_F pg_lay none [] (ev_lu pg_c78) (fun _ => false) _ 1264 34 [some (.ref 0), some (.int 31), some (.int 1), some (.int 32768)] [] σ
                                                                    refine ⟨trivial, ?_⟩
                                                                    rintro _ _ ⟨rfl, rfl⟩
                                                                    change ev_wp pg_F pg_lay none [] (ev_lu pg_c78) (fun _ => false) _ 1255 49 [some (.ref 0), some (.int 31), some (.int 1), some (.int 32768)] [.int (sp_at σ 4 1), .int 1, .int 4, .ref 1] σ
                                                                    refine ⟨trivial, ?_⟩
                                                                    rintro _ s159 ⟨v157, k158, rfl⟩
                                                                    have r160 := (sp_w.rf σ).tr k158.2
                                                                    exact ⟨_, rfl, k158.1, Nat.le_of_eq (congrArg Prod.snd r160.2.1), _, ⟨k158.1, r160⟩, rfl⟩
                                                                  · skip
                                                                    change ev_wp pg_F pg_lay none [] (ev_lu pg_c78) (fun _ => false) _ 1264 55 [some (.ref 0), some (.int 31), some (.int 1), some (.int 32768)] [] σ
                                                                    refine ⟨fun h => absurd h (by decide), fun _ => ?_⟩
                                                                    change ev_wp pg_F pg_lay none [] (ev_lu pg_c78) (fun _ => false) _ 1259 8 [some (.ref 0), some (.int 32), some (.int 1), some (.int 32768)] [] σ
                                                                    refine ⟨trivial, ?_⟩
                                                                    rintro _ _ ⟨rfl, rfl⟩
                                                                    change ev_wp pg_F pg_lay none [] (ev_lu pg_c78) (fun _ => false) _ 1244 29 [some (.ref 0), some (.int 32), some (.int 2), some (.int 1)] [.int (sp_at σ 4 2)] σ
                                                                    refine ⟨fun (h161 : ((sp_at σ 4 2) &&& 1) = 0) => ?_, fun (h161 : ¬ ((sp_at σ 4 2) &&& 1) = 0) => ?_⟩
                                                                    · skip
                                                                      change ev_wp pg_F pg_lay none [] (ev_lu pg_c78) (fun _ => false) _ 1241 34 [some (.ref 0), some (.int 32), some (.int 2), some (.int 1)] [] σ
                                                                      refine ⟨trivial, ?_⟩
                                                                      rintro _ _ ⟨rfl, rfl⟩
                                                                      change ev_wp pg_F pg_lay none [] (ev_lu pg_c78) (fun _ => false) _ 1232 49 [some (.ref 0), some (.int 32), some (.int 2), some (.int 1)] [.int (sp_at σ 4 2), .int 2, .int 4, .ref 1] σ
                                                                      refine ⟨trivial, ?_⟩
                                                                      rintro _ s164 ⟨v162, k163, rfl⟩
                                                                      have r165 := (sp_w.rf σ).tr k163.2
                                                                      exact ⟨_, rfl, k163.1, Nat.le_of_eq (congrArg Prod.snd r165.2.1), _, ⟨k163.1, r165⟩, rfl⟩
                                                                    · skip
                                                                      change ev_wp pg_F pg_lay none [] (ev_lu pg_c78) (fun _ => false) _ 1241 55 [some (.ref 0), some (.int 32), some (.int 2), some (.int 1)] [] σ
                                                                      refine ⟨fun h => absurd h (by decide), fun _ => ?_⟩
                                                                      change ev_wp pg_F pg_lay none [] (ev_lu pg_c78) (fun _ => false) _ 1236 8 [some (.ref 0), some (.int 33), some (.int 2), some (.int 1)] [] σ
                                                                      refine ⟨trivial, ?_⟩
                                                                      rintro _ _ ⟨rfl, rfl⟩
                                                                      change ev_wp pg_F pg_lay none [] (ev_lu pg_c78) (fun _ => false) _ 1221 29 [some (.ref 0), some (.int 33), some (.int 2), some (.int 2)] [.int (sp_at σ 4 2)] σ
                                                                      refine ⟨fun (h166 : ((sp_at σ 4 2) &&& 2) = 0) => ?_, fun (h166 : ¬ ((sp_at σ 4 2) &&& 2) = 0) => ?_⟩
                                                                      · skip
                                                                        change ev_wp pg_F pg_lay none [] (ev_lu pg_c78) (fun _ => false) _ 1218 34 [some (.ref 0), some (.int 33), some (.int 2), some (.int 2)] [] σ
                                                                        refine ⟨trivial, ?_⟩
                                                                        rintro _ _ ⟨rfl, rfl⟩
                                                                        change ev_wp pg_F pg_lay none [] (ev_lu pg_c78) (fun _ => false) _ 1209 49 [some (.ref 0), some (.int 33), some (.int 2), some (.int 2)] [.int (sp_at σ 4 2), .int 2, .int 4, .ref 1] σ
                                                                        refine ⟨trivial, ?_⟩
                                                                        rintro _ s169 ⟨v167, k168, rfl⟩
                                                                        have r170 := (sp_w.rf σ).tr k168.2
                                                                        exact ⟨_, rfl, k168.1, Nat.le_of_eq (congrArg Prod.snd r170.2.1), _, ⟨k168.1, r170⟩, rfl⟩
                                                                      · skip
                                                                        change ev_wp pg_F pg_lay none [] (ev_lu pg_c78) (fun _ => false) _ 1218 55 [some (.ref 0), some (.int 33), some (.int 2), some (.int 2)] [] σ
                                                                        refine ⟨fun h => absurd h (by decide), fun _ => ?_⟩
                                                                        change ev_wp pg_F pg_lay none [] (ev_lu pg_c78) (fun _ => false) _ 1213 8 [some (.ref 0), some (.int 34), some (.int 2), some (.int 2)] [] σ
                                                                        refine ⟨trivial, ?_⟩
                                                                        rintro _ _ ⟨rfl, rfl⟩
                                                                        change ev_wp pg_F pg_lay none [] (ev_lu pg_c78) (fun _ => false) _ 1198 29 [some (.ref 0), some (.int 34), some (.int 2), some (.int 4)] [.int (sp_at σ 4 2)] σ
                                                                        refine ⟨fun (h171 : ((sp_at σ 4 2) &&& 4) = 0) => ?_, fun (h171 : ¬ ((sp_at σ 4 2) &&& 4) = 0) => ?_⟩
                                                                        · skip
                                                                          change ev_wp pg_F pg_lay none [] (ev_lu pg_c78) (fun _ => false) _ 1195 34 [some (.ref 0), some (.int 34), some (.int 2), some (.int 4)] [] σ
                                                                          refine ⟨trivial, ?_⟩
                                                                          rintro _ _ ⟨rfl, rfl⟩
                                                                          change ev_wp pg_F pg_lay none [] (ev_lu pg_c78) (fun _ => false) _ 1186 49 [some (.ref 0), some (.int 34), some (.int 2), some (.int 4)] [.int (sp_at σ 4 2), .int 2, .int 4, .ref 1] σ
                                                                          refine ⟨trivial, ?_⟩
                                                                          rintro _ s174 ⟨v172, k173, rfl⟩
                                                                          have r175 := (sp_w.rf σ).tr k173.2
                                                                          exact ⟨_, rfl, k173.1, Nat.le_of_eq (congrArg Prod.snd r175.2.1), _, ⟨k173.1, r175⟩, rfl⟩
                                                                        · skip
                                                                          change ev_wp pg_F pg_lay none [] (ev_lu pg_c78) (fun _ => false) _ 1195 55 [some (.ref 0), some (.int 34), some (.int 2), some (.int 4)] [] σ
                                                                          refine ⟨fun h => absurd h (by decide), fun _ => ?_⟩
                                                                          change ev_wp pg_F pg_lay none [] (ev_lu pg_c78) (fun _ => false) _ 1190 8 [some (.ref 0), some (.int 35), some (.int 2), some (.int 4)] [] σ
                                                                          refine ⟨trivial, ?_⟩
                                                                          rintro _ _ ⟨rfl, rfl⟩
                                                                          change ev_wp pg_F pg_lay none [] (ev_lu pg_c78) (fun _ => false) _ 1175 29 [some (.ref 0), some (.int 35), some (.int 2), some (.int 8)] [.int (sp_at σ 4 2)] σ
                                                                          refine ⟨fun (h176 : ((sp_at σ 4 2) &&& 8) = 0) => ?_, fun (h176 : ¬ ((sp_at σ 4 2) &&& 8) = 0) => ?_⟩
                                                                          · skip
                                                                            change ev_wp pg_F pg_lay none [] (ev_lu pg_c78) (fun _ => false) _ 1172 34 [some (.ref 0), some (.int 35), some (.int 2), some (.int 8)] [] σ
                                                                            refine ⟨trivial, ?_⟩
                                                                            rintro _ _ ⟨rfl, rfl⟩
                                                                            change ev_wp pg_F pg_lay none [] (ev_lu pg_c78) (fun _ => false) _ 1163 49 [some (.ref 0), some (.int 35), some (.int 2), some (.int 8)] [.int (sp_at σ 4 2), .int 2, .int 4, .ref 1] σ
                                                                            refine ⟨trivial, ?_⟩
                                                                            rintro _ s179 ⟨v177, k178, rfl⟩
                                                                            have r180 := (sp_w.rf σ).tr k178.2
                                                                            exact ⟨_, rfl, k178.1, Nat.le_of_eq (congrArg Prod.snd r180.2.1), _, ⟨k178.1, r180⟩, rfl⟩
                                                                          · skip
                                                                            change ev_wp pg_F pg_lay none [] (ev_lu pg_c78) (fun _ => false) _ 1172 55 [some (.ref 0), some (.int 35), some (.int 2), some (.int 8)] [] σ
                                                                            refine ⟨fun h => absurd h (by decide), fun _ => ?_⟩
                                                                            change ev_wp pg_F pg_lay none [] (ev_lu pg_c78) (fun _ => false) _ 1167 8 [some (.ref 0), some (.int 36), some (.int 2), some (.int 8)] [] σ
                                                                            refine ⟨trivial, ?_⟩
                                                                            rintro _ _ ⟨rfl, rfl⟩
                                                                            change ev_wp pg_F pg_lay none [] (ev_lu pg_c78) (fun _ => false) _ 1152 29 [some (.ref 0), some (.int 36), some (.int 2), some (.int 16)] [.int (sp_at σ 4 2)] σ
                                                                            refine ⟨fun (h181 : ((sp_at σ 4 2) &&& 16) = 0) => ?_, fun (h181 : ¬ ((sp_at σ 4 2) &&& 16) = 0) => ?_⟩
                                                                            · skip
                                                                              change ev_wp pg_F pg_lay none [] (ev_lu pg_c78) (fun _ => false) _ 1149 34 [some (.ref 0), some (.int 36), some (.int 2), some (.int 16)] [] σ
                                                                              refine ⟨trivial, ?_⟩
                                                                              rintro _ _ ⟨rfl, rfl⟩
                                                                              change ev_wp pg_F pg_lay none [] (ev_lu pg_c78) (fun _ => false) _ 1140 49 [some (.ref 0), some (.int 36), some (.int 2), some (.int 16)] [.int (sp_at σ 4 2), .int 2, .int 4, .ref 1] σ
                                                                              refine ⟨trivial, ?_⟩
                                                                              rintro _ s184 ⟨v182, k183, rfl⟩
                                                                              have r185 := (sp_w.rf σ).tr k183.2
                                                                              exact ⟨_, rfl, k183.1, Nat.le_of_eq (congrArg Prod.snd r185.2.1), _, ⟨k183.1, r185⟩, rfl⟩
                                                                            · skip
                                                                              change ev_wp pg_F pg_lay none [] (ev_lu pg_c78) (fun _ => false) _ 1149 55 [some (.ref 0), some (.int 36), some (.int 2), some (.int 16)] [] σ
                                                                              refine ⟨fun h => absurd h (by decide), fun _ => ?_⟩
                                                                              change ev_wp pg_F pg_lay none [] (ev_lu pg_c78) (fun _ => false) _ 1144 8 [some (.ref 0), some (.int 37), some (.int 2), some (.int 16)] [] σ
                                                                              refine ⟨trivial, ?_⟩
                                                                              rintro _ _ ⟨rfl, rfl⟩
                                                                              change ev_wp pg_F pg_lay none [] (ev_lu pg_c78) (fun _ => false) _ 1129 29 [some (.ref 0), some (.int 37), some (.int 2), some (.int 32)] [.int (sp_at σ 4 2)] σ
                                                                              refine ⟨fun (h186 : ((sp_at σ 4 2) &&& 32) = 0) => ?_, fun (h186 : ¬ ((sp_at σ 4 2) &&& 32) = 0) => ?_⟩
                                                                              · skip
                                                                                change ev_wp pg_F pg_lay none [] (ev_lu pg_c78) (fun _ => false) _ 1126 34 [some (.ref 0), some (.int 37), some (.int 2), some (.int 32)] [] σ
                                                                                refine ⟨trivial, ?_⟩
                                                                                rintro _ _ ⟨rfl, rfl⟩
                                                                                change ev_wp pg_F pg_lay none [] (ev_lu pg_c78) (fun _ => false) _ 1117 49 [some (.ref 0), some (.int 37), some (.int 2), some (.int 32)] [.int (sp_at σ 4 2), .int 2, .int 4, .ref 1] σ
                                                                                refine ⟨trivial, ?_⟩
                                                                                rintro _ s189 ⟨v187, k188, rfl⟩
                                                                                have r190 := (sp_w.rf σ).tr k188.2
                                                                                exact ⟨_, rfl, k188.1, Nat.le_of_eq (congrArg Prod.snd r190.2.1), _, ⟨k188.1, r190⟩, rfl⟩
                                                                              · skip
                                                                                change ev_wp pg_F pg_lay none [] (ev_lu pg_c78) (fun _ => false) _ 1126 55 [some (.ref 0), some (.int 37), some (.int 2), some (.int 32)] [] σ
                                                                                refine ⟨fun h => absurd h (by decide), fun _ => ?_⟩
                                                                                change ev_wp pg_F pg_lay none [] (ev_lu pg_c78) (fun _ => false) _ 1121 8 [some (.ref 0), some (.int 38), some (.int 2), some (.int 32)] [] σ
                                                                                refine ⟨trivial, ?_⟩
                                                                                rintro _ _ ⟨rfl, rfl⟩
                                                                                change ev_wp pg_F pg_lay none [] (ev_lu pg_c78) (fun _ => false) _ 1106 29 [some (.ref 0), some (.int 38), some (.int 2), some (.int 64)] [.int (sp_at σ 4 2)] σ
                                                                                refine ⟨fun (h191 : ((sp_at σ 4 2) &&& 64) = 0) => ?_, fun (h191 : ¬ ((sp_at σ 4 2) &&& 64) = 0) => ?_⟩
                                                                                · skip
                                                                                  change ev_wp pg_F pg_lay none [] (ev_lu pg_c78) (fun _ => false) _ 1103 34 [some (.ref 0), some (.int 38), some (.int 2), some (.int 64)] [] σ
                                                                                  refine ⟨trivial, ?_⟩
                                                                                  rintro _ _ ⟨rfl, rfl⟩
                                                                                  change ev_wp pg_F pg_lay none [] (ev_lu pg_c78) (fun _ => false) _ 1094 49 [some (.ref 0), some (.int 38), some (.int 2), some (.int 64)] [.int (sp_at σ 4 2), .int 2, .int 4, .ref 1] σ
                                                                                  refine ⟨trivial, ?_⟩
                                                                                  rintro _ s194 ⟨v192, k193, rfl⟩
                                                                                  have r195 := (sp_w.rf σ).tr k193.2
                                                                                  exact ⟨_, rfl, k193.1, Nat.le_of_eq (congrArg Prod.snd r195.2.1), _, ⟨k193.1, r195⟩, rfl⟩
                                                                                · skip
                                                                                  change ev_wp pg_F pg_lay none [] (ev_lu pg_c78) (fun _ => false) _ 1103 55 [some (.ref 0), some (.int 38), some (.int 2), some (.int 64)] [] σ
                                                                                  refine ⟨fun h => absurd h (by decide), fun _ => ?_⟩
                                                                                  change ev_wp pg_F pg_lay none [] (ev_lu pg_c78) (fun _ => false) _ 1098 8 [some (.ref 0), some (.int 39), some (.int 2), some (.int 64)] [] σ
                                                                                  refine ⟨trivial, ?_⟩
                                                                                  rintro _ _ ⟨rfl, rfl⟩
                                                                                  change ev_wp pg_F pg_lay none [] (ev_lu pg_c78) (fun _ => false) _ 1083 29 [some (.ref 0), some (.int 39), some (.int 2), some (.int 128)] [.int (sp_at σ 4 2)] σ
                                                                                  refine ⟨fun (h196 : ((sp_at σ 4 2) &&& 128) = 0) => ?_, fun (h196 : ¬ ((sp_at σ 4 2) &&& 128) = 0) => ?_⟩
                                                                                  · skip
                                                                                    change ev_wp pg_F pg_lay none [] (ev_lu pg_c78) (fun _ => false) _ 1080 34 [some (.ref 0), some (.int 39), some (.int 2), some (.int 128)] [] σ
                                                                                    refine ⟨trivial, ?_⟩
                                                                                    rintro _ _ ⟨rfl, rfl⟩
                                                                                    change ev_wp pg_F pg_lay none [] (ev_lu pg_c78) (fun _ => false) _ 1071 49 [some (.ref 0), some (.int 39), some (.int 2), some (.int 128)] [.int (sp_at σ 4 2), .int 2, .int 4, .ref 1] σ
                                                                                    refine ⟨trivial, ?_⟩
                                                                                    rintro _ s199 ⟨v197, k198, rfl⟩
                                                                                    have r200 := (sp_w.rf σ).tr k198.2
                                                                                    exact ⟨_, rfl, k198.1, Nat.le_of_eq (congrArg Prod.snd r200.2.1), _, ⟨k198.1, r200⟩, rfl⟩
                                                                                  · skip
                                                                                    change ev_wp pg_F pg_lay none [] (ev_lu pg_c78) (fun _ => false) _ 1080 55 [some (.ref 0), some (.int 39), some (.int 2), some (.int 128)] [] σ
                                                                                    refine ⟨fun h => absurd h (by decide), fun _ => ?_⟩
                                                                                    change ev_wp pg_F pg_lay none [] (ev_lu pg_c78) (fun _ => false) _ 1075 8 [some (.ref 0), some (.int 40), some (.int 2), some (.int 128)] [] σ
                                                                                    refine ⟨trivial, ?_⟩
                                                                                    rintro _ _ ⟨rfl, rfl⟩
                                                                                    change ev_wp pg_F pg_lay none [] (ev_lu pg_c78) (fun _ => false) _ 1060 29 [some (.ref 0), some (.int 40), some (.int 2), some (.int 256)] [.int (sp_at σ 4 2)] σ
                                                                                    refine ⟨fun (h201 : ((sp_at σ 4 2) &&& 256) = 0) => ?_, fun (h201 : ¬ ((sp_at σ 4 2) &&& 256) = 0) => ?_⟩
                                                                                    · skip
                                                                                      change ev_wp pg_F pg_lay none [] (ev_lu pg_c78) (fun _ => false) _ 1057 34 [some (.ref 0), some (.int 40), some (.int 2), some (.int 256)] [] σ
                                                                                      refine ⟨trivial, ?_⟩
                                                                                      rintro _ _ ⟨rfl, rfl⟩
                                                                                      change ev_wp pg_F pg_lay none [] (ev_lu pg_c78) (fun _ => false) _ 1048 49 [some (.ref 0), some (.int 40), some (.int 2), some (.int 256)] [.int (sp_at σ 4 2), .int 2, .int 4, .ref 1] σ
                                                                                      refine ⟨trivial, ?_⟩
                                                                                      rintro _ s204 ⟨v202, k203, rfl⟩
                                                                                      have r205 := (sp_w.rf σ).tr k203.2
                                                                                      exact ⟨_, rfl, k203.1, Nat.le_of_eq (congrArg Prod.snd r205.2.1), _, ⟨k203.1, r205⟩, rfl⟩
                                                                                    · skip
                                                                                      change ev_wp pg_F pg_lay none [] (ev_lu pg_c78) (fun _ => false) _ 1057 55 [some (.ref 0), some (.int 40), some (.int 2), some (.int 256)] [] σ
                                                                                      refine ⟨fun h => absurd h (by decide), fun _ => ?_⟩
                                                                                      change ev_wp pg_F pg_lay none [] (ev_lu pg_c78) (fun _ => false) _ 1052 8 [some (.ref 0), some (.int 41), some (.int 2), some (.int 256)] [] σ
                                                                                      refine ⟨trivial, ?_⟩
                                                                                      rintro _ _ ⟨rfl, rfl⟩
                                                                                      change ev_wp pg_F pg_lay none [] (ev_lu pg_c78) (fun _ => false) _ 1037 29 [some (.ref 0), some (.int 41), some (.int 2), some (.int 512)] [.int (sp_at σ 4 2)] σ
                                                                                      refine ⟨fun (h206 : ((sp_at σ 4 2) &&& 512) = 0) => ?_, fun (h206 : ¬ ((sp_at σ 4 2) &&& 512) = 0) => ?_⟩
                                                                                      · skip
                                                                                        change ev_wp pg_F pg_lay none [] (ev_lu pg_c78) (fun _ => false) _ 1034 34 [some (.ref 0), some (.int 41), some (.int 2), some (.int 512)] [] σ
                                                                                        refine ⟨trivial, ?_⟩
                                                                                        rintro _ _ ⟨rfl, rfl⟩
                                                                                        change ev_wp pg_F pg_lay none [] (ev_lu pg_c78) (fun _ => false) _ 1025 49 [some (.ref 0), some (.int 41), some (.int 2), some (.int 512)] [.int (sp_at σ 4 2), .int 2, .int 4, .ref 1] σ
                                                                                        refine ⟨trivial, ?_⟩
                                                                                        rintro _ s209 ⟨v207, k208, rfl⟩
                                                                                        have r210 := (sp_w.rf σ).tr k208.2
                                                                                        exact ⟨_, rfl, k208.1, Nat.le_of_eq (congrArg Prod.snd r210.2.1), _, ⟨k208.1, r210⟩, rfl⟩
                                                                                      · skip
                                                                                        change ev_wp pg_F pg_lay none [] (ev_lu pg_c78) (fun _ => false) _ 1034 55 [some (.ref 0), some (.int 41), some (.int 2), some (.int 512)] [] σ
                                                                                        refine ⟨fun h => absurd h (by decide), fun _ => ?_⟩
                                                                                        change ev_wp pg_F pg_lay none [] (ev_lu pg_c78) (fun _ => false) _ 1029 8 [some (.ref 0), some (.int 42), some (.int 2), some (.int 512)] [] σ
                                                                                        refine ⟨trivial, ?_⟩
                                                                                        rintro _ _ ⟨rfl, rfl⟩
                                                                                        change ev_wp pg_F pg_lay none [] (ev_lu pg_c78) (fun _ => false) _ 1014 29 [some (.ref 0), some (.int 42), some (.int 2), some (.int 1024)] [.int (sp_at σ 4 2)] σ
                                                                                        refine ⟨fun (h211 : ((sp_at σ 4 2) &&& 1024) = 0) => ?_, fun (h211 : ¬ ((sp_at σ 4 2) &&& 1024) = 0) => ?_⟩
                                                                                        · skip
                                                                                          change ev_wp pg_F pg_lay none [] (ev_lu pg_c78) (fun _ => false) _ 1011 34 [some (.ref 0), some (.int 42), some (.int 2), some (.int 1024)] [] σ
                                                                                          refine ⟨trivial, ?_⟩
                                                                                          rintro _ _ ⟨rfl, rfl⟩
                                                                                          change ev_wp pg_F pg_lay none [] (ev_lu pg_c78) (fun _ => false) _ 1002 49 [some (.ref 0), some (.int 42), some (.int 2), some (.int 1024)] [.int (sp_at σ 4 2), .int 2, .int 4, .ref 1] σ
                                                                                          refine ⟨trivial, ?_⟩
                                                                                          rintro _ s214 ⟨v212, k213, rfl⟩
                                                                                          have r215 := (sp_w.rf σ).tr k213.2
                                                                                          exact ⟨_, rfl, k213.1, Nat.le_of_eq (congrArg Prod.snd r215.2.1), _, ⟨k213.1, r215⟩, rfl⟩
                                                                                        · skip
                                                                                          change ev_wp pg_F pg_lay none [] (ev_lu pg_c78) (fun _ => false) _ 1011 55 [some (.ref 0), some (.int 42), some (.int 2), some (.int 1024)] [] σ
                                                                                          refine ⟨fun h => absurd h (by decide), fun _ => ?_⟩
                                                                                          change ev_wp pg_F pg_lay none [] (ev_lu pg_c78) (fun _ => false) _ 1006 8 [some (.ref 0), some (.int 43), some (.int 2), some (.int 1024)] [] σ
                                                                                          refine ⟨trivial, ?_⟩
                                                                                          rintro _ _ ⟨rfl, rfl⟩
                                                                                          change ev_wp pg_F pg_lay none [] (ev_lu pg_c78) (fun _ => false) _ 991 29 [some (.ref 0), some (.int 43), some (.int 2), some (.int 2048)] [.int (sp_at σ 4 2)] σ
                                                                                          refine ⟨fun (h216 : ((sp_at σ 4 2) &&& 2048) = 0) => ?_, fun (h216 : ¬ ((sp_at σ 4 2) &&& 2048) = 0) => ?_⟩
                                                                                          · skip
                                                                                            change ev_wp pg_F pg_lay none [] (ev_lu pg_c78) (fun _ => false) _ 988 34 [some (.ref 0), some (.int 43), some (.int 2), some (.int 2048)] [] σ
                                                                                            refine ⟨trivial, ?_⟩
                                                                                            rintro _ _ ⟨rfl, rfl⟩
                                                                                            change ev_wp pg_F pg_lay none [] (ev_lu pg_c78) (fun _ => false) _ 979 49 [some (.ref 0), some (.int 43), some (.int 2), some (.int 2048)] [.int (sp_at σ 4 2), .int 2, .int 4, .ref 1] σ
                                                                                            refine ⟨trivial, ?_⟩
                                                                                            rintro _ s219 ⟨v217, k218, rfl⟩
                                                                                            have r220 := (sp_w.rf σ).tr k218.2
                                                                                            exact ⟨_, rfl, k218.1, Nat.le_of_eq (congrArg Prod.snd r220.2.1), _, ⟨k218.1, r220⟩, rfl⟩
                                                                                          · skip
                                                                                            change ev_wp pg_F pg_lay none [] (ev_lu pg_c78) (fun _ => false) _ 988 55 [some (.ref 0), some (.int 43), some (.int 2), some (.int 2048)] [] σ
                                                                                            refine ⟨fun h => absurd h (by decide), fun _ => ?_⟩
                                                                                            change ev_wp pg_F pg_lay none [] (ev_lu pg_c78) (fun _ => false) _ 983 8 [some (.ref 0), some (.int 44), some (.int 2), some (.int 2048)] [] σ
                                                                                            refine ⟨trivial, ?_⟩
                                                                                            rintro _ _ ⟨rfl, rfl⟩
                                                                                            change ev_wp pg_F pg_lay none [] (ev_lu pg_c78) (fun _ => false) _ 968 29 [some (.ref 0), some (.int 44), some (.int 2), some (.int 4096)] [.int (sp_at σ 4 2)] σ
                                                                                            refine ⟨fun (h221 : ((sp_at σ 4 2) &&& 4096) = 0) => ?_, fun (h221 : ¬ ((sp_at σ 4 2) &&& 4096) = 0) => ?_⟩
                                                                                            · skip
                                                                                              change ev_wp pg_F pg_lay none [] (ev_lu pg_c78) (fun _ => false) _ 965 34 [some (.ref 0), some (.int 44), some (.int 2), some (.int 4096)] [] σ
                                                                                              refine ⟨trivial, ?_⟩
                                                                                              rintro _ _ ⟨rfl, rfl⟩
                                                                                              change ev_wp pg_F pg_lay none [] (ev_lu pg_c78) (fun _ => false) _ 956 49 [some (.ref 0), some (.int 44), some (.int 2), some (.int 4096)] [.int (sp_at σ 4 2), .int 2, .int 4, .ref 1] σ
                                                                                              refine ⟨trivial, ?_⟩
                                                                                              rintro _ s224 ⟨v222, k223, rfl⟩
                                                                                              have r225 := (sp_w.rf σ).tr k223.2
                                                                                              exact ⟨_, rfl, k223.1, Nat.le_of_eq (congrArg Prod.snd r225.2.1), _, ⟨k223.1, r225⟩, rfl⟩
                                                                                            · skip
                                                                                              change ev_wp pg_F pg_lay none [] (ev_lu pg_c78) (fun _ => false) _ 965 55 [some (.ref 0), some (.int 44), some (.int 2), some (.int 4096)] [] σ
                                                                                              refine ⟨fun h => absurd h (by decide), fun _ => ?_⟩
                                                                                              change ev_wp pg_F pg_lay none [] (ev_lu pg_c78) (fun _ => false) _ 960 8 [some (.ref 0), some (.int 45), some (.int 2), some (.int 4096)] [] σ
                                                                                              refine ⟨trivial, ?_⟩
                                                                                              rintro _ _ ⟨rfl, rfl⟩
                                                                                              change ev_wp pg_F pg_lay none [] (ev_lu pg_c78) (fun _ => false) _ 945 29 [some (.ref 0), some (.int 45), some (.int 2), some (.int 8192)] [.int (sp_at σ 4 2)] σ
                                                                                              refine ⟨fun (h226 : ((sp_at σ 4 2) &&& 8192) = 0) => ?_, fun (h226 : ¬ ((sp_at σ 4 2) &&& 8192) = 0) => ?_⟩
                                                                                              · skip
                                                                                                change ev_wp pg_F pg_lay none [] (ev_lu pg_c78) (fun _ => false) _ 942 34 [some (.ref 0), some (.int 45), some (.int 2), some (.int 8192)] [] σ
                                                                                                refine ⟨trivial, ?_⟩
                                                                                                rintro _ _ ⟨rfl, rfl⟩
                                                                                                change ev_wp pg_F pg_lay none [] (ev_lu pg_c78) (fun _ => false) _ 933 49 [some (.ref 0), some (.int 45), some (.int 2), some (.int 8192)] [.int (sp_at σ 4 2), .int 2, .int 4, .ref 1] σ
                                                                                                refine ⟨trivial, ?_⟩
                                                                                                rintro _ s229 ⟨v227, k228, rfl⟩
                                                                                                have r230 := (sp_w.rf σ).tr k228.2
                                                                                                exact ⟨_, rfl, k228.1, Nat.le_of_eq (congrArg Prod.snd r230.2.1), _, ⟨k228.1, r230⟩, rfl⟩
                                                                                              · skip
                                                                                                change ev_wp pg_F pg_lay none [] (ev_lu pg_c78) (fun _ => false) _ 942 55 [some (.ref 0), some (.int 45), some (.int 2), some (.int 8192)] [] σ
                                                                                                refine ⟨fun h => absurd h (by decide), fun _ => ?_⟩
                                                                                                change ev_wp pg_F pg_lay none [] (ev_lu pg_c78) (fun _ => false) _ 937 8 [some (.ref 0), some (.int 46), some (.int 2), some (.int 8192)] [] σ
                                                                                                refine ⟨trivial, ?_⟩
                                                                                                rintro _ _ ⟨rfl, rfl⟩
                                                                                                change ev_wp pg_F pg_lay none [] (ev_lu pg_c78) (fun _ => false) _ 922 29 [some (.ref 0), some (.int 46), some (.int 2), some (.int 16384)] [.int (sp_at σ 4 2)] σ
                                                                                                refine ⟨fun (h231 : ((sp_at σ 4 2) &&& 16384) = 0) => ?_, fun (h231 : ¬ ((sp_at σ 4 2) &&& 16384) = 0) => ?_⟩
                                                                                                · skip
                                                                                                  change ev_wp pg_F pg_lay none [] (ev_lu pg_c78) (fun _ => false) _ 919 34 [some (.ref 0), some (.int 46), some (.int 2), some (.int 16384)] [] σ
                                                                                                  refine ⟨trivial, ?_⟩
                                                                                                  rintro _ _ ⟨rfl, rfl⟩
                                                                                                  change ev_wp pg_F pg_lay none [] (ev_lu pg_c78) (fun _ => false) _ 910 49 [some (.ref 0), some (.int 46), some (.int 2), some (.int 16384)] [.int (sp_at σ 4 2), .int 2, .int 4, .ref 1] σ
                                                                                                  refine ⟨trivial, ?_⟩
                                                                                                  rintro _ s234 ⟨v232, k233, rfl⟩
                                                                                                  have r235 := (sp_w.rf σ).tr k233.2
                                                                                                  exact ⟨_, rfl, k233.1, Nat.le_of_eq (congrArg Prod.snd r235.2.1), _, ⟨k233.1, r235⟩, rfl⟩
                                                                                                · skip
                                                                                                  change ev_wp pg_F pg_lay none [] (ev_lu pg_c78) (fun _ => false) _ 919 55 [some (.ref 0), some (.int 46), some (.int 2), some (.int 16384)] [] σ
                                                                                                  refine ⟨fun h => absurd h (by decide), fun _ => ?_⟩
                                                                                                  change ev_wp pg_F pg_lay none [] (ev_lu pg_c78) (fun _ => false) _ 914 8 [some (.ref 0), some (.int 47), some (.int 2), some (.int 16384)] [] σ
                                                                                                  refine ⟨trivial, ?_⟩
                                                                                                  rintro _ _ ⟨rfl, rfl⟩
                                                                                                  change ev_wp pg_F pg_lay none [] (ev_lu pg_c78) (fun _ => false) _ 899 29 [some (.ref 0), some (.int 47), some (.int 2), some (.int 32768)] [.int (sp_at σ 4 2)] σ
                                                                                                  refine ⟨fun (h236 : ((sp_at σ 4 2) &&& 32768) = 0) => ?_, fun (h236 : ¬ ((sp_at σ 4 2) &&& 32768) = 0) => ?_⟩
                                                                                                  · skip
                                                                                                    change ev_wp pg_F pg_lay none [] (ev_lu pg_c78) (fun _ => false) _ 896 34 [some (.ref 0), some (.int 47), some (.int 2), some (.int 32768)] [] σ
                                                                                                    refine ⟨trivial, ?_⟩
                                                                                                    rintro _ _ ⟨rfl, rfl⟩
                                                                                                    change ev_wp pg_F pg_lay none [] (ev_lu pg_c78) (fun _ => false) _ 887 49 [some (.ref 0), some (.int 47), some (.int 2), some (.int 32768)] [.int (sp_at σ 4 2), .int 2, .int 4, .ref 1] σ
                                                                                                    refine ⟨trivial, ?_⟩
                                                                                                    rintro _ s239 ⟨v237, k238, rfl⟩
                                                                                                    have r240 := (sp_w.rf σ).tr k238.2
                                                                                                    exact ⟨_, rfl, k238.1, Nat.le_of_eq (congrArg Prod.snd r240.2.1), _, ⟨k238.1, r240⟩, rfl⟩
                                                                                                  · skip
                                                                                                    change ev_wp pg_F pg_lay none [] (ev_lu pg_c78) (fun _ => false) _ 896 55 [some (.ref 0), some (.int 47), some (.int 2), some (.int 32768)] [] σ
                                                                                                    refine ⟨fun h => absurd h (by decide), fun _ => ?_⟩
                                                                                                    change ev_wp pg_F pg_lay none [] (ev_lu pg_c78) (fun _ => false) _ 891 8 [some (.ref 0), some (.int 48), some (.int 2), some (.int 32768)] [] σ
                                                                                                    refine ⟨trivial, ?_⟩
                                                                                                    rintro _ _ ⟨rfl, rfl⟩
                                                                                                    change ev_wp pg_F pg_lay none [] (ev_lu pg_c78) (fun _ => false) _ 876 29 [some (.ref 0), some (.int 48), some (.int 3), some (.int 1)] [.int (sp_at σ 4 3)] σ
                                                                                                    refine ⟨fun (h241 : ((sp_at σ 4 3) &&& 1) = 0) => ?_, fun (h241 : ¬ ((sp_at σ 4 3) &&& 1) = 0) => ?_⟩
                                                                                                    · skip
                                                                                                      change ev_wp pg_F pg_lay none [] (ev_lu pg_c78) (fun _ => false) _ 873 34 [some (.ref 0), some (.int 48), some (.int 3), some (.int 1)] [] σ
                                                                                                      refine ⟨trivial, ?_⟩
                                                                                                      rintro _ _ ⟨rfl, rfl⟩
                                                                                                      change ev_wp pg_F pg_lay none [] (ev_lu pg_c78) (fun _ => false) _ 864 49 [some (.ref 0), some (.int 48), some (.int 3), some (.int 1)] [.int (sp_at σ 4 3), .int 3, .int 4, .ref 1] σ
                                                                                                      refine ⟨trivial, ?_⟩
                                                                                                      rintro _ s244 ⟨v242, k243, rfl⟩
                                                                                                      have r245 := (sp_w.rf σ).tr k243.2
                                                                                                      exact ⟨_, rfl, k243.1, Nat.le_of_eq (congrArg Prod.snd r245.2.1), _, ⟨k243.1, r245⟩, rfl⟩
                                                                                                    · skip
                                                                                                      change ev_wp pg_F pg_lay none [] (ev_lu pg_c78) (fun _ => false) _ 873 55 [some (.ref 0), some (.int 48), some (.int 3), some (.int 1)] [] σ
                                                                                                      refine ⟨fun h => absurd h (by decide), fun _ => ?_⟩
                                                                                                      change ev_wp pg_F pg_lay none [] (ev_lu pg_c78) (fun _ => false) _ 868 8 [some (.ref 0), some (.int 49), some (.int 3), some (.int 1)] [] σ
                                                                                                      refine ⟨trivial, ?_⟩
                                                                                                      rintro _ _ ⟨rfl, rfl⟩
                                                                                                      change ev_wp pg_F pg_lay none [] (ev_lu pg_c78) (fun _ => false) _ 853 29 [some (.ref 0), some (.int 49), some (.int 3), some (.int 2)] [.int (sp_at σ 4 3)] σ
                                                                                                      refine ⟨fun (h246 : ((sp_at σ 4 3) &&& 2) = 0) => ?_, fun (h246 : ¬ ((sp_at σ 4 3) &&& 2) = 0) => ?_⟩
                                                                                                      · skip
                                                                                                        change ev_wp pg_F pg_lay none [] (ev_lu pg_c78) (fun _ => false) _ 850 34 [some (.ref 0), some (.int 49), some (.int 3), some (.int 2)] [] σ
                                                                                                        refine ⟨trivial, ?_⟩
                                                                                                        rintro _ _ ⟨rfl, rfl⟩
                                                                                                        change ev_wp pg_F pg_lay none [] (ev_lu pg_c78) (fun _ => false) _ 841 49 [some (.ref 0), some (.int 49), some (.int 3), some (.int 2)] [.int (sp_at σ 4 3), .int 3, .int 4, .ref 1] σ
                                                                                                        refine ⟨trivial, ?_⟩
                                                                                                        rintro _ s249 ⟨v247, k248, rfl⟩
                                                                                                        have r250 := (sp_w.rf σ).tr k248.2
                                                                                                        exact ⟨_, rfl, k248.1, Nat.le_of_eq (congrArg Prod.snd r250.2.1), _, ⟨k248.1, r250⟩, rfl⟩
                                                                                                      · skip
                                                                                                        change ev_wp pg_F pg_lay none [] (ev_lu pg_c78) (fun _ => false) _ 850 55 [some (.ref 0), some (.int 49), some (.int 3), some (.int 2)] [] σ
                                                                                                        refine ⟨fun h => absurd h (by decide), fun _ => ?_⟩
                                                                                                        change ev_wp pg_F pg_lay none [] (ev_lu pg_c78) (fun _ => false) _ 845 8 [some (.ref 0), some (.int 50), some (.int 3), some (.int 2)] [] σ
                                                                                                        refine ⟨trivial, ?_⟩
                                                                                                        rintro _ _ ⟨rfl, rfl⟩
                                                                                                        change ev_wp pg_F pg_lay none [] (ev_lu pg_c78) (fun _ => false) _ 830 29 [some (.ref 0), some (.int 50), some (.int 3), some (.int 4)] [.int (sp_at σ 4 3)] σ
                                                                                                        refine ⟨fun (h251 : ((sp_at σ 4 3) &&& 4) = 0) => ?_, fun (h251 : ¬ ((sp_at σ 4 3) &&& 4) = 0) => ?_⟩
                                                                                                        · skip
                                                                                                          change ev_wp pg_F pg_lay none [] (ev_lu pg_c78) (fun _ => false) _ 827 34 [some (.ref 0), some (.int 50), some (.int 3), some (.int 4)] [] σ
                                                                                                          refine ⟨trivial, ?_⟩
                                                                                                          rintro _ _ ⟨rfl, rfl⟩
                                                                                                          change ev_wp pg_F pg_lay none [] (ev_lu pg_c78) (fun _ => false) _ 818 49 [some (.ref 0), some (.int 50), some (.int 3), some (.int 4)] [.int (sp_at σ 4 3), .int 3, .int 4, .ref 1] σ
                                                                                                          refine ⟨trivial, ?_⟩
                                                                                                          rintro _ s254 ⟨v252, k253, rfl⟩
                                                                                                          have r255 := (sp_w.rf σ).tr k253.2
                                                                                                          exact ⟨_, rfl, k253.1, Nat.le_of_eq (congrArg Prod.snd r255.2.1), _, ⟨k253.1, r255⟩, rfl⟩
                                                                                                        · skip
                                                                                                          change ev_wp pg_F pg_lay none [] (ev_lu pg_c78) (fun _ => false) _ 827 55 [some (.ref 0), some (.int 50), some (.int 3), some (.int 4)] [] σ
                                                                                                          refine ⟨fun h => absurd h (by decide), fun _ => ?_⟩
                                                                                                          change ev_wp pg_F pg_lay none [] (ev_lu pg_c78) (fun _ => false) _ 822 8 [some (.ref 0), some (.int 51), some (.int 3), some (.int 4)] [] σ
                                                                                                          refine ⟨trivial, ?_⟩
                                                                                                          rintro _ _ ⟨rfl, rfl⟩
                                                                                                          change ev_wp pg_F pg_lay none [] (ev_lu pg_c78) (fun _ => false) _ 807 29 [some (.ref 0), some (.int 51), some (.int 3), some (.int 8)] [.int (sp_at σ 4 3)] σ
                                                                                                          refine ⟨fun (h256 : ((sp_at σ 4 3) &&& 8) = 0) => ?_, fun (h256 : ¬ ((sp_at σ 4 3) &&& 8) = 0) => ?_⟩
                                                                                                          · skip
                                                                                                            change ev_wp pg_F pg_lay none [] (ev_lu pg_c78) (fun _ => false) _ 804 34 [some (.ref 0), some (.int 51), some (.int 3), some (.int 8)] [] σ
                                                                                                            refine ⟨trivial, ?_⟩
                                                                                                            rintro _ _ ⟨rfl, rfl⟩
                                                                                                            change ev_wp pg_F pg_lay none [] (ev_lu pg_c78) (fun _ => false) _ 795 49 [some (.ref 0), some (.int 51), some (.int 3), some (.int 8)] [.int (sp_at σ 4 3), .int 3, .int 4, .ref 1] σ
                                                                                                            refine ⟨trivial, ?_⟩
                                                                                                            rintro _ s259 ⟨v257, k258, rfl⟩
                                                                                                            have r260 := (sp_w.rf σ).tr k258.2
                                                                                                            exact ⟨_, rfl, k258.1, Nat.le_of_eq (congrArg Prod.snd r260.2.1), _, ⟨k258.1, r260⟩, rfl⟩
                                                                                                          · skip
                                                                                                            change ev_wp pg_F pg_lay none [] (ev_lu pg_c78) (fun _ => false) _ 804 55 [some (.ref 0), some (.int 51), some (.int 3), some (.int 8)] [] σ
                                                                                                            refine ⟨fun h => absurd h (by decide), fun _ => ?_⟩
                                                                                                            change ev_wp pg_F pg_lay none [] (ev_lu pg_c78) (fun _ => false) _ 799 8 [some (.ref 0), some (.int 52), some (.int 3), some (.int 8)] [] σ
                                                                                                            refine ⟨trivial, ?_⟩
                                                                                                            rintro _ _ ⟨rfl, rfl⟩
                                                                                                            change ev_wp pg_F pg_lay none [] (ev_lu pg_c78) (fun _ => false) _ 784 29 [some (.ref 0), some (.int 52), some (.int 3), some (.int 16)] [.int (sp_at σ 4 3)] σ
                                                                                                            refine ⟨fun (h261 : ((sp_at σ 4 3) &&& 16) = 0) => ?_, fun (h261 : ¬ ((sp_at σ 4 3) &&& 16) = 0) => ?_⟩
                                                                                                            · skip
                                                                                                              change ev_wp pg_F pg_lay none [] (ev_lu pg_c78) (fun _ => false) _ 781 34 [some (.ref 0), some (.int 52), some (.int 3), some (.int 16)] [] σ
                                                                                                              refine ⟨trivial, ?_⟩
                                                                                                              rintro _ _ ⟨rfl, rfl⟩
                                                                                                              change ev_wp pg_F pg_lay none [] (ev_lu pg_c78) (fun _ => false) _ 772 49 [some (.ref 0), some (.int 52), some (.int 3), some (.int 16)] [.int (sp_at σ 4 3), .int 3, .int 4, .ref 1] σ
                                                                                                              refine ⟨trivial, ?_⟩
                                                                                                              rintro _ s264 ⟨v262, k263, rfl⟩
                                                                                                              have r265 := (sp_w.rf σ).tr k263.2
                                                                                                              exact ⟨_, rfl, k263.1, Nat.le_of_eq (congrArg Prod.snd r265.2.1), _, ⟨k263.1, r265⟩, rfl⟩
                                                                                                            · skip
                                                                                                              change ev_wp pg_F pg_lay none [] (ev_lu pg_c78) (fun _ => false) _ 781 55 [some (.ref 0), some (.int 52), some (.int 3), some (.int 16)] [] σ
                                                                                                              refine ⟨fun h => absurd h (by decide), fun _ => ?_⟩
                                                                                                              change ev_wp pg_F pg_lay none [] (ev_lu pg_c78) (fun _ => false) _ 776 8 [some (.ref 0), some (.int 53), some (.int 3), some (.int 16)] [] σ
                                                                                                              refine ⟨trivial, ?_⟩
                                                                                                              rintro _ _ ⟨rfl, rfl⟩
                                                                                                              change ev_wp pg_F pg_lay none [] (ev_lu pg_c78) (fun _ => false) _ 761 29 [some (.ref 0), some (.int 53), some (.int 3), some (.int 32)] [.int (sp_at σ 4 3)] σ
                                                                                                              refine ⟨fun (h266 : ((sp_at σ 4 3) &&& 32) = 0) => ?_, fun (h266 : ¬ ((sp_at σ 4 3) &&& 32) = 0) => ?_⟩
                                                                                                              · skip
                                                                                                                change ev_wp pg_F pg_lay none [] (ev_lu pg_c78) (fun _ => false) _ 758 34 [some (.ref 0), some (.int 53), some (.int 3), some (.int 32)] [] σ
                                                                                                                refine ⟨trivial, ?_⟩
                                                                                                                rintro _ _ ⟨rfl, rfl⟩
                                                                                                                change ev_wp pg_F pg_lay none [] (ev_lu pg_c78) (fun _ => false) _ 749 49 [some (.ref 0), some (.int 53), some (.int 3), some (.int 32)] [.int (sp_at σ 4 3), .int 3, .int 4, .ref 1] σ
                                                                                                                refine ⟨trivial, ?_⟩
                                                                                                                rintro _ s269 ⟨v267, k268, rfl⟩
                                                                                                                have r270 := (sp_w.rf σ).tr k268.2
                                                                                                                exact ⟨_, rfl, k268.1, Nat.le_of_eq (congrArg Prod.snd r270.2.1), _, ⟨k268.1, r270⟩, rfl⟩
                                                                                                              · skip
                                                                                                                change ev_wp pg_F pg_lay none [] (ev_lu pg_c78) (fun _ => false) _ 758 55 [some (.ref 0), some (.int 53), some (.int 3), some (.int 32)] [] σ
                                                                                                                refine ⟨fun h => absurd h (by decide), fun _ => ?_⟩
                                                                                                                change ev_wp pg_F pg_lay none [] (ev_lu pg_c78) (fun _ => false) _ 753 8 [some (.ref 0), some (.int 54), some (.int 3), some (.int 32)] [] σ
                                                                                                                refine ⟨trivial, ?_⟩
                                                                                                                rintro _ _ ⟨rfl, rfl⟩
                                                                                                                change ev_wp pg_F pg_lay none [] (ev_lu pg_c78) (fun _ => false) _ 738 29 [some (.ref 0), some (.int 54), some (.int 3), some (.int 64)] [.int (sp_at σ 4 3)] σ
                                                                                                                refine ⟨fun (h271 : ((sp_at σ 4 3) &&& 64) = 0) => ?_, fun (h271 : ¬ ((sp_at σ 4 3) &&& 64) = 0) => ?_⟩
                                                                                                                · skip
                                                                                                                  change ev_wp pg_F pg_lay none [] (ev_lu pg_c78) (fun _ => false) _ 735 34 [some (.ref 0), some (.int 54), some (.int 3), some (.int 64)] [] σ
                                                                                                                  refine ⟨trivial, ?_⟩
                                                                                                                  rintro _ _ ⟨rfl, rfl⟩
                                                                                                                  change ev_wp pg_F pg_lay none [] (ev_lu pg_c78) (fun _ => false) _ 726 49 [some (.ref 0), some (.int 54), some (.int 3), some (.int 64)] [.int (sp_at σ 4 3), .int 3, .int 4, .ref 1] σ
                                                                                                                  refine ⟨trivial, ?_⟩
                                                                                                                  rintro _ s274 ⟨v272, k273, rfl⟩
                                                                                                                  have r275 := (sp_w.rf σ).tr k273.2
                                                                                                                  exact ⟨_, rfl, k273.1, Nat.le_of_eq (congrArg Prod.snd r275.2.1), _, ⟨k273.1, r275⟩, rfl⟩
                                                                                                                · skip
                                                                                                                  change ev_wp pg_F pg_lay none [] (ev_lu pg_c78) (fun _ => false) _ 735 55 [some (.ref 0), some (.int 54), some (.int 3), some (.int 64)] [] σ
                                                                                                                  refine ⟨fun h => absurd h (by decide), fun _ => ?_⟩
                                                                                                                  change ev_wp pg_F pg_lay none [] (ev_lu pg_c78) (fun _ => false) _ 730 8 [some (.ref 0), some (.int 55), some (.int 3), some (.int 64)] [] σ
                                                                                                                  refine ⟨trivial, ?_⟩
                                                                                                                  rintro _ _ ⟨rfl, rfl⟩
                                                                                                                  change ev_wp pg_F pg_lay none [] (ev_lu pg_c78) (fun _ => false) _ 715 29 [some (.ref 0), some (.int 55), some (.int 3), some (.int 128)] [.int (sp_at σ 4 3)] σ
                                                                                                                  refine ⟨fun (h276 : ((sp_at σ 4 3) &&& 128) = 0) => ?_, fun (h276 : ¬ ((sp_at σ 4 3) &&& 128) = 0) => ?_⟩
                                                                                                                  · skip
                                                                                                                    change ev_wp pg_F pg_lay none [] (ev_lu pg_c78) (fun _ => false) _ 712 34 [some (.ref 0), some (.int 55), some (.int 3), some (.int 128)] [] σ
                                                                                                                    refine ⟨trivial, ?_⟩
                                                                                                                    rintro _ _ ⟨rfl, rfl⟩
                                                                                                                    change ev_wp pg_F pg_lay none [] (ev_lu pg_c78) (fun _ => false) _ 703 49 [some (.ref 0), some (.int 55), some (.int 3), some (.int 128)] [.int (sp_at σ 4 3), .int 3, .int 4, .ref 1] σ
                                                                                                                    refine ⟨trivial, ?_⟩
                                                                                                                    rintro _ s279 ⟨v277, k278, rfl⟩
                                                                                                                    have r280 := (sp_w.rf σ).tr k278.2
                                                                                                                    exact ⟨_, rfl, k278.1, Nat.le_of_eq (congrArg Prod.snd r280.2.1), _, ⟨k278.1, r280⟩, rfl⟩
                                                                                                                  · skip
                                                                                                                    change ev_wp pg_F pg_lay none [] (ev_lu pg_c78) (fun _ => false) _ 712 55 [some (.ref 0), some (.int 55), some (.int 3), some (.int 128)] [] σ
                                                                                                                    refine ⟨fun h => absurd h (by decide), fun _ => ?_⟩
                                                                                                                    change ev_wp pg_F pg_lay none [] (ev_lu pg_c78) (fun _ => false) _ 707 8 [some (.ref 0), some (.int 56), some (.int 3), some (.int 128)] [] σ
                                                                                                                    refine ⟨trivial, ?_⟩
                                                                                                                    rintro _ _ ⟨rfl, rfl⟩
                                                                                                                    change ev_wp pg_F pg_lay none [] (ev_lu pg_c78) (fun _ => false) _ 692 29 [some (.ref 0), some (.int 56), some (.int 3), some (.int 256)] [.int (sp_at σ 4 3)] σ
                                                                                                                    refine ⟨fun (h281 : ((sp_at σ 4 3) &&& 256) = 0) => ?_, fun (h281 : ¬ ((sp_at σ 4 3) &&& 256) = 0) => ?_⟩
                                                                                                                    · skip
                                                                                                                      change ev_wp pg_F pg_lay none [] (ev_lu pg_c78) (fun _ => false) _ 689 34 [some (.ref 0), some (.int 56), some (.int 3), some (.int 256)] [] σ
                                                                                                                      refine ⟨trivial, ?_⟩
                                                                                                                      rintro _ _ ⟨rfl, rfl⟩
                                                                                                                      change ev_wp pg_F pg_lay none [] (ev_lu pg_c78) (fun _ => false) _ 680 49 [some (.ref 0), some (.int 56), some (.int 3), some (.int 256)] [.int (sp_at σ 4 3), .int 3, .int 4, .ref 1] σ
                                                                                                                      refine ⟨trivial, ?_⟩
                                                                                                                      rintro _ s284 ⟨v282, k283, rfl⟩
                                                                                                                      have r285 := (sp_w.rf σ).tr k283.2
                                                                                                                      exact ⟨_, rfl, k283.1, Nat.le_of_eq (congrArg Prod.snd r285.2.1), _, ⟨k283.1, r285⟩, rfl⟩
                                                                                                                    · skip
                                                                                                                      change ev_wp pg_F pg_lay none [] (ev_lu pg_c78) (fun _ => false) _ 689 55 [some (.ref 0), some (.int 56), some (.int 3), some (.int 256)] [] σ
                                                                                                                      refine ⟨fun h => absurd h (by decide), fun _ => ?_⟩
                                                                                                                      change ev_wp pg_F pg_lay none [] (ev_lu pg_c78) (fun _ => false) _ 684 8 [some (.ref 0), some (.int 57), some (.int 3), some (.int 256)] [] σ
                                                                                                                      refine ⟨trivial, ?_⟩
                                                                                                                      rintro _ _ ⟨rfl, rfl⟩
                                                                                                                      change ev_wp pg_F pg_lay none [] (ev_lu pg_c78) (fun _ => false) _ 669 29 [some (.ref 0), some (.int 57), some (.int 3), some (.int 512)] [.int (sp_at σ 4 3)] σ
                                                                                                                      refine ⟨fun (h286 : ((sp_at σ 4 3) &&& 512) = 0) => ?_, fun (h286 : ¬ ((sp_at σ 4 3) &&& 512) = 0) => ?_⟩
                                                                                                                      · skip
                                                                                                                        change ev_wp pg_F pg_lay none [] (ev_lu pg_c78) (fun _ => false) _ 666 34 [some (.ref 0), some (.int 57), some (.int 3), some (.int 512)] [] σ
                                                                                                                        refine ⟨trivial, ?_⟩
                                                                                                                        rintro _ _ ⟨rfl, rfl⟩
                                                                                                                        change ev_wp pg_F pg_lay none [] (ev_lu pg_c78) (fun _ => false) _ 657 49 [some (.ref 0), some (.int 57), some (.int 3), some (.int 512)] [.int (sp_at σ 4 3), .int 3, .int 4, .ref 1] σ
                                                                                                                        refine ⟨trivial, ?_⟩
                                                                                                                        rintro _ s289 ⟨v287, k288, rfl⟩
                                                                                                                        have r290 := (sp_w.rf σ).tr k288.2
                                                                                                                        exact ⟨_, rfl, k288.1, Nat.le_of_eq (congrArg Prod.snd r290.2.1), _, ⟨k288.1, r290⟩, rfl⟩
                                                                                                                      · skip
                                                                                                                        change ev_wp pg_F pg_lay none [] (ev_lu pg_c78) (fun _ => false) _ 666 55 [some (.ref 0), some (.int 57), some (.int 3), some (.int 512)] [] σ
                                                                                                                        refine ⟨fun h => absurd h (by decide), fun _ => ?_⟩
                                                                                                                        change ev_wp pg_F pg_lay none [] (ev_lu pg_c78) (fun _ => false) _ 661 8 [some (.ref 0), some (.int 58), some (.int 3), some (.int 512)] [] σ
                                                                                                                        refine ⟨trivial, ?_⟩
                                                                                                                        rintro _ _ ⟨rfl, rfl⟩
                                                                                                                        change ev_wp pg_F pg_lay none [] (ev_lu pg_c78) (fun _ => false) _ 646 29 [some (.ref 0), some (.int 58), some (.int 3), some (.int 1024)] [.int (sp_at σ 4 3)] σ
                                                                                                                        refine ⟨fun (h291 : ((sp_at σ 4 3) &&& 1024) = 0) => ?_, fun (h291 : ¬ ((sp_at σ 4 3) &&& 1024) = 0) => ?_⟩
                                                                                                                        · skip
                                                                                                                          change ev_wp pg_F pg_lay none [] (ev_lu pg_c78) (fun _ => false) _ 643 34 [some (.ref 0), some (.int 58), some (.int 3), some (.int 1024)] [] σ
                                                                                                                          refine ⟨trivial, ?_⟩
                                                                                                                          rintro _ _ ⟨rfl, rfl⟩
                                                                                                                          change ev_wp pg_F pg_lay none [] (ev_lu pg_c78) (fun _ => false) _ 634 49 [some (.ref 0), some (.int 58), some (.int 3), some (.int 1024)] [.int (sp_at σ 4 3), .int 3, .int 4, .ref 1] σ
                                                                                                                          refine ⟨trivial, ?_⟩
                                                                                                                          rintro _ s294 ⟨v292, k293, rfl⟩
                                                                                                                          have r295 := (sp_w.rf σ).tr k293.2
                                                                                                                          exact ⟨_, rfl, k293.1, Nat.le_of_eq (congrArg Prod.snd r295.2.1), _, ⟨k293.1, r295⟩, rfl⟩
                                                                                                                        · skip
                                                                                                                          change ev_wp pg_F pg_lay none [] (ev_lu pg_c78) (fun _ => false) _ 643 55 [some (.ref 0), some (.int 58), some (.int 3), some (.int 1024)] [] σ
                                                                                                                          refine ⟨fun h => absurd h (by decide), fun _ => ?_⟩
                                                                                                                          change ev_wp pg_F pg_lay none [] (ev_lu pg_c78) (fun _ => false) _ 638 8 [some (.ref 0), some (.int 59), some (.int 3), some (.int 1024)] [] σ
                                                                                                                          refine ⟨trivial, ?_⟩
                                                                                                                          rintro _ _ ⟨rfl, rfl⟩
                                                                                                                          change ev_wp pg_F pg_lay none [] (ev_lu pg_c78) (fun _ => false) _ 623 29 [some (.ref 0), some (.int 59), some (.int 3), some (.int 2048)] [.int (sp_at σ 4 3)] σ
                                                                                                                          refine ⟨fun (h296 : ((sp_at σ 4 3) &&& 2048) = 0) => ?_, fun (h296 : ¬ ((sp_at σ 4 3) &&& 2048) = 0) => ?_⟩
                                                                                                                          · skip
                                                                                                                            change ev_wp pg_F pg_lay none [] (ev_lu pg_c78) (fun _ => false) _ 620 34 [some (.ref 0), some (.int 59), some (.int 3), some (.int 2048)] [] σ
                                                                                                                            refine ⟨trivial, ?_⟩
                                                                                                                            rintro _ _ ⟨rfl, rfl⟩
                                                                                                                            change ev_wp pg_F pg_lay none [] (ev_lu pg_c78) (fun _ => false) _ 611 49 [some (.ref 0), some (.int 59), some (.int 3), some (.int 2048)] [.int (sp_at σ 4 3), .int 3, .int 4, .ref 1] σ
                                                                                                                            refine ⟨trivial, ?_⟩
                                                                                                                            rintro _ s299 ⟨v297, k298, rfl⟩
                                                                                                                            have r300 := (sp_w.rf σ).tr k298.2
                                                                                                                            exact ⟨_, rfl, k298.1, Nat.le_of_eq (congrArg Prod.snd r300.2.1), _, ⟨k298.1, r300⟩, rfl⟩
                                                                                                                          · skip
                                                                                                                            change ev_wp pg_F pg_lay none [] (ev_lu pg_c78) (fun _ => false) _ 620 55 [some (.ref 0), some (.int 59), some (.int 3), some (.int 2048)] [] σ
                                                                                                                            refine ⟨fun h => absurd h (by decide), fun _ => ?_⟩
                                                                                                                            change ev_wp pg_F pg_lay none [] (ev_lu pg_c78) (fun _ => false) _ 615 8 [some (.ref 0), some (.int 60), some (.int 3), some (.int 2048)] [] σ
                                                                                                                            refine ⟨trivial, ?_⟩
                                                                                                                            rintro _ _ ⟨rfl, rfl⟩
                                                                                                                            change ev_wp pg_F pg_lay none [] (ev_lu pg_c78) (fun _ => false) _ 600 29 [some (.ref 0), some (.int 60), some (.int 3), some (.int 4096)] [.int (sp_at σ 4 3)] σ
                                                                                                                            refine ⟨fun (h301 : ((sp_at σ 4 3) &&& 4096) = 0) => ?_, fun (h301 : ¬ ((sp_at σ 4 3) &&& 4096) = 0) => ?_⟩
                                                                                                                            · skip
                                                                                                                              change ev_wp pg_F pg_lay none [] (ev_lu pg_c78) (fun _ => false) _ 597 34 [some (.ref 0), some (.int 60), some (.int 3), some (.int 4096)] [] σ
                                                                                                                              refine ⟨trivial, ?_⟩
                                                                                                                              rintro _ _ ⟨rfl, rfl⟩
                                                                                                                              change ev_wp pg_F pg_lay none [] (ev_lu pg_c78) (fun _ => false) _ 588 49 [some (.ref 0), some (.int 60), some (.int 3), some (.int 4096)] [.int (sp_at σ 4 3), .int 3, .int 4, .ref 1] σ
                                                                                                                              refine ⟨trivial, ?_⟩
                                                                                                                              rintro _ s304 ⟨v302, k303, rfl⟩
                                                                                                                              have r305 := (sp_w.rf σ).tr k303.2
                                                                                                                              exact ⟨_, rfl, k303.1, Nat.le_of_eq (congrArg Prod.snd r305.2.1), _, ⟨k303.1, r305⟩, rfl⟩
                                                                                                                            · skip
                                                                                                                              change ev_wp pg_F pg_lay none [] (ev_lu pg_c78) (fun _ => false) _ 597 55 [some (.ref 0), some (.int 60), some (.int 3), some (.int 4096)] [] σ
                                                                                                                              refine ⟨fun h => absurd h (by decide), fun _ => ?_⟩
                                                                                                                              change ev_wp pg_F pg_lay none [] (ev_lu pg_c78) (fun _ => false) _ 592 8 [some (.ref 0), some (.int 61), some (.int 3), some (.int 4096)] [] σ
                                                                                                                              refine ⟨trivial, ?_⟩
                                                                                                                              rintro _ _ ⟨rfl, rfl⟩
                                                                                                                              change ev_wp pg_F pg_lay none [] (ev_lu pg_c78) (fun _ => false) _ 577 29 [some (.ref 0), some (.int 61), some (.int 3), some (.int 8192)] [.int (sp_at σ 4 3)] σ
                                                                                                                              refine ⟨fun (h306 : ((sp_at σ 4 3) &&& 8192) = 0) => ?_, fun (h306 : ¬ ((sp_at σ 4 3) &&& 8192) = 0) => ?_⟩
                                                                                                                              · skip
                                                                                                                                change ev_wp pg_F pg_lay none [] (ev_lu pg_c78) (fun _ => false) _ 574 34 [some (.ref 0), some (.int 61), some (.int 3), some (.int 8192)] [] σ
                                                                                                                                refine ⟨trivial, ?_⟩
                                                                                                                                rintro _ _ ⟨rfl, rfl⟩
                                                                                                                                change ev_wp pg_F pg_lay none [] (ev_lu pg_c78) (fun _ => false) _ 565 49 [some (.ref 0), some (.int 61), some (.int 3), some (.int 8192)] [.int (sp_at σ 4 3), .int 3, .int 4, .ref 1] σ
                                                                                                                                refine ⟨trivial, ?_⟩
                                                                                                                                rintro _ s309 ⟨v307, k308, rfl⟩
                                                                                                                                have r310 := (sp_w.rf σ).tr k308.2
                                                                                                                                exact ⟨_, rfl, k308.1, Nat.le_of_eq (congrArg Prod.snd r310.2.1), _, ⟨k308.1, r310⟩, rfl⟩
                                                                                                                              · skip
                                                                                                                                change ev_wp pg_F pg_lay none [] (ev_lu pg_c78) (fun _ => false) _ 574 55 [some (.ref 0), some (.int 61), some (.int 3), some (.int 8192)] [] σ
                                                                                                                                refine ⟨fun h => absurd h (by decide), fun _ => ?_⟩
                                                                                                                                change ev_wp pg_F pg_lay none [] (ev_lu pg_c78) (fun _ => false) _ 569 8 [some (.ref 0), some (.int 62), some (.int 3), some (.int 8192)] [] σ
                                                                                                                                refine ⟨trivial, ?_⟩
                                                                                                                                rintro _ _ ⟨rfl, rfl⟩
                                                                                                                                change ev_wp pg_F pg_lay none [] (ev_lu pg_c78) (fun _ => false) _ 554 29 [some (.ref 0), some (.int 62), some (.int 3), some (.int 16384)] [.int (sp_at σ 4 3)] σ
                                                                                                                                refine ⟨fun (h311 : ((sp_at σ 4 3) &&& 16384) = 0) => ?_, fun (h311 : ¬ ((sp_at σ 4 3) &&& 16384) = 0) => ?_⟩
                                                                                                                                · skip
                                                                                                                                  change ev_wp pg_F pg_lay none [] (ev_lu pg_c78) (fun _ => false) _ 551 34 [some (.ref 0), some (.int 62), some (.int 3), some (.int 16384)] [] σ
                                                                                                                                  refine ⟨trivial, ?_⟩
                                                                                                                                  rintro _ _ ⟨rfl, rfl⟩
                                                                                                                                  change ev_wp pg_F pg_lay none [] (ev_lu pg_c78) (fun _ => false) _ 542 49 [some (.ref 0), some (.int 62), some (.int 3), some (.int 16384)] [.int (sp_at σ 4 3), .int 3, .int 4, .ref 1] σ
                                                                                                                                  refine ⟨trivial, ?_⟩
                                                                                                                                  rintro _ s314 ⟨v312, k313, rfl⟩
                                                                                                                                  have r315 := (sp_w.rf σ).tr k313.2
                                                                                                                                  exact ⟨_, rfl, k313.1, Nat.le_of_eq (congrArg Prod.snd r315.2.1), _, ⟨k313.1, r315⟩, rfl⟩
                                                                                                                                · skip
                                                                                                                                  change ev_wp pg_F pg_lay none [] (ev_lu pg_c78) (fun _ => false) _ 551 55 [some (.ref 0), some (.int 62), some (.int 3), some (.int 16384)] [] σ
                                                                                                                                  refine ⟨fun h => absurd h (by decide), fun _ => ?_⟩
                                                                                                                                  change ev_wp pg_F pg_lay none [] (ev_lu pg_c78) (fun _ => false) _ 546 8 [some (.ref 0), some (.int 63), some (.int 3), some (.int 16384)] [] σ
                                                                                                                                  refine ⟨trivial, ?_⟩
                                                                                                                                  rintro _ _ ⟨rfl, rfl⟩
                                                                                                                                  change ev_wp pg_F pg_lay none [] (ev_lu pg_c78) (fun _ => false) _ 531 29 [some (.ref 0), some (.int 63), some (.int 3), some (.int 32768)] [.int (sp_at σ 4 3)] σ
                                                                                                                                  refine ⟨fun (h316 : ((sp_at σ 4 3) &&& 32768) = 0) => ?_, fun (h316 : ¬ ((sp_at σ 4 3) &&& 32768) = 0) => ?_⟩
                                                                                                                                  · skip
                                                                                                                                    change ev_wp pg_F pg_lay none [] (ev_lu pg_c78) (fun _ => false) _ 528 34 [some (.ref 0), some (.int 63), some (.int 3), some (.int 32768)] [] σ
                                                                                                                                    refine ⟨trivial, ?_⟩
                                                                                                                                    rintro _ _ ⟨rfl, rfl⟩
                                                                                                                                    change ev_wp pg_F pg_lay none [] (ev_lu pg_c78) (fun _ => false) _ 519 49 [some (.ref 0), some (.int 63), some (.int 3), some (.int 32768)] [.int (sp_at σ 4 3), .int 3, .int 4, .ref 1] σ
                                                                                                                                    refine ⟨trivial, ?_⟩
                                                                                                                                    rintro _ s319 ⟨v317, k318, rfl⟩
                                                                                                                                    have r320 := (sp_w.rf σ).tr k318.2
                                                                                                                                    exact ⟨_, rfl, k318.1, Nat.le_of_eq (congrArg Prod.snd r320.2.1), _, ⟨k318.1, r320⟩, rfl⟩
                                                                                                                                  · skip
                                                                                                                                    change ev_wp pg_F pg_lay none [] (ev_lu pg_c78) (fun _ => false) _ 528 55 [some (.ref 0), some (.int 63), some (.int 3), some (.int 32768)] [] σ
                                                                                                                                    refine ⟨fun _ => ?_, fun h => absurd (by decide) h⟩
                                                                                                                                    change ev_wp pg_F pg_lay none [] (ev_lu pg_c78) (fun _ => false) _ 523 61 [some (.ref 0), some (.int 64), some (.int 3), some (.int 32768)] [] σ
                                                                                                                                    exact ⟨_, rfl, by first | exact Or.inl rfl | exact Or.inr rfl, Nat.le_of_eq (congrArg Prod.snd (sp_w.rf σ).2.1), _, ⟨by first | exact Or.inl rfl | exact Or.inr rfl, (sp_w.rf σ)⟩, rfl⟩
  · cases h
theorem pr_87 : pg_Rn pg_F 87 pg_y87 [] pg_t87 := by
  intro vs σ P h hp
  replace h : pf_87 vs σ = some P := h
  unfold pf_87 at h
  split at h
  · rename_i a b c
    cases h
    refine ⟨by simp [Value.category], Nat.le_of_ble_eq_true rfl, ev_go pg_hhs pg_cd pg_o87 (fun _ => false) 2000 (Q1 := ev_at (ev_tl pg_t87) σ.2.2 (sp_i True (fun _ => True) σ).2) ?_ (fun _ _ _ _ h => ev_fin h)⟩
    change ev_wp pg_F pg_lay none [] (ev_lu pg_c87) (fun _ => false) _ 2000 0 [some (.ref 0), some (.int a), some (.int b), some (.int c)] [] σ
    refine ⟨trivial, ?_⟩
    rintro _ _ ⟨rfl, rfl⟩
    change ev_wp pg_F pg_lay none [] (ev_lu pg_c87) (fun _ => false) _ 1997 5 [some (.ref 0), some (.int a), some (.int b), some (.int c)] [.int (sp_at σ 0 1)] σ
    refine ⟨fun (h1 : (sp_at σ 0 1) = 0) => ?_, fun (h1 : ¬ (sp_at σ 0 1) = 0) => ?_⟩
    · skip
      change ev_wp pg_F pg_lay none [] (ev_lu pg_c87) (fun _ => false) _ 1996 8 [some (.ref 0), some (.int a), some (.int b), some (.int c)] [] σ
      exact ⟨_, rfl, Nat.le_refl _, _, trivial, rfl, rfl⟩
    · skip
      change ev_wp pg_F pg_lay none [] (ev_lu pg_c87) (fun _ => false) _ 1996 12 [some (.ref 0), some (.int a), some (.int b), some (.int c)] [] σ
      refine ⟨trivial, ?_⟩
      rintro _ _ ⟨v2, k3, rfl, rfl⟩
      change ev_wp pg_F pg_lay none [] (ev_lu pg_c87) (fun _ => false) _ 1991 19 [some (.ref 0), some (.int a), some (.int b), some (.int c)] [.int v2, .int b] σ
      refine ⟨trivial, ?_⟩
      rintro _ _ ⟨rfl, rfl⟩
      exact ⟨_, rfl, Nat.le_refl _, _, trivial, rfl, rfl⟩
  · cases h
theorem pr_88 : pg_Rn pg_F 88 pg_y88 [] pg_t88 := by
  intro vs σ P h hp
  replace h : pf_88 vs σ = some P := h
  unfold pf_88 at h
  split at h
  · rename_i a b
    cases h
    refine ⟨by simp [Value.category], Nat.le_of_ble_eq_true rfl, ev_go pg_hhs pg_cd pg_o88 (fun _ => false) 2000 (Q1 := ev_at (ev_tl pg_t88) σ.2.2 (sp_i (sp_inv σ) sp_b σ).2) ?_ (fun _ _ _ _ h => ev_fin h)⟩
    change ev_wp pg_F pg_lay none [] (ev_lu pg_c88) (fun _ => false) _ 2000 0 [some (.ref 0), some (.int a), some (.int b)] [] σ
    refine ⟨hp, ?_⟩
    rintro _ _ ⟨v1, k2, rfl, rfl⟩
    change ev_wp pg_F pg_lay none [] (ev_lu pg_c88) (fun _ => false) _ 1996 6 [some (.ref 0), some (.int a), some (.int b)] [.int v1, .int a, .ref 0] σ
    refine ⟨trivial, ?_⟩
    rintro _ _ ⟨v3, k4, rfl, rfl⟩
    change ev_wp pg_F pg_lay none [] (ev_lu pg_c88) (fun _ => false) _ 1994 11 [some (.ref 0), some (.int a), some (.int b)] [.int v3] σ
    refine ⟨fun (h5 : v3 = 0) => ?_, fun (h5 : ¬ v3 = 0) => ?_⟩
    · skip
      change ev_wp pg_F pg_lay none [] (ev_lu pg_c88) (fun _ => false) _ 1993 36 [some (.ref 0), some (.int a), some (.int b)] [] σ
      exact ⟨_, rfl, by first | exact Or.inl rfl | exact Or.inr rfl, Nat.le_refl _, _, by first | exact Or.inl rfl | exact Or.inr rfl, rfl, rfl⟩
    · skip
      change ev_wp pg_F pg_lay none [] (ev_lu pg_c88) (fun _ => false) _ 1993 14 [some (.ref 0), some (.int a), some (.int b)] [] σ
      refine ⟨trivial, ?_⟩
      rintro _ _ ⟨v6, k7, rfl, rfl⟩
      change ev_wp pg_F pg_lay none [] (ev_lu pg_c88) (fun _ => false) _ 1990 19 [some (.ref 0), some (.int a), some (.int b)] [.int v6] σ
      refine ⟨fun (h8 : v6 = b) => ?_, fun (h8 : ¬ v6 = b) => ?_⟩
      · skip
        change ev_wp pg_F pg_lay none [] (ev_lu pg_c88) (fun _ => false) _ 1988 23 [some (.ref 0), some (.int a), some (.int b)] [] σ
        refine ⟨trivial, ?_⟩
        rintro _ _ ⟨v9, k10, rfl, rfl⟩
        change ev_wp pg_F pg_lay none [] (ev_lu pg_c88) (fun _ => false) _ 1985 28 [some (.ref 0), some (.int a), some (.int b)] [.int v9] σ
        refine ⟨fun (h11 : 2 ≤ v9) => ?_, fun (h11 : ¬ 2 ≤ v9) => ?_⟩
        · skip
          change ev_wp pg_F pg_lay none [] (ev_lu pg_c88) (fun _ => false) _ 1983 36 [some (.ref 0), some (.int a), some (.int b)] [] σ
          exact ⟨_, rfl, by first | exact Or.inl rfl | exact Or.inr rfl, Nat.le_refl _, _, by first | exact Or.inl rfl | exact Or.inr rfl, rfl, rfl⟩
        · skip
          change ev_wp pg_F pg_lay none [] (ev_lu pg_c88) (fun _ => false) _ 1983 32 [some (.ref 0), some (.int a), some (.int b)] [] σ
          exact ⟨_, rfl, by first | exact Or.inl rfl | exact Or.inr rfl, Nat.le_refl _, _, by first | exact Or.inl rfl | exact Or.inr rfl, rfl, rfl⟩
      · skip
        change ev_wp pg_F pg_lay none [] (ev_lu pg_c88) (fun _ => false) _ 1988 36 [some (.ref 0), some (.int a), some (.int b)] [] σ
        exact ⟨_, rfl, by first | exact Or.inl rfl | exact Or.inr rfl, Nat.le_refl _, _, by first | exact Or.inl rfl | exact Or.inr rfl, rfl, rfl⟩
  · cases h
theorem pr_89 : pg_Rn pg_F 89 pg_y89 [] pg_t89 := by
  intro vs σ P h hp
  replace h : pf_89 vs σ = some P := h
  unfold pf_89 at h
  split at h
  · rename_i a
    cases h
    refine ⟨by simp [Value.category], Nat.le_of_ble_eq_true rfl, ev_go pg_hhs pg_cd pg_o89 (fun _ => false) 2000 (Q1 := ev_at (ev_tl pg_t89) σ.2.2 (sp_i True sp_b σ).2) ?_ (fun _ _ _ _ h => ev_fin h)⟩
    change ev_wp pg_F pg_lay none [] (ev_lu pg_c89) (fun _ => false) _ 2000 0 [some (.ref 0), some (.int a)] [] σ
    refine ⟨trivial, ?_⟩
    rintro _ _ ⟨v1, k2, rfl, rfl⟩
    change ev_wp pg_F pg_lay none [] (ev_lu pg_c89) (fun _ => false) _ 1996 6 [some (.ref 0), some (.int a)] [.int v1, .ref 0] σ
    refine ⟨trivial, ?_⟩
    rintro _ _ ⟨v3, k4, rfl, rfl⟩
    change ev_wp pg_F pg_lay none [] (ev_lu pg_c89) (fun _ => false) _ 1995 9 [some (.ref 0), some (.int a)] [.int v3] σ
    refine ⟨fun (h5 : v3 = (-1)) => ?_, fun (h5 : ¬ v3 = (-1)) => ?_⟩
    · skip
      change ev_wp pg_F pg_lay none [] (ev_lu pg_c89) (fun _ => false) _ 1993 13 [some (.ref 0), some (.int a)] [] σ
      exact ⟨_, rfl, by first | exact Or.inl rfl | exact Or.inr rfl, Nat.le_refl _, _, by first | exact Or.inl rfl | exact Or.inr rfl, rfl, rfl⟩
    · skip
      change ev_wp pg_F pg_lay none [] (ev_lu pg_c89) (fun _ => false) _ 1993 17 [some (.ref 0), some (.int a)] [] σ
      exact ⟨_, rfl, by first | exact Or.inl rfl | exact Or.inr rfl, Nat.le_refl _, _, by first | exact Or.inl rfl | exact Or.inr rfl, rfl, rfl⟩
  · cases h
theorem pr_90 : pg_Rn pg_F 90 pg_y90 [] pg_t90 := by
  intro vs σ P h hp
  replace h : pf_90 vs σ = some P := h
  unfold pf_90 at h
  split at h
  · rename_i a b
    cases h
    refine ⟨by simp [Value.category], Nat.le_of_ble_eq_true rfl, ev_go pg_hhs pg_cd pg_o90 (fun _ => false) 2000 (Q1 := ev_at (ev_tl pg_t90) σ.2.2 (sp_i (sp_inv σ) sp_b σ).2) ?_ (fun _ _ _ _ h => ev_fin h)⟩
    change ev_wp pg_F pg_lay none [] (ev_lu pg_c90) (fun _ => false) _ 2000 0 [some (.ref 0), some (.int a), some (.int b)] [] σ
    refine ⟨fun (h1 : a = (-1)) => ?_, fun (h1 : ¬ a = (-1)) => ?_⟩
    · skip
      change ev_wp pg_F pg_lay none [] (ev_lu pg_c90) (fun _ => false) _ 1997 22 [some (.ref 0), some (.int a), some (.int b)] [] σ
      exact ⟨_, rfl, by first | exact Or.inl rfl | exact Or.inr rfl, Nat.le_refl _, _, by first | exact Or.inl rfl | exact Or.inr rfl, rfl, rfl⟩
    · skip
      change ev_wp pg_F pg_lay none [] (ev_lu pg_c90) (fun _ => false) _ 1997 5 [some (.ref 0), some (.int a), some (.int b)] [] σ
      refine ⟨fun (h2 : a = (σ.1 0 4)) => ?_, fun (h2 : ¬ a = (σ.1 0 4)) => ?_⟩
      · skip
        change ev_wp pg_F pg_lay none [] (ev_lu pg_c90) (fun _ => false) _ 1993 13 [some (.ref 0), some (.int a), some (.int b)] [] σ
        refine ⟨trivial, ?_⟩
        rintro _ _ ⟨v3, k4, rfl, rfl⟩
        change ev_wp pg_F pg_lay none [] (ev_lu pg_c90) (fun _ => false) _ 1990 18 [some (.ref 0), some (.int a), some (.int b)] [.int v3] σ
        refine ⟨fun (h5 : v3 = b) => ?_, fun (h5 : ¬ v3 = b) => ?_⟩
        · skip
          change ev_wp pg_F pg_lay none [] (ev_lu pg_c90) (fun _ => false) _ 1988 24 [some (.ref 0), some (.int a), some (.int b)] [] σ
          refine ⟨hp, ?_⟩
          rintro _ _ ⟨v6, k7, rfl, rfl⟩
          change ev_wp pg_F pg_lay none [] (ev_lu pg_c90) (fun _ => false) _ 1986 28 [some (.ref 0), some (.int a), some (.int b)] [.int v6] σ
          refine ⟨trivial, ?_⟩
          rintro _ _ ⟨v8, k9, rfl, rfl⟩
          change ev_wp pg_F pg_lay none [] (ev_lu pg_c90) (fun _ => false) _ 1983 33 [some (.ref 0), some (.int a), some (.int b)] [.int v8, .int v6] σ
          refine ⟨trivial, ?_⟩
          rintro _ _ ⟨rfl, rfl⟩
          exact ⟨_, rfl, sp_upto_b _ _, Nat.le_refl _, _, sp_upto_b _ _, rfl, rfl⟩
        · skip
          change ev_wp pg_F pg_lay none [] (ev_lu pg_c90) (fun _ => false) _ 1988 22 [some (.ref 0), some (.int a), some (.int b)] [] σ
          exact ⟨_, rfl, by first | exact Or.inl rfl | exact Or.inr rfl, Nat.le_refl _, _, by first | exact Or.inl rfl | exact Or.inr rfl, rfl, rfl⟩
      · skip
        change ev_wp pg_F pg_lay none [] (ev_lu pg_c90) (fun _ => false) _ 1993 22 [some (.ref 0), some (.int a), some (.int b)] [] σ
        exact ⟨_, rfl, by first | exact Or.inl rfl | exact Or.inr rfl, Nat.le_refl _, _, by first | exact Or.inl rfl | exact Or.inr rfl, rfl, rfl⟩
  · cases h
theorem pr_91 : pg_Rn pg_F 91 pg_y91 [] pg_t91 := by
  intro vs σ P h hp
  replace h : pf_91 vs σ = some P := h
  unfold pf_91 at h
  split at h
  · rename_i a
    cases h
    refine ⟨by simp [Value.category], Nat.le_of_ble_eq_true rfl, ev_go pg_hhs pg_cd pg_o91 (fun _ => false) 2000 (Q1 := ev_at (ev_tl pg_t91) σ.2.2 (sp_i True sp_b σ).2) ?_ (fun _ _ _ _ h => ev_fin h)⟩
    change ev_wp pg_F pg_lay none [] (ev_lu pg_c91) (fun _ => false) _ 2000 0 [some (.ref 0), some (.int a), none, none, none] [] σ
    refine ⟨trivial, ?_⟩
    rintro _ _ ⟨v1, k2, rfl, rfl⟩
    change ev_wp pg_F pg_lay none [] (ev_lu pg_c91) (fun _ => false) _ 1997 5 [some (.ref 0), some (.int a), none, none, none] [.int v1] σ
    refine ⟨fun (h3 : v1 = 0) => ?_, fun (h3 : ¬ v1 = 0) => ?_⟩
    · skip
      change ev_wp pg_F pg_lay none [] (ev_lu pg_c91) (fun _ => false) _ 1996 10 [some (.ref 0), some (.int a), none, none, none] [] σ
      refine ⟨trivial, ?_⟩
      rintro _ _ ⟨rfl, rfl⟩
      change ev_wp pg_F pg_lay none [] (ev_lu pg_c91) (fun _ => false) _ 1994 14 [some (.ref 0), some (.int a), none, none, none] [.int (sp_at σ 0 0)] σ
      refine ⟨trivial, ?_⟩
      rintro _ _ ⟨rfl, rfl⟩
      change ev_wp pg_F pg_lay none [] (ev_lu pg_c91) (fun _ => false) _ 1988 24 [some (.ref 0), some (.int a), some (.int (sp_at σ 0 0)), none, none] [.int (sp_at σ a 5)] σ
      refine ⟨fun (h4 : (sp_at σ 0 0) = 1) => ?_, fun (h4 : ¬ (sp_at σ 0 0) = 1) => ?_⟩
      · skip
        change ev_wp pg_F pg_lay none [] (ev_lu pg_c91) (fun _ => false) _ 1982 34 [some (.ref 0), some (.int a), some (.int (sp_at σ 0 0)), some (.int ((sp_at σ a 5) / 256)), none] [] σ
        refine ⟨trivial, ?_⟩
        rintro _ _ ⟨v5, k6, rfl, rfl⟩
        change ev_wp pg_F pg_lay none [] (ev_lu pg_c91) (fun _ => false) _ 1979 39 [some (.ref 0), some (.int a), some (.int (sp_at σ 0 0)), some (.int ((sp_at σ a 5) / 256)), none] [.int v5, .int ((sp_at σ a 5) / 256)] σ
        refine ⟨fun (h7 : ((sp_at σ a 5) / 256) ≤ v5) => ?_, fun (h7 : ¬ ((sp_at σ a 5) / 256) ≤ v5) => ?_⟩
        · skip
          change ev_wp pg_F pg_lay none [] (ev_lu pg_c91) (fun _ => false) _ 1978 46 [some (.ref 0), some (.int a), some (.int (sp_at σ 0 0)), some (.int ((sp_at σ a 5) / 256)), none] [] σ
          exact ⟨_, rfl, by first | exact Or.inl rfl | exact Or.inr rfl, Nat.le_refl _, _, by first | exact Or.inl rfl | exact Or.inr rfl, rfl, rfl⟩
        · skip
          change ev_wp pg_F pg_lay none [] (ev_lu pg_c91) (fun _ => false) _ 1978 42 [some (.ref 0), some (.int a), some (.int (sp_at σ 0 0)), some (.int ((sp_at σ a 5) / 256)), none] [] σ
          exact ⟨_, rfl, by first | exact Or.inl rfl | exact Or.inr rfl, Nat.le_refl _, _, by first | exact Or.inl rfl | exact Or.inr rfl, rfl, rfl⟩
      · skip
        change ev_wp pg_F pg_lay none [] (ev_lu pg_c91) (fun _ => false) _ 1982 48 [some (.ref 0), some (.int a), some (.int (sp_at σ 0 0)), some (.int ((sp_at σ a 5) / 256)), none] [] σ
        refine ⟨fun (h8 : (sp_at σ 0 0) = 3) => ?_, fun (h8 : ¬ (sp_at σ 0 0) = 3) => ?_⟩
        · skip
          change ev_wp pg_F pg_lay none [] (ev_lu pg_c91) (fun _ => false) _ 1979 53 [some (.ref 0), some (.int a), some (.int (sp_at σ 0 0)), some (.int ((sp_at σ a 5) / 256)), none] [] σ
          refine ⟨trivial, ?_⟩
          rintro _ _ ⟨v9, k10, rfl, rfl⟩
          change ev_wp pg_F pg_lay none [] (ev_lu pg_c91) (fun _ => false) _ 1975 61 [some (.ref 0), some (.int a), some (.int (sp_at σ 0 0)), some (.int ((sp_at σ a 5) / 256)), none] [.int v9] σ
          refine ⟨fun (h11 : v9 = (-1)) => ?_, fun (h11 : ¬ v9 = (-1)) => ?_⟩
          · skip
            change ev_wp pg_F pg_lay none [] (ev_lu pg_c91) (fun _ => false) _ 1970 93 [some (.ref 0), some (.int a), some (.int (sp_at σ 0 0)), some (.int ((sp_at σ a 5) / 256)), some (.int v9)] [] σ
            exact ⟨_, rfl, by first | exact Or.inl rfl | exact Or.inr rfl, Nat.le_refl _, _, by first | exact Or.inl rfl | exact Or.inr rfl, rfl, rfl⟩
          · skip
            change ev_wp pg_F pg_lay none [] (ev_lu pg_c91) (fun _ => false) _ 1970 73 [some (.ref 0), some (.int a), some (.int (sp_at σ 0 0)), some (.int ((sp_at σ a 5) / 256)), some (.int v9)] [] σ
            refine ⟨trivial, ?_⟩
            rintro _ _ ⟨v12, k13, rfl, rfl⟩
            change ev_wp pg_F pg_lay none [] (ev_lu pg_c91) (fun _ => false) _ 1966 80 [some (.ref 0), some (.int a), some (.int (sp_at σ 0 0)), some (.int ((sp_at σ a 5) / 256)), some (.int v9)] [.int v12, .int ((sp_at σ a 5) / 256)] σ
            refine ⟨fun (h14 : ((sp_at σ a 5) / 256) = ((v12 + 1) - (v12 + 1) / 256 * 256)) => ?_, fun (h14 : ¬ ((sp_at σ a 5) / 256) = ((v12 + 1) - (v12 + 1) / 256 * 256)) => ?_⟩
            · skip
              change ev_wp pg_F pg_lay none [] (ev_lu pg_c91) (fun _ => false) _ 1961 89 [some (.ref 0), some (.int a), some (.int (sp_at σ 0 0)), some (.int ((sp_at σ a 5) / 256)), some (.int v9)] [] σ
              exact ⟨_, rfl, by first | exact Or.inl rfl | exact Or.inr rfl, Nat.le_refl _, _, by first | exact Or.inl rfl | exact Or.inr rfl, rfl, rfl⟩
            · skip
              change ev_wp pg_F pg_lay none [] (ev_lu pg_c91) (fun _ => false) _ 1961 93 [some (.ref 0), some (.int a), some (.int (sp_at σ 0 0)), some (.int ((sp_at σ a 5) / 256)), some (.int v9)] [] σ
              exact ⟨_, rfl, by first | exact Or.inl rfl | exact Or.inr rfl, Nat.le_refl _, _, by first | exact Or.inl rfl | exact Or.inr rfl, rfl, rfl⟩
        · skip
          change ev_wp pg_F pg_lay none [] (ev_lu pg_c91) (fun _ => false) _ 1979 64 [some (.ref 0), some (.int a), some (.int (sp_at σ 0 0)), some (.int ((sp_at σ a 5) / 256)), none] [] σ
          refine ⟨fun _ => ?_, fun h => absurd (by decide) h⟩
          change ev_wp pg_F pg_lay none [] (ev_lu pg_c91) (fun _ => false) _ 1974 93 [some (.ref 0), some (.int a), some (.int (sp_at σ 0 0)), some (.int ((sp_at σ a 5) / 256)), some (.int (-1))] [] σ
          exact ⟨_, rfl, by first | exact Or.inl rfl | exact Or.inr rfl, Nat.le_refl _, _, by first | exact Or.inl rfl | exact Or.inr rfl, rfl, rfl⟩
    · skip
      change ev_wp pg_F pg_lay none [] (ev_lu pg_c91) (fun _ => false) _ 1996 8 [some (.ref 0), some (.int a), none, none, none] [] σ
      exact ⟨_, rfl, by first | exact Or.inl rfl | exact Or.inr rfl, Nat.le_refl _, _, by first | exact Or.inl rfl | exact Or.inr rfl, rfl, rfl⟩
  · cases h
theorem pr_92 : pg_Rn pg_F 92 pg_y92 [] pg_t92 := by
  intro vs σ P h hp
  replace h : pf_92 vs σ = some P := h
  unfold pf_92 at h
  split at h
  · cases h
    refine ⟨by simp [Value.category], Nat.le_of_ble_eq_true rfl, ev_go pg_hhs pg_cd pg_o92 (fun _ => false) 2000 (Q1 := ev_at (ev_tl pg_t92) σ.2.2 (sp_i True (fun v => sp_at σ 0 0 ≠ 3 → v = -1) σ).2) ?_ (fun _ _ _ _ h => ev_fin h)⟩
    change ev_wp pg_F pg_lay none [] (ev_lu pg_c92) (fun _ => false) _ 2000 0 [some (.ref 0)] [] σ
    refine ⟨trivial, ?_⟩
    rintro _ _ ⟨rfl, rfl⟩
    change ev_wp pg_F pg_lay none [] (ev_lu pg_c92) (fun _ => false) _ 1998 4 [some (.ref 0)] [.int (sp_at σ 0 0)] σ
    refine ⟨fun (h1 : (sp_at σ 0 0) = 3) => ?_, fun (h1 : ¬ (sp_at σ 0 0) = 3) => ?_⟩
    · skip
      change ev_wp pg_F pg_lay none [] (ev_lu pg_c92) (fun _ => false) _ 1996 8 [some (.ref 0)] [] σ
      refine ⟨trivial, ?_⟩
      rintro _ _ ⟨v2, k3, rfl, rfl⟩
      change ev_wp pg_F pg_lay none [] (ev_lu pg_c92) (fun _ => false) _ 1992 16 [some (.ref 0)] [.int v2] σ
      exact ⟨_, rfl, Nat.le_refl _, _, fun hz => by first | rfl | exact absurd h1 hz, rfl, rfl⟩
    · skip
      change ev_wp pg_F pg_lay none [] (ev_lu pg_c92) (fun _ => false) _ 1996 19 [some (.ref 0)] [] σ
      exact ⟨_, rfl, Nat.le_refl _, _, fun hz => by first | rfl | exact absurd h1 hz, rfl, rfl⟩
  · cases h
theorem pr_93 : pg_Rn pg_F 93 pg_y93 [] pg_t93 := by
  intro vs σ P h hp
  replace h : pf_93 vs σ = some P := h
  unfold pf_93 at h
  split at h
  · cases h
    refine ⟨by simp [Value.category], Nat.le_of_ble_eq_true rfl, ev_go pg_hhs pg_cd pg_o93 (fun _ => false) 2000 (Q1 := ev_at (ev_tl pg_t93) σ.2.2 (sp_i True (fun _ => True) σ).2) ?_ (fun _ _ _ _ h => ev_fin h)⟩
    change ev_wp pg_F pg_lay none [] (ev_lu pg_c93) (fun _ => false) _ 2000 0 [some (.ref 0)] [] σ
    refine ⟨trivial, ?_⟩
    rintro _ _ ⟨v1, k2, rfl, rfl⟩
    exact ⟨_, rfl, Nat.le_refl _, _, trivial, rfl, rfl⟩
  · cases h
theorem pr_94 : pg_Rn pg_F 94 pg_y94 [] pg_t94 := by
  intro vs σ P h hp
  replace h : pf_94 vs σ = some P := h
  unfold pf_94 at h
  split at h
  · rename_i a b
    cases h
    refine ⟨by simp [Value.category], Nat.le_of_ble_eq_true rfl, ev_go pg_hhs pg_cd pg_o94 (fun _ => false) 2000 (Q1 := ev_at (ev_tl pg_t94) σ.2.2 (sp_i (sp_inv σ) (fun _ => True) σ).2) ?_ (fun _ _ _ _ h => ev_fin h)⟩
    change ev_wp pg_F pg_lay none [] (ev_lu pg_c94) (fun _ => false) _ 2000 0 [some (.ref 0), some (.int a), some (.int b), none] [] σ
    refine ⟨hp, ?_⟩
    rintro _ _ ⟨v1, k2, rfl, rfl⟩
    change ev_wp pg_F pg_lay none [] (ev_lu pg_c94) (fun _ => false) _ 1998 4 [some (.ref 0), some (.int a), some (.int b), none] [.int v1] σ
    refine ⟨fun (h3 : v1 = 0) => ?_, fun (h3 : ¬ v1 = 0) => ?_⟩
    · skip
      change ev_wp pg_F pg_lay none [] (ev_lu pg_c94) (fun _ => false) _ 1995 11 [some (.ref 0), some (.int a), some (.int b), some (.int v1)] [] σ
      refine ⟨fun (h4 : a = (-1)) => ?_, fun (h4 : ¬ a = (-1)) => ?_⟩
      · skip
        change ev_wp pg_F pg_lay none [] (ev_lu pg_c94) (fun _ => false) _ 1992 16 [some (.ref 0), some (.int a), some (.int b), some (.int v1)] [] σ
        exact ⟨_, rfl, Nat.le_refl _, _, trivial, rfl, rfl⟩
      · skip
        change ev_wp pg_F pg_lay none [] (ev_lu pg_c94) (fun _ => false) _ 1992 19 [some (.ref 0), some (.int a), some (.int b), some (.int v1)] [] σ
        refine ⟨trivial, ?_⟩
        rintro _ _ ⟨v5, k6, rfl, rfl⟩
        change ev_wp pg_F pg_lay none [] (ev_lu pg_c94) (fun _ => false) _ 1989 24 [some (.ref 0), some (.int a), some (.int b), some (.int v1)] [.int v5] σ
        refine ⟨fun (h7 : (v5 + b) ≤ 65535) => ?_, fun (h7 : ¬ (v5 + b) ≤ 65535) => ?_⟩
        · skip
          change ev_wp pg_F pg_lay none [] (ev_lu pg_c94) (fun _ => false) _ 1985 36 [some (.ref 0), some (.int a), some (.int b), some (.int v1)] [] σ
          exact ⟨_, rfl, Nat.le_refl _, _, trivial, rfl, rfl⟩
        · skip
          change ev_wp pg_F pg_lay none [] (ev_lu pg_c94) (fun _ => false) _ 1985 31 [some (.ref 0), some (.int a), some (.int b), some (.int v1)] [] σ
          exact ⟨_, rfl, Nat.le_refl _, _, trivial, rfl, rfl⟩
    · skip
      change ev_wp pg_F pg_lay none [] (ev_lu pg_c94) (fun _ => false) _ 1995 9 [some (.ref 0), some (.int a), some (.int b), some (.int v1)] [] σ
      exact ⟨_, rfl, Nat.le_refl _, _, trivial, rfl, rfl⟩
  · cases h
theorem pr_95 : pg_Rn pg_F 95 pg_y95 [] pg_t95 := by
  intro vs σ P h hp
  replace h : pf_95 vs σ = some P := h
  unfold pf_95 at h
  split at h
  · rename_i a
    cases h
    refine ⟨by simp [Value.category], Nat.le_of_ble_eq_true rfl, ev_go pg_hhs pg_cd pg_o95 (fun _ => false) 2000 (Q1 := ev_at (ev_tl pg_t95) σ.2.2 (sp_m True (fun v σ' => sp_b v ∧ sp_w σ σ')).2) ?_ (fun _ _ _ _ h => ev_fin h)⟩
    change ev_wp pg_F pg_lay none [] (ev_lu pg_c95) (fun _ => false) _ 2000 0 [some (.ref 0), some (.int a), none] [] σ
    refine ⟨trivial, ?_⟩
    rintro _ _ ⟨v1, k2, rfl, rfl⟩
    change ev_wp pg_F pg_lay none [] (ev_lu pg_c95) (fun _ => false) _ 1997 5 [some (.ref 0), some (.int a), none] [.int v1] σ
    refine ⟨trivial, ?_⟩
    rintro _ _ ⟨rfl, rfl⟩
    change ev_wp pg_F pg_lay none [] (ev_lu pg_c95) (fun _ => false) _ 1981 32 [some (.ref 0), some (.int a), some (.int v1)] [.int (sp_at σ a 3), .int (v1 - v1 / 1440 * 1440), .int ((v1 / 1440) &&& 65535), .ref 1] σ
    refine ⟨trivial, ?_⟩
    rintro _ _ ⟨rfl, rfl⟩
    change ev_wp pg_F pg_lay none [] (ev_lu pg_c95) (fun _ => false) _ 1976 41 [some (.ref 0), some (.int a), some (.int v1)] [.int (sp_at σ a 4), .int (sp_at σ a 3), .int (v1 - v1 / 1440 * 1440), .int ((v1 / 1440) &&& 65535), .ref 1] σ
    refine ⟨trivial, ?_⟩
    rintro _ _ ⟨rfl, rfl⟩
    change ev_wp pg_F pg_lay none [] (ev_lu pg_c95) (fun _ => false) _ 1971 51 [some (.ref 0), some (.int a), some (.int v1)] [.int (sp_at σ a 6), .int (sp_at σ a 4), .int (sp_at σ a 3), .int (v1 - v1 / 1440 * 1440), .int ((v1 / 1440) &&& 65535), .ref 1] σ
    refine ⟨trivial, ?_⟩
    rintro _ _ ⟨v3, k4, rfl, rfl⟩
    change ev_wp pg_F pg_lay none [] (ev_lu pg_c95) (fun _ => false) _ 1968 56 [some (.ref 0), some (.int a), some (.int v1)] [.int v3, .int (sp_at σ a 6), .int (sp_at σ a 4), .int (sp_at σ a 3), .int (v1 - v1 / 1440 * 1440), .int ((v1 / 1440) &&& 65535), .ref 1] σ
    refine ⟨trivial, ?_⟩
    rintro _ s6 ⟨k5, rfl⟩
    have r7 := (sp_w.rf σ).tr k5
    change ev_wp pg_F pg_lay none [] (ev_lu pg_c95) (fun _ => false) _ 1967 59 [some (.ref 0), some (.int a), some (.int v1)] [] s6
    refine ⟨trivial, ?_⟩
    rintro _ _ ⟨v8, k9, rfl, rfl⟩
    change ev_wp pg_F pg_lay none [] (ev_lu pg_c95) (fun _ => false) _ 1962 68 [some (.ref 0), some (.int a), some (.int v1)] [.int v8, .ref 1] s6
    refine ⟨trivial, ?_⟩
    rintro _ _ ⟨v10, k11, rfl, rfl⟩
    change ev_wp pg_F pg_lay none [] (ev_lu pg_c95) (fun _ => false) _ 1961 71 [some (.ref 0), some (.int a), some (.int v1)] [.int v10, .ref 1] s6
    refine ⟨trivial, ?_⟩
    rintro _ _ ⟨v12, k13, rfl, rfl⟩
    change ev_wp pg_F pg_lay none [] (ev_lu pg_c95) (fun _ => false) _ 1958 76 [some (.ref 0), some (.int a), some (.int v1)] [.int v12, .int v10, .ref 1] s6
    refine ⟨trivial, ?_⟩
    rintro _ s16 ⟨v14, k15, rfl⟩
    have r17 := r7.tr k15.2
    exact ⟨_, rfl, k15.1, Nat.le_of_eq (congrArg Prod.snd r17.2.1), _, ⟨k15.1, r17⟩, rfl⟩
  · cases h
theorem pr_102 : pg_Rn pg_F 102 pg_y102 [] pg_t102 := by
  intro vs σ P h hp
  replace h : pf_102 vs σ = some P := h
  unfold pf_102 at h
  split at h
  · rename_i a
    cases h
    refine ⟨by simp [Value.category], Nat.le_of_ble_eq_true rfl, ev_go pg_hhs pg_cd pg_o102 (fun _ => false) 2000 (Q1 := ev_at (ev_tl pg_t102) σ.2.2 (sp_i True (fun v => sp_at σ 0 0 ≠ 3 → v = -1) σ).2) ?_ (fun _ _ _ _ h => ev_fin h)⟩
    change ev_wp pg_F pg_lay none [] (ev_lu pg_c102) (fun _ => false) _ 2000 0 [some (.ref 0), some (.int a), none] [] σ
    refine ⟨trivial, ?_⟩
    rintro _ _ ⟨v1, k2, rfl, rfl⟩
    change ev_wp pg_F pg_lay none [] (ev_lu pg_c102) (fun _ => false) _ 1998 4 [some (.ref 0), some (.int a), none] [.int v1] σ
    refine ⟨fun (h3 : v1 = (-1)) => ?_, fun (h3 : ¬ v1 = (-1)) => ?_⟩
    · skip
      change ev_wp pg_F pg_lay none [] (ev_lu pg_c102) (fun _ => false) _ 1994 18 [some (.ref 0), some (.int a), some (.int v1)] [] σ
      exact ⟨_, rfl, Nat.le_refl _, _, fun hz => by first | rfl | exact absurd (k2 hz) h3, rfl, rfl⟩
    · skip
      change ev_wp pg_F pg_lay none [] (ev_lu pg_c102) (fun _ => false) _ 1994 10 [some (.ref 0), some (.int a), some (.int v1)] [] σ
      refine ⟨trivial, ?_⟩
      rintro _ _ ⟨rfl, rfl⟩
      change ev_wp pg_F pg_lay none [] (ev_lu pg_c102) (fun _ => false) _ 1991 15 [some (.ref 0), some (.int a), some (.int v1)] [.int (sp_at σ 0 1)] σ
      refine ⟨fun (h4 : (sp_at σ 0 1) = 0) => ?_, fun (h4 : ¬ (sp_at σ 0 1) = 0) => ?_⟩
      · skip
        change ev_wp pg_F pg_lay none [] (ev_lu pg_c102) (fun _ => false) _ 1990 18 [some (.ref 0), some (.int a), some (.int v1)] [] σ
        exact ⟨_, rfl, Nat.le_refl _, _, fun hz => by first | rfl | exact absurd (k2 hz) h3, rfl, rfl⟩
      · skip
        change ev_wp pg_F pg_lay none [] (ev_lu pg_c102) (fun _ => false) _ 1990 20 [some (.ref 0), some (.int a), some (.int v1)] [] σ
        refine ⟨trivial, ?_⟩
        rintro _ _ ⟨v5, k6, rfl, rfl⟩
        exact ⟨_, rfl, Nat.le_refl _, _, fun hz => by first | rfl | exact absurd (k2 hz) h3, rfl, rfl⟩
  · cases h
theorem pr_103 : pg_Rn pg_F 103 pg_y103 [] pg_t103 := by
  intro vs σ P h hp
  replace h : pf_103 vs σ = some P := h
  unfold pf_103 at h
  split at h
  · cases h
    refine ⟨by simp [Value.category], Nat.le_of_ble_eq_true rfl, ev_go pg_hhs pg_cd pg_o103 (fun _ => false) 2000 (Q1 := ev_at (ev_tl pg_t103) σ.2.2 (sp_i True (fun v => sp_at σ 0 0 ≠ 3 → v = -1) σ).2) ?_ (fun _ _ _ _ h => ev_fin h)⟩
    change ev_wp pg_F pg_lay none [] (ev_lu pg_c103) (fun _ => false) _ 2000 0 [some (.ref 0), none] [] σ
    refine ⟨trivial, ?_⟩
    rintro _ _ ⟨v1, k2, rfl, rfl⟩
    change ev_wp pg_F pg_lay none [] (ev_lu pg_c103) (fun _ => false) _ 1998 4 [some (.ref 0), none] [.int v1] σ
    refine ⟨fun (h3 : v1 = (-1)) => ?_, fun (h3 : ¬ v1 = (-1)) => ?_⟩
    · skip
      change ev_wp pg_F pg_lay none [] (ev_lu pg_c103) (fun _ => false) _ 1994 10 [some (.ref 0), some (.int v1)] [] σ
      exact ⟨_, rfl, Nat.le_refl _, _, fun hz => by first | rfl | exact absurd (k2 hz) h3, rfl, rfl⟩
    · skip
      change ev_wp pg_F pg_lay none [] (ev_lu pg_c103) (fun _ => false) _ 1994 14 [some (.ref 0), some (.int v1)] [] σ
      refine ⟨trivial, ?_⟩
      rintro _ _ ⟨v4, k5, rfl, rfl⟩
      exact ⟨_, rfl, Nat.le_refl _, _, fun hz => by first | rfl | exact absurd (k2 hz) h3, rfl, rfl⟩
  · cases h
theorem pr_104 : pg_Rn pg_F 104 pg_y104 [] pg_t104 := by
  intro vs σ P h hp
  replace h : pf_104 vs σ = some P := h
  unfold pf_104 at h
  split at h
  · cases h
    refine ⟨by simp [Value.category], Nat.le_of_ble_eq_true rfl, ev_go pg_hhs pg_cd pg_o104 (fun _ => false) 2000 (Q1 := ev_at (ev_tl pg_t104) σ.2.2 (sp_i True (fun v => sp_zero σ → v = -1) σ).2) ?_ (fun _ _ _ _ h => ev_fin h)⟩
    change ev_wp pg_F pg_lay none [] (ev_lu pg_c104) (fun _ => false) _ 2000 0 [some (.ref 0), none, none] [] σ
    refine ⟨trivial, ?_⟩
    rintro _ _ ⟨v1, k2, rfl, rfl⟩
    change ev_wp pg_F pg_lay none [] (ev_lu pg_c104) (fun _ => false) _ 1996 9 [some (.ref 0), none, none] [.int v1] σ
    refine ⟨fun (h3 : v1 = (-1)) => ?_, fun (h3 : ¬ v1 = (-1)) => ?_⟩
    · skip
      change ev_wp pg_F pg_lay none [] (ev_lu pg_c104) (fun _ => false) _ 1992 23 [some (.ref 0), some (.int v1), none] [] σ
      exact ⟨_, rfl, Nat.le_refl _, _, fun hz => by first | rfl | (exact k2 hz), rfl, rfl⟩
    · skip
      change ev_wp pg_F pg_lay none [] (ev_lu pg_c104) (fun _ => false) _ 1992 15 [some (.ref 0), some (.int v1), none] [] σ
      refine ⟨trivial, ?_⟩
      rintro _ _ ⟨v4, k5, rfl, rfl⟩
      change ev_wp pg_F pg_lay none [] (ev_lu pg_c104) (fun _ => false) _ 1989 20 [some (.ref 0), some (.int v1), none] [.int v4] σ
      refine ⟨fun (h6 : v4 = 0) => ?_, fun (h6 : ¬ v4 = 0) => ?_⟩
      · skip
        change ev_wp pg_F pg_lay none [] (ev_lu pg_c104) (fun _ => false) _ 1988 23 [some (.ref 0), some (.int v1), none] [] σ
        exact ⟨_, rfl, Nat.le_refl _, _, fun hz => by first | rfl | (exact absurd (k2 hz) h3) | (exact k2 hz), rfl, rfl⟩
      · skip
        change ev_wp pg_F pg_lay none [] (ev_lu pg_c104) (fun _ => false) _ 1988 25 [some (.ref 0), some (.int v1), none] [] σ
        refine ⟨trivial, ?_⟩
        rintro _ _ ⟨v7, k8, rfl, rfl⟩
        change ev_wp pg_F pg_lay none [] (ev_lu pg_c104) (fun _ => false) _ 1985 31 [some (.ref 0), some (.int v1), none] [.int v7] σ
        refine ⟨trivial, ?_⟩
        rintro _ _ ⟨v9, k10, rfl, rfl⟩
        change ev_wp pg_F pg_lay none [] (ev_lu pg_c104) (fun _ => false) _ 1980 40 [some (.ref 0), some (.int v1), some (.int v7)] [.int v9] σ
        refine ⟨fun (h11 : v9 = 0) => ?_, fun (h11 : ¬ v9 = 0) => ?_⟩
        · skip
          change ev_wp pg_F pg_lay none [] (ev_lu pg_c104) (fun _ => false) _ 1979 47 [some (.ref 0), some (.int v1), some (.int v7)] [] σ
          exact ⟨_, rfl, Nat.le_refl _, _, fun hz => by first | rfl | (exact absurd (k2 hz) h3) | (exact absurd (k2 hz) h6) | (exact k2 hz) | (exact absurd (k10.2 hz) h3) | (exact absurd (k10.2 hz) h6), rfl, rfl⟩
        · skip
          change ev_wp pg_F pg_lay none [] (ev_lu pg_c104) (fun _ => false) _ 1979 43 [some (.ref 0), some (.int v1), some (.int v7)] [] σ
          exact ⟨_, rfl, Nat.le_refl _, _, fun hz => by first | rfl | (exact absurd (k2 hz) h3) | (exact absurd (k2 hz) h6) | (exact absurd (k2 hz) h11) | (exact k2 hz) | (exact absurd (k10.2 hz) h3) | (exact absurd (k10.2 hz) h6) | (exact absurd (k10.2 hz) h11), rfl, rfl⟩
  · cases h
theorem pr_105 : pg_Rn pg_F 105 pg_y105 [] pg_t105 := by
  intro vs σ P h hp
  replace h : pf_105 vs σ = some P := h
  unfold pf_105 at h
  split at h
  · rename_i a b c
    cases h
    refine ⟨by simp [Value.category], Nat.le_of_ble_eq_true rfl, ev_go pg_hhs pg_cd pg_o105 (fun _ => false) 2000 (Q1 := ev_at (ev_tl pg_t105) σ.2.2 (sp_m (sp_inv σ) (fun _ σ' => sp_t σ σ')).2) ?_ (fun _ _ _ _ h => ev_fin h)⟩
    change ev_wp pg_F pg_lay none [] (ev_lu pg_c105) (fun _ => false) _ 2000 0 [some (.ref 0), some (.int a), some (.int b), some (.int c), none, none] [] σ
    refine ⟨hp, ?_⟩
    rintro _ _ ⟨v1, k2, rfl, rfl⟩
    change ev_wp pg_F pg_lay none [] (ev_lu pg_c105) (fun _ => false) _ 1998 4 [some (.ref 0), some (.int a), some (.int b), some (.int c), none, none] [.int v1] σ
    refine ⟨trivial, ?_⟩
    rintro _ _ ⟨v3, k4, rfl, rfl⟩
    change ev_wp pg_F pg_lay none [] (ev_lu pg_c105) (fun _ => false) _ 1995 9 [some (.ref 0), some (.int a), some (.int b), some (.int c), none, none] [.int v3, .int v1] σ
    refine ⟨trivial, ?_⟩
    rintro _ _ ⟨rfl, rfl⟩
    change ev_wp pg_F pg_lay none [] (ev_lu pg_c105) (fun _ => false) _ 1991 16 [some (.ref 0), some (.int a), some (.int b), some (.int c), some (.int (v1 - v3)), none] [.int (sp_at σ 0 0)] σ
    refine ⟨fun (h5 : (sp_at σ 0 0) = 1) => ?_, fun (h5 : ¬ (sp_at σ 0 0) = 1) => ?_⟩
    · skip
      change ev_wp pg_F pg_lay none [] (ev_lu pg_c105) (fun _ => false) _ 1989 20 [some (.ref 0), some (.int a), some (.int b), some (.int c), some (.int (v1 - v3)), none] [] σ
      refine ⟨trivial, ?_⟩
      rintro _ _ ⟨v6, k7, rfl, rfl⟩
      change ev_wp pg_F pg_lay none [] (ev_lu pg_c105) (fun _ => false) _ 1987 24 [some (.ref 0), some (.int a), some (.int b), some (.int c), some (.int (v1 - v3)), none] [.int v6] σ
      refine ⟨trivial, ?_⟩
      rintro _ _ ⟨rfl, rfl⟩
      change ev_wp pg_F pg_lay none [] (ev_lu pg_c105) (fun _ => false) _ 1978 54 [some (.ref 0), some (.int a), some (.int b), some (.int c), some (.int (v1 - v3)), some (.int v6)] [.int (sp_at σ a 1), .ref 1] σ
      refine ⟨trivial, ?_⟩
      rintro _ _ ⟨rfl, rfl⟩
      change ev_wp pg_F pg_lay none [] (ev_lu pg_c105) (fun _ => false) _ 1973 63 [some (.ref 0), some (.int a), some (.int b), some (.int c), some (.int (v1 - v3)), some (.int v6)] [.int (sp_at σ a 2), .int (sp_at σ a 1), .ref 1] σ
      refine ⟨trivial, ?_⟩
      rintro _ _ ⟨v8, k9, rfl, rfl⟩
      change ev_wp pg_F pg_lay none [] (ev_lu pg_c105) (fun _ => false) _ 1966 74 [some (.ref 0), some (.int a), some (.int b), some (.int c), some (.int (v1 - v3)), some (.int v6)] [.int v8, .int b, .int ((sp_at σ a 2) + 4096), .int (sp_at σ a 1), .ref 1] σ
      refine ⟨trivial, ?_⟩
      rintro _ s11 ⟨k10, rfl⟩
      have r12 := (sp_t.rf σ).tr k10.t
      have i13 := k10.inv hp
      change ev_wp pg_F pg_lay none [] (ev_lu pg_c105) (fun _ => false) _ 1959 87 [some (.ref 0), some (.int a), some (.int b), some (.int c), some (.int (v1 - v3)), some (.int v6)] [] s11
      refine ⟨trivial, ?_⟩
      rintro _ s16 ⟨v14, k15, rfl⟩
      have r17 := r12.tr k15.2.t
      have i18 := k15.2.inv i13
      change ev_wp pg_F pg_lay none [] (ev_lu pg_c105) (fun _ => false) _ 1955 96 [some (.ref 0), some (.int a), some (.int b), some (.int c), some (.int (v1 - v3)), some (.int v6)] [.int v14] s16
      refine ⟨fun (h19 : v14 = 0) => ?_, fun (h19 : ¬ v14 = 0) => ?_⟩
      · skip
        change ev_wp pg_F pg_lay none [] (ev_lu pg_c105) (fun _ => false) _ 1954 114 [some (.ref 0), some (.int a), some (.int b), some (.int c), some (.int (v1 - v3)), some (.int v6)] [] s16
        exact ⟨_, rfl, Nat.le_of_eq (congrArg Prod.snd r17.2.1), _, r17, rfl⟩
      · skip
        change ev_wp pg_F pg_lay none [] (ev_lu pg_c105) (fun _ => false) _ 1954 99 [some (.ref 0), some (.int a), some (.int b), some (.int c), some (.int (v1 - v3)), some (.int v6)] [] s16
        refine ⟨trivial, ?_⟩
        rintro _ _ ⟨v20, k21, rfl, rfl⟩
        change ev_wp pg_F pg_lay none [] (ev_lu pg_c105) (fun _ => false) _ 1951 104 [some (.ref 0), some (.int a), some (.int b), some (.int c), some (.int (v1 - v3)), some (.int v6)] [.int v20, .ref 0] s16
        refine ⟨trivial, ?_⟩
        rintro _ s24 ⟨v22, k23, rfl⟩
        have r25 := r17.tr k23.2.t
        have i26 := k23.2.inv i18
        change ev_wp pg_F pg_lay none [] (ev_lu pg_c105) (fun _ => false) _ 1950 107 [some (.ref 0), some (.int a), some (.int b), some (.int c), some (.int (v1 - v3)), some (.int v6)] [.int v22] s24
        refine ⟨fun (h27 : v22 = 0) => ?_, fun (h27 : ¬ v22 = 0) => ?_⟩
        · skip
          change ev_wp pg_F pg_lay none [] (ev_lu pg_c105) (fun _ => false) _ 1949 114 [some (.ref 0), some (.int a), some (.int b), some (.int c), some (.int (v1 - v3)), some (.int v6)] [] s24
          exact ⟨_, rfl, Nat.le_of_eq (congrArg Prod.snd r25.2.1), _, r25, rfl⟩
        · skip
          change ev_wp pg_F pg_lay none [] (ev_lu pg_c105) (fun _ => false) _ 1949 110 [some (.ref 0), some (.int a), some (.int b), some (.int c), some (.int (v1 - v3)), some (.int v6)] [] s24
          exact ⟨_, rfl, Nat.le_of_eq (congrArg Prod.snd r25.2.1), _, r25, rfl⟩
    · skip
      change ev_wp pg_F pg_lay none [] (ev_lu pg_c105) (fun _ => false) _ 1989 27 [some (.ref 0), some (.int a), some (.int b), some (.int c), some (.int (v1 - v3)), none] [] σ
      refine ⟨trivial, ?_⟩
      rintro _ _ ⟨v28, k29, rfl, rfl⟩
      change ev_wp pg_F pg_lay none [] (ev_lu pg_c105) (fun _ => false) _ 1986 32 [some (.ref 0), some (.int a), some (.int b), some (.int c), some (.int (v1 - v3)), none] [.int v28, .ref 0] σ
      refine ⟨trivial, ?_⟩
      rintro _ _ ⟨v30, k31, rfl, rfl⟩
      change ev_wp pg_F pg_lay none [] (ev_lu pg_c105) (fun _ => false) _ 1985 35 [some (.ref 0), some (.int a), some (.int b), some (.int c), some (.int (v1 - v3)), none] [.int v30] σ
      refine ⟨trivial, ?_⟩
      rintro _ _ ⟨rfl, rfl⟩
      change ev_wp pg_F pg_lay none [] (ev_lu pg_c105) (fun _ => false) _ 1975 54 [some (.ref 0), some (.int a), some (.int b), some (.int c), some (.int (v1 - v3)), some (.int (v30 - v30 / 256 * 256))] [.int (sp_at σ a 1), .ref 1] σ
      refine ⟨trivial, ?_⟩
      rintro _ _ ⟨rfl, rfl⟩
      change ev_wp pg_F pg_lay none [] (ev_lu pg_c105) (fun _ => false) _ 1970 63 [some (.ref 0), some (.int a), some (.int b), some (.int c), some (.int (v1 - v3)), some (.int (v30 - v30 / 256 * 256))] [.int (sp_at σ a 2), .int (sp_at σ a 1), .ref 1] σ
      refine ⟨trivial, ?_⟩
      rintro _ _ ⟨v32, k33, rfl, rfl⟩
      change ev_wp pg_F pg_lay none [] (ev_lu pg_c105) (fun _ => false) _ 1963 74 [some (.ref 0), some (.int a), some (.int b), some (.int c), some (.int (v1 - v3)), some (.int (v30 - v30 / 256 * 256))] [.int v32, .int b, .int ((sp_at σ a 2) + 4096), .int (sp_at σ a 1), .ref 1] σ
      refine ⟨trivial, ?_⟩
      rintro _ s35 ⟨k34, rfl⟩
      have r36 := (sp_t.rf σ).tr k34.t
      have i37 := k34.inv hp
      change ev_wp pg_F pg_lay none [] (ev_lu pg_c105) (fun _ => false) _ 1956 87 [some (.ref 0), some (.int a), some (.int b), some (.int c), some (.int (v1 - v3)), some (.int (v30 - v30 / 256 * 256))] [] s35
      refine ⟨trivial, ?_⟩
      rintro _ s40 ⟨v38, k39, rfl⟩
      have r41 := r36.tr k39.2.t
      have i42 := k39.2.inv i37
      change ev_wp pg_F pg_lay none [] (ev_lu pg_c105) (fun _ => false) _ 1952 96 [some (.ref 0), some (.int a), some (.int b), some (.int c), some (.int (v1 - v3)), some (.int (v30 - v30 / 256 * 256))] [.int v38] s40
      refine ⟨fun (h43 : v38 = 0) => ?_, fun (h43 : ¬ v38 = 0) => ?_⟩
      · skip
        change ev_wp pg_F pg_lay none [] (ev_lu pg_c105) (fun _ => false) _ 1951 114 [some (.ref 0), some (.int a), some (.int b), some (.int c), some (.int (v1 - v3)), some (.int (v30 - v30 / 256 * 256))] [] s40
        exact ⟨_, rfl, Nat.le_of_eq (congrArg Prod.snd r41.2.1), _, r41, rfl⟩
      · skip
        change ev_wp pg_F pg_lay none [] (ev_lu pg_c105) (fun _ => false) _ 1951 99 [some (.ref 0), some (.int a), some (.int b), some (.int c), some (.int (v1 - v3)), some (.int (v30 - v30 / 256 * 256))] [] s40
        refine ⟨trivial, ?_⟩
        rintro _ _ ⟨v44, k45, rfl, rfl⟩
        change ev_wp pg_F pg_lay none [] (ev_lu pg_c105) (fun _ => false) _ 1948 104 [some (.ref 0), some (.int a), some (.int b), some (.int c), some (.int (v1 - v3)), some (.int (v30 - v30 / 256 * 256))] [.int v44, .ref 0] s40
        refine ⟨trivial, ?_⟩
        rintro _ s48 ⟨v46, k47, rfl⟩
        have r49 := r41.tr k47.2.t
        have i50 := k47.2.inv i42
        change ev_wp pg_F pg_lay none [] (ev_lu pg_c105) (fun _ => false) _ 1947 107 [some (.ref 0), some (.int a), some (.int b), some (.int c), some (.int (v1 - v3)), some (.int (v30 - v30 / 256 * 256))] [.int v46] s48
        refine ⟨fun (h51 : v46 = 0) => ?_, fun (h51 : ¬ v46 = 0) => ?_⟩
        · skip
          change ev_wp pg_F pg_lay none [] (ev_lu pg_c105) (fun _ => false) _ 1946 114 [some (.ref 0), some (.int a), some (.int b), some (.int c), some (.int (v1 - v3)), some (.int (v30 - v30 / 256 * 256))] [] s48
          exact ⟨_, rfl, Nat.le_of_eq (congrArg Prod.snd r49.2.1), _, r49, rfl⟩
        · skip
          change ev_wp pg_F pg_lay none [] (ev_lu pg_c105) (fun _ => false) _ 1946 110 [some (.ref 0), some (.int a), some (.int b), some (.int c), some (.int (v1 - v3)), some (.int (v30 - v30 / 256 * 256))] [] s48
          exact ⟨_, rfl, Nat.le_of_eq (congrArg Prod.snd r49.2.1), _, r49, rfl⟩
  · cases h
theorem pr_106 : pg_Rn pg_F 106 pg_y106 [] pg_t106 := by
  intro vs σ P h hp
  replace h : pf_106 vs σ = some P := h
  unfold pf_106 at h
  split at h
  · rename_i a b
    cases h
    refine ⟨by simp [Value.category], Nat.le_of_ble_eq_true rfl, ev_go pg_hhs pg_cd pg_o106 (fun _ => false) 2000 (Q1 := ev_at (ev_tl pg_t106) σ.2.2 (sp_m (sp_inv σ) (fun _ σ' => sp_t σ σ')).2) ?_ (fun _ _ _ _ h => ev_fin h)⟩
    change ev_wp pg_F pg_lay none [] (ev_lu pg_c106) (fun _ => false) _ 2000 0 [some (.ref 0), some (.int a), some (.int b), none, none] [] σ
    refine ⟨trivial, ?_⟩
    rintro _ _ ⟨v1, k2, rfl, rfl⟩
    change ev_wp pg_F pg_lay none [] (ev_lu pg_c106) (fun _ => false) _ 1998 4 [some (.ref 0), some (.int a), some (.int b), none, none] [.int v1] σ
    refine ⟨trivial, ?_⟩
    rintro _ _ ⟨rfl, rfl⟩
    change ev_wp pg_F pg_lay none [] (ev_lu pg_c106) (fun _ => false) _ 1993 11 [some (.ref 0), some (.int a), some (.int b), some (.int v1), none] [.int (sp_at σ 0 1), .int v1] σ
    refine ⟨fun (h3 : v1 < (sp_at σ 0 1)) => ?_, fun (h3 : ¬ v1 < (sp_at σ 0 1)) => ?_⟩
    · skip
      change ev_wp pg_F pg_lay none [] (ev_lu pg_c106) (fun _ => false) _ 1992 20 [some (.ref 0), some (.int a), some (.int b), some (.int v1), none] [] σ
      refine ⟨trivial, ?_⟩
      rintro _ _ ⟨v4, k5, rfl, rfl⟩
      change ev_wp pg_F pg_lay none [] (ev_lu pg_c106) (fun _ => false) _ 1986 28 [some (.ref 0), some (.int a), some (.int b), some (.int v1), none] [.int v4, .int a, .ref 0] σ
      refine ⟨hp, ?_⟩
      rintro _ s7 ⟨k6, rfl⟩
      have r8 := (sp_t.rf σ).tr k6.t
      have i9 := k6.inv hp
      change ev_wp pg_F pg_lay none [] (ev_lu pg_c106) (fun _ => false) _ 1981 35 [some (.ref 0), some (.int a), some (.int b), some (.int v1), none] [] s7
      refine ⟨trivial, ?_⟩
      rintro _ s12 ⟨v10, k11, rfl⟩
      have r13 := r8.tr k11.2.t
      have i14 := k11.2.inv i9
      change ev_wp pg_F pg_lay none [] (ev_lu pg_c106) (fun _ => false) _ 1977 44 [some (.ref 0), some (.int a), some (.int b), some (.int v1), none] [.int v10] s12
      refine ⟨fun (h15 : v10 = 0) => ?_, fun (h15 : ¬ v10 = 0) => ?_⟩
      · skip
        change ev_wp pg_F pg_lay none [] (ev_lu pg_c106) (fun _ => false) _ 1976 69 [some (.ref 0), some (.int a), some (.int b), some (.int v1), none] [] s12
        refine ⟨fun _ => ?_, fun h => absurd (by decide) h⟩
        change ev_wp pg_F pg_lay none [] (ev_lu pg_c106) (fun _ => false) _ 1972 81 [some (.ref 0), some (.int a), some (.int b), some (.int v1), some (.int 0)] [] s12
        exact ⟨_, rfl, Nat.le_of_eq (congrArg Prod.snd r13.2.1), _, r13, rfl⟩
      · skip
        change ev_wp pg_F pg_lay none [] (ev_lu pg_c106) (fun _ => false) _ 1976 47 [some (.ref 0), some (.int a), some (.int b), some (.int v1), none] [] s12
        refine ⟨trivial, ?_⟩
        rintro _ s18 ⟨v16, k17, rfl⟩
        have r19 := r13.tr k17.2.t
        have i20 := k17.2.inv i14
        change ev_wp pg_F pg_lay none [] (ev_lu pg_c106) (fun _ => false) _ 1974 51 [some (.ref 0), some (.int a), some (.int b), some (.int v1), none] [.int v16] s18
        refine ⟨fun (h21 : v16 = 0) => ?_, fun (h21 : ¬ v16 = 0) => ?_⟩
        · skip
          change ev_wp pg_F pg_lay none [] (ev_lu pg_c106) (fun _ => false) _ 1973 69 [some (.ref 0), some (.int a), some (.int b), some (.int v1), none] [] s18
          refine ⟨fun _ => ?_, fun h => absurd (by decide) h⟩
          change ev_wp pg_F pg_lay none [] (ev_lu pg_c106) (fun _ => false) _ 1969 81 [some (.ref 0), some (.int a), some (.int b), some (.int v1), some (.int 0)] [] s18
          exact ⟨_, rfl, Nat.le_of_eq (congrArg Prod.snd r19.2.1), _, r19, rfl⟩
        · skip
          change ev_wp pg_F pg_lay none [] (ev_lu pg_c106) (fun _ => false) _ 1973 54 [some (.ref 0), some (.int a), some (.int b), some (.int v1), none] [] s18
          refine ⟨trivial, ?_⟩
          rintro _ _ ⟨v22, k23, rfl, rfl⟩
          change ev_wp pg_F pg_lay none [] (ev_lu pg_c106) (fun _ => false) _ 1970 59 [some (.ref 0), some (.int a), some (.int b), some (.int v1), none] [.int v22, .ref 0] s18
          refine ⟨trivial, ?_⟩
          rintro _ s26 ⟨v24, k25, rfl⟩
          have r27 := r19.tr k25.2.t
          have i28 := k25.2.inv i20
          change ev_wp pg_F pg_lay none [] (ev_lu pg_c106) (fun _ => false) _ 1969 62 [some (.ref 0), some (.int a), some (.int b), some (.int v1), none] [.int v24] s26
          refine ⟨fun (h29 : v24 = 0) => ?_, fun (h29 : ¬ v24 = 0) => ?_⟩
          · skip
            change ev_wp pg_F pg_lay none [] (ev_lu pg_c106) (fun _ => false) _ 1968 69 [some (.ref 0), some (.int a), some (.int b), some (.int v1), none] [] s26
            refine ⟨fun _ => ?_, fun h => absurd (by decide) h⟩
            change ev_wp pg_F pg_lay none [] (ev_lu pg_c106) (fun _ => false) _ 1964 81 [some (.ref 0), some (.int a), some (.int b), some (.int v1), some (.int 0)] [] s26
            exact ⟨_, rfl, Nat.le_of_eq (congrArg Prod.snd r27.2.1), _, r27, rfl⟩
          · skip
            change ev_wp pg_F pg_lay none [] (ev_lu pg_c106) (fun _ => false) _ 1968 65 [some (.ref 0), some (.int a), some (.int b), some (.int v1), none] [] s26
            refine ⟨fun h => absurd h (by decide), fun _ => ?_⟩
            change ev_wp pg_F pg_lay none [] (ev_lu pg_c106) (fun _ => false) _ 1963 77 [some (.ref 0), some (.int a), some (.int b), some (.int v1), some (.int 1)] [] s26
            exact ⟨_, rfl, Nat.le_of_eq (congrArg Prod.snd r27.2.1), _, r27, rfl⟩
    · skip
      change ev_wp pg_F pg_lay none [] (ev_lu pg_c106) (fun _ => false) _ 1992 14 [some (.ref 0), some (.int a), some (.int b), some (.int v1), none] [] σ
      refine ⟨trivial, ?_⟩
      rintro _ _ ⟨_, ⟨rfl, rfl⟩, rfl⟩
      have r30 := (sp_t.rf σ).tr (sp_up0 σ 5 5 (fun h => absurd h (by decide)))
      have i31 := (sp_up0 σ 5 5 (fun h => absurd h (by decide))).2.2 hp
      exact ⟨_, rfl, Nat.le_of_eq (congrArg Prod.snd r30.2.1), _, r30, rfl⟩
  · cases h
theorem pr_107 : pg_Rn pg_F 107 pg_y107 [] pg_t107 := by
  intro vs σ P h hp
  replace h : pf_107 vs σ = some P := h
  unfold pf_107 at h
  split at h
  · rename_i a b c
    cases h
    refine ⟨by simp [Value.category], Nat.le_of_ble_eq_true rfl, ev_go pg_hhs pg_cd pg_o107 (fun _ => false) 2000 (Q1 := ev_at (ev_tl pg_t107) σ.2.2 (sp_m (sp_inv σ) (fun _ σ' => sp_t σ σ')).2) ?_ (fun _ _ _ _ h => ev_fin h)⟩
    change ev_wp pg_F pg_lay none [] (ev_lu pg_c107) (fun _ => false) _ 2000 0 [some (.ref 0), some (.int a), some (.int b), some (.int c), none] [] σ
    refine ⟨hp, ?_⟩
    rintro _ _ ⟨v1, k2, rfl, rfl⟩
    change ev_wp pg_F pg_lay none [] (ev_lu pg_c107) (fun _ => false) _ 1997 5 [some (.ref 0), some (.int a), some (.int b), some (.int c), none] [.int v1, .ref 0] σ
    refine ⟨trivial, ?_⟩
    rintro _ _ ⟨v3, k4, rfl, rfl⟩
    change ev_wp pg_F pg_lay none [] (ev_lu pg_c107) (fun _ => false) _ 1993 13 [some (.ref 0), some (.int a), some (.int b), some (.int c), none] [.int v3] σ
    refine ⟨fun (h5 : v3 = 0) => ?_, fun (h5 : ¬ v3 = 0) => ?_⟩
    · skip
      change ev_wp pg_F pg_lay none [] (ev_lu pg_c107) (fun _ => false) _ 1990 27 [some (.ref 0), some (.int a), some (.int b), some (.int c), some (.int v3)] [] σ
      refine ⟨trivial, ?_⟩
      rintro _ _ ⟨v6, k7, rfl, rfl⟩
      change ev_wp pg_F pg_lay none [] (ev_lu pg_c107) (fun _ => false) _ 1984 35 [some (.ref 0), some (.int a), some (.int b), some (.int c), some (.int v3)] [.int v6, .int b, .ref 0] σ
      refine ⟨hp, ?_⟩
      rintro _ s9 ⟨k8, rfl⟩
      have r10 := (sp_t.rf σ).tr k8.t
      have i11 := k8.inv hp
      change ev_wp pg_F pg_lay none [] (ev_lu pg_c107) (fun _ => false) _ 1981 40 [some (.ref 0), some (.int a), some (.int b), some (.int c), some (.int v3)] [] s9
      refine ⟨trivial, ?_⟩
      rintro _ s14 ⟨v12, k13, rfl⟩
      have r15 := r10.tr k13.2.t
      have i16 := k13.2.inv i11
      change ev_wp pg_F pg_lay none [] (ev_lu pg_c107) (fun _ => false) _ 1977 49 [some (.ref 0), some (.int a), some (.int b), some (.int c), some (.int v3)] [.int v12] s14
      refine ⟨fun (h17 : v12 = 0) => ?_, fun (h17 : ¬ v12 = 0) => ?_⟩
      · skip
        change ev_wp pg_F pg_lay none [] (ev_lu pg_c107) (fun _ => false) _ 1976 67 [some (.ref 0), some (.int a), some (.int b), some (.int c), some (.int v3)] [] s14
        exact ⟨_, rfl, Nat.le_of_eq (congrArg Prod.snd r15.2.1), _, r15, rfl⟩
      · skip
        change ev_wp pg_F pg_lay none [] (ev_lu pg_c107) (fun _ => false) _ 1976 52 [some (.ref 0), some (.int a), some (.int b), some (.int c), some (.int v3)] [] s14
        refine ⟨trivial, ?_⟩
        rintro _ _ ⟨v18, k19, rfl, rfl⟩
        change ev_wp pg_F pg_lay none [] (ev_lu pg_c107) (fun _ => false) _ 1973 57 [some (.ref 0), some (.int a), some (.int b), some (.int c), some (.int v3)] [.int v18, .ref 0] s14
        refine ⟨trivial, ?_⟩
        rintro _ s22 ⟨v20, k21, rfl⟩
        have r23 := r15.tr k21.2.t
        have i24 := k21.2.inv i16
        change ev_wp pg_F pg_lay none [] (ev_lu pg_c107) (fun _ => false) _ 1972 60 [some (.ref 0), some (.int a), some (.int b), some (.int c), some (.int v3)] [.int v20] s22
        refine ⟨fun (h25 : v20 = 0) => ?_, fun (h25 : ¬ v20 = 0) => ?_⟩
        · skip
          change ev_wp pg_F pg_lay none [] (ev_lu pg_c107) (fun _ => false) _ 1971 67 [some (.ref 0), some (.int a), some (.int b), some (.int c), some (.int v3)] [] s22
          exact ⟨_, rfl, Nat.le_of_eq (congrArg Prod.snd r23.2.1), _, r23, rfl⟩
        · skip
          change ev_wp pg_F pg_lay none [] (ev_lu pg_c107) (fun _ => false) _ 1971 63 [some (.ref 0), some (.int a), some (.int b), some (.int c), some (.int v3)] [] s22
          exact ⟨_, rfl, Nat.le_of_eq (congrArg Prod.snd r23.2.1), _, r23, rfl⟩
    · skip
      change ev_wp pg_F pg_lay none [] (ev_lu pg_c107) (fun _ => false) _ 1990 20 [some (.ref 0), some (.int a), some (.int b), some (.int c), some (.int v3)] [] σ
      refine ⟨trivial, ?_⟩
      rintro _ _ ⟨_, ⟨rfl, rfl⟩, rfl⟩
      have r26 := (sp_t.rf σ).tr (sp_up0 σ 5 v3 (fun h => absurd h (by decide)))
      have i27 := (sp_up0 σ 5 v3 (fun h => absurd h (by decide))).2.2 hp
      exact ⟨_, rfl, Nat.le_of_eq (congrArg Prod.snd r26.2.1), _, r26, rfl⟩
  · cases h
theorem pr_108 : pg_Rn pg_F 108 pg_y108 [] pg_t108 := by
  intro vs σ P h hp
  replace h : pf_108 vs σ = some P := h
  unfold pf_108 at h
  split at h
  · rename_i a b c
    cases h
    refine ⟨by simp [Value.category], Nat.le_of_ble_eq_true rfl, ev_go pg_hhs pg_cd pg_o108 (fun _ => false) 2000 (Q1 := ev_at (ev_tl pg_t108) σ.2.2 (sp_m (sp_inv σ) (fun _ σ' => sp_t σ σ')).2) ?_ (fun _ _ _ _ h => ev_fin h)⟩
    change ev_wp pg_F pg_lay none [] (ev_lu pg_c108) (fun _ => false) _ 2000 0 [some (.ref 0), some (.int a), some (.int b), some (.int c), none, none, none, none, none, none, none] [] σ
    refine ⟨trivial, ?_⟩
    rintro _ _ ⟨v1, k2, rfl, rfl⟩
    change ev_wp pg_F pg_lay none [] (ev_lu pg_c108) (fun _ => false) _ 1998 4 [some (.ref 0), some (.int a), some (.int b), some (.int c), none, none, none, none, none, none, none] [.int v1] σ
    refine ⟨hp, ?_⟩
    rintro _ _ ⟨v3, k4, rfl, rfl⟩
    change ev_wp pg_F pg_lay none [] (ev_lu pg_c108) (fun _ => false) _ 1995 10 [some (.ref 0), some (.int a), some (.int b), some (.int c), some (.int v1), none, none, none, none, none, none] [.int v3] σ
    refine ⟨trivial, ?_⟩
    rintro _ _ ⟨v5, k6, rfl, rfl⟩
    change ev_wp pg_F pg_lay none [] (ev_lu pg_c108) (fun _ => false) _ 1987 25 [some (.ref 0), some (.int a), some (.int b), some (.int c), some (.int v1), some (.int (v3 / 1440)), none, none, none, none, none] [.int v5] σ
    refine ⟨fun (h7 : v1 = (-1)) => ?_, fun (h7 : ¬ v1 = (-1)) => ?_⟩
    · skip
      change ev_wp pg_F pg_lay none [] (ev_lu pg_c108) (fun _ => false) _ 1983 44 [some (.ref 0), some (.int a), some (.int b), some (.int c), some (.int v1), some (.int (v3 / 1440)), some (.int v5), none, none, none, none] [] σ
      refine ⟨trivial, ?_⟩
      rintro _ _ ⟨_, ⟨rfl, rfl⟩, rfl⟩
      have r8 := (sp_t.rf σ).tr (sp_up0 σ 5 5 (fun h => absurd h (by decide)))
      have i9 := (sp_up0 σ 5 5 (fun h => absurd h (by decide))).2.2 hp
      exact ⟨_, rfl, Nat.le_of_eq (congrArg Prod.snd r8.2.1), _, r8, rfl⟩
    · skip
      change ev_wp pg_F pg_lay none [] (ev_lu pg_c108) (fun _ => false) _ 1983 33 [some (.ref 0), some (.int a), some (.int b), some (.int c), some (.int v1), some (.int (v3 / 1440)), some (.int v5), none, none, none, none] [] σ
      refine ⟨trivial, ?_⟩
      rintro _ _ ⟨v10, k11, rfl, rfl⟩
      change ev_wp pg_F pg_lay none [] (ev_lu pg_c108) (fun _ => false) _ 1980 39 [some (.ref 0), some (.int a), some (.int b), some (.int c), some (.int v1), some (.int (v3 / 1440)), some (.int v5), none, none, none, none] [.int v10] σ
      refine ⟨fun (h12 : v5 ≤ v10) => ?_, fun (h12 : ¬ v5 ≤ v10) => ?_⟩
      · skip
        change ev_wp pg_F pg_lay none [] (ev_lu pg_c108) (fun _ => false) _ 1978 50 [some (.ref 0), some (.int a), some (.int b), some (.int c), some (.int v1), some (.int (v3 / 1440)), some (.int v5), none, none, none, none] [] σ
        refine ⟨trivial, ?_⟩
        rintro _ _ ⟨v13, k14, rfl, rfl⟩
        change ev_wp pg_F pg_lay none [] (ev_lu pg_c108) (fun _ => false) _ 1975 56 [some (.ref 0), some (.int a), some (.int b), some (.int c), some (.int v1), some (.int (v3 / 1440)), some (.int v5), none, none, none, none] [.int v13] σ
        refine ⟨trivial, ?_⟩
        rintro _ _ ⟨v15, k16, rfl, rfl⟩
        change ev_wp pg_F pg_lay none [] (ev_lu pg_c108) (fun _ => false) _ 1967 71 [some (.ref 0), some (.int a), some (.int b), some (.int c), some (.int v1), some (.int (v3 / 1440)), some (.int v5), some (.int (v13 - v5)), none, none, none] [.int v15, .int 65535] σ
        refine ⟨trivial, ?_⟩
        rintro _ _ ⟨rfl, rfl⟩
        change ev_wp pg_F pg_lay none [] (ev_lu pg_c108) (fun _ => false) _ 1964 77 [some (.ref 0), some (.int a), some (.int b), some (.int c), some (.int v1), some (.int (v3 / 1440)), some (.int v5), some (.int (v13 - v5)), none, none, none] [.int (if (v15 + v5) < 65535 then (v15 + v5) else 65535)] σ
        refine ⟨trivial, ?_⟩
        rintro _ _ ⟨v17, k18, rfl, rfl⟩
        change ev_wp pg_F pg_lay none [] (ev_lu pg_c108) (fun _ => false) _ 1960 85 [some (.ref 0), some (.int a), some (.int b), some (.int c), some (.int v1), some (.int (v3 / 1440)), some (.int v5), some (.int (v13 - v5)), some (.int (if (v15 + v5) < 65535 then (v15 + v5) else 65535)), none, none] [.int v17] σ
        refine ⟨trivial, ?_⟩
        rintro _ _ ⟨v19, k20, rfl, rfl⟩
        change ev_wp pg_F pg_lay none [] (ev_lu pg_c108) (fun _ => false) _ 1949 101 [some (.ref 0), some (.int a), some (.int b), some (.int c), some (.int v1), some (.int (v3 / 1440)), some (.int v5), some (.int (v13 - v5)), some (.int (if (v15 + v5) < 65535 then (v15 + v5) else 65535)), some (.int ((v17 + 1) - (v17 + 1) / 256 * 256)), none] [.int v19, .int b, .ref 0] σ
        refine ⟨hp, ?_⟩
        rintro _ s22 ⟨k21, rfl⟩
        have r23 := (sp_t.rf σ).tr k21.t
        have i24 := k21.inv hp
        change ev_wp pg_F pg_lay none [] (ev_lu pg_c108) (fun _ => false) _ 1946 108 [some (.ref 0), some (.int a), some (.int b), some (.int c), some (.int v1), some (.int (v3 / 1440)), some (.int v5), some (.int (v13 - v5)), some (.int (if (v15 + v5) < 65535 then (v15 + v5) else 65535)), some (.int ((v17 + 1) - (v17 + 1) / 256 * 256)), none] [] s22
        refine ⟨trivial, ?_⟩
        rintro _ s27 ⟨v25, k26, rfl⟩
        have r28 := r23.tr k26.2.t
        have i29 := k26.2.inv i24
        change ev_wp pg_F pg_lay none [] (ev_lu pg_c108) (fun _ => false) _ 1942 117 [some (.ref 0), some (.int a), some (.int b), some (.int c), some (.int v1), some (.int (v3 / 1440)), some (.int v5), some (.int (v13 - v5)), some (.int (if (v15 + v5) < 65535 then (v15 + v5) else 65535)), some (.int ((v17 + 1) - (v17 + 1) / 256 * 256)), none] [.int v25] s27
        refine ⟨fun (h30 : v25 = 0) => ?_, fun (h30 : ¬ v25 = 0) => ?_⟩
        · skip
          change ev_wp pg_F pg_lay none [] (ev_lu pg_c108) (fun _ => false) _ 1941 120 [some (.ref 0), some (.int a), some (.int b), some (.int c), some (.int v1), some (.int (v3 / 1440)), some (.int v5), some (.int (v13 - v5)), some (.int (if (v15 + v5) < 65535 then (v15 + v5) else 65535)), some (.int ((v17 + 1) - (v17 + 1) / 256 * 256)), none] [] s27
          exact ⟨_, rfl, Nat.le_of_eq (congrArg Prod.snd r28.2.1), _, r28, rfl⟩
        · skip
          change ev_wp pg_F pg_lay none [] (ev_lu pg_c108) (fun _ => false) _ 1941 122 [some (.ref 0), some (.int a), some (.int b), some (.int c), some (.int v1), some (.int (v3 / 1440)), some (.int v5), some (.int (v13 - v5)), some (.int (if (v15 + v5) < 65535 then (v15 + v5) else 65535)), some (.int ((v17 + 1) - (v17 + 1) / 256 * 256)), none] [] s27
          refine ⟨trivial, ?_⟩
          rintro _ s32 ⟨k31, rfl⟩
          have r33 := r28.tr k31.t
          have i34 := k31.inv i29
          change ev_wp pg_F pg_lay none [] (ev_lu pg_c108) (fun _ => false) _ 1936 132 [some (.ref 0), some (.int a), some (.int b), some (.int c), some (.int v1), some (.int (v3 / 1440)), some (.int v5), some (.int (v13 - v5)), some (.int (if (v15 + v5) < 65535 then (v15 + v5) else 65535)), some (.int ((v17 + 1) - (v17 + 1) / 256 * 256)), none] [] s32
          refine ⟨trivial, ?_⟩
          rintro _ s37 ⟨v35, k36, rfl⟩
          have r38 := r33.tr k36.2.t
          have i39 := k36.2.inv i34
          change ev_wp pg_F pg_lay none [] (ev_lu pg_c108) (fun _ => false) _ 1932 140 [some (.ref 0), some (.int a), some (.int b), some (.int c), some (.int v1), some (.int (v3 / 1440)), some (.int v5), some (.int (v13 - v5)), some (.int (if (v15 + v5) < 65535 then (v15 + v5) else 65535)), some (.int ((v17 + 1) - (v17 + 1) / 256 * 256)), none] [.int v35] s37
          refine ⟨fun (h40 : v35 = 0) => ?_, fun (h40 : ¬ v35 = 0) => ?_⟩
          · skip
            change ev_wp pg_F pg_lay none [] (ev_lu pg_c108) (fun _ => false) _ 1931 158 [some (.ref 0), some (.int a), some (.int b), some (.int c), some (.int v1), some (.int (v3 / 1440)), some (.int v5), some (.int (v13 - v5)), some (.int (if (v15 + v5) < 65535 then (v15 + v5) else 65535)), some (.int ((v17 + 1) - (v17 + 1) / 256 * 256)), none] [] s37
            refine ⟨fun _ => ?_, fun h => absurd (by decide) h⟩
            change ev_wp pg_F pg_lay none [] (ev_lu pg_c108) (fun _ => false) _ 1927 170 [some (.ref 0), some (.int a), some (.int b), some (.int c), some (.int v1), some (.int (v3 / 1440)), some (.int v5), some (.int (v13 - v5)), some (.int (if (v15 + v5) < 65535 then (v15 + v5) else 65535)), some (.int ((v17 + 1) - (v17 + 1) / 256 * 256)), some (.int 0)] [] s37
            exact ⟨_, rfl, Nat.le_of_eq (congrArg Prod.snd r38.2.1), _, r38, rfl⟩
          · skip
            change ev_wp pg_F pg_lay none [] (ev_lu pg_c108) (fun _ => false) _ 1931 143 [some (.ref 0), some (.int a), some (.int b), some (.int c), some (.int v1), some (.int (v3 / 1440)), some (.int v5), some (.int (v13 - v5)), some (.int (if (v15 + v5) < 65535 then (v15 + v5) else 65535)), some (.int ((v17 + 1) - (v17 + 1) / 256 * 256)), none] [] s37
            refine ⟨trivial, ?_⟩
            rintro _ _ ⟨v41, k42, rfl, rfl⟩
            change ev_wp pg_F pg_lay none [] (ev_lu pg_c108) (fun _ => false) _ 1928 148 [some (.ref 0), some (.int a), some (.int b), some (.int c), some (.int v1), some (.int (v3 / 1440)), some (.int v5), some (.int (v13 - v5)), some (.int (if (v15 + v5) < 65535 then (v15 + v5) else 65535)), some (.int ((v17 + 1) - (v17 + 1) / 256 * 256)), none] [.int v41, .ref 0] s37
            refine ⟨trivial, ?_⟩
            rintro _ s45 ⟨v43, k44, rfl⟩
            have r46 := r38.tr k44.2.t
            have i47 := k44.2.inv i39
            change ev_wp pg_F pg_lay none [] (ev_lu pg_c108) (fun _ => false) _ 1927 151 [some (.ref 0), some (.int a), some (.int b), some (.int c), some (.int v1), some (.int (v3 / 1440)), some (.int v5), some (.int (v13 - v5)), some (.int (if (v15 + v5) < 65535 then (v15 + v5) else 65535)), some (.int ((v17 + 1) - (v17 + 1) / 256 * 256)), none] [.int v43] s45
            refine ⟨fun (h48 : v43 = 0) => ?_, fun (h48 : ¬ v43 = 0) => ?_⟩
            · skip
              change ev_wp pg_F pg_lay none [] (ev_lu pg_c108) (fun _ => false) _ 1926 158 [some (.ref 0), some (.int a), some (.int b), some (.int c), some (.int v1), some (.int (v3 / 1440)), some (.int v5), some (.int (v13 - v5)), some (.int (if (v15 + v5) < 65535 then (v15 + v5) else 65535)), some (.int ((v17 + 1) - (v17 + 1) / 256 * 256)), none] [] s45
              refine ⟨fun _ => ?_, fun h => absurd (by decide) h⟩
              change ev_wp pg_F pg_lay none [] (ev_lu pg_c108) (fun _ => false) _ 1922 170 [some (.ref 0), some (.int a), some (.int b), some (.int c), some (.int v1), some (.int (v3 / 1440)), some (.int v5), some (.int (v13 - v5)), some (.int (if (v15 + v5) < 65535 then (v15 + v5) else 65535)), some (.int ((v17 + 1) - (v17 + 1) / 256 * 256)), some (.int 0)] [] s45
              exact ⟨_, rfl, Nat.le_of_eq (congrArg Prod.snd r46.2.1), _, r46, rfl⟩
            · skip
              change ev_wp pg_F pg_lay none [] (ev_lu pg_c108) (fun _ => false) _ 1926 154 [some (.ref 0), some (.int a), some (.int b), some (.int c), some (.int v1), some (.int (v3 / 1440)), some (.int v5), some (.int (v13 - v5)), some (.int (if (v15 + v5) < 65535 then (v15 + v5) else 65535)), some (.int ((v17 + 1) - (v17 + 1) / 256 * 256)), none] [] s45
              refine ⟨fun h => absurd h (by decide), fun _ => ?_⟩
              change ev_wp pg_F pg_lay none [] (ev_lu pg_c108) (fun _ => false) _ 1921 166 [some (.ref 0), some (.int a), some (.int b), some (.int c), some (.int v1), some (.int (v3 / 1440)), some (.int v5), some (.int (v13 - v5)), some (.int (if (v15 + v5) < 65535 then (v15 + v5) else 65535)), some (.int ((v17 + 1) - (v17 + 1) / 256 * 256)), some (.int 1)] [] s45
              exact ⟨_, rfl, Nat.le_of_eq (congrArg Prod.snd r46.2.1), _, r46, rfl⟩
      · skip
        change ev_wp pg_F pg_lay none [] (ev_lu pg_c108) (fun _ => false) _ 1978 44 [some (.ref 0), some (.int a), some (.int b), some (.int c), some (.int v1), some (.int (v3 / 1440)), some (.int v5), none, none, none, none] [] σ
        refine ⟨trivial, ?_⟩
        rintro _ _ ⟨_, ⟨rfl, rfl⟩, rfl⟩
        have r49 := (sp_t.rf σ).tr (sp_up0 σ 5 5 (fun h => absurd h (by decide)))
        have i50 := (sp_up0 σ 5 5 (fun h => absurd h (by decide))).2.2 hp
        exact ⟨_, rfl, Nat.le_of_eq (congrArg Prod.snd r49.2.1), _, r49, rfl⟩
  · cases h
theorem pr_118 : pg_Rn pg_F 118 pg_y118 [] pg_t118 := by
  intro vs σ P h hp
  replace h : pf_118 vs σ = some P := h
  unfold pf_118 at h
  split at h
  · rename_i a b c d
    cases h
    refine ⟨by simp [Value.category], Nat.le_of_ble_eq_true rfl, ev_go pg_hhs pg_cd pg_o118 (fun _ => false) 2000 (Q1 := ev_at (ev_tl pg_t118) σ.2.2 (sp_m (sp_inv σ) (fun _ σ' => sp_t σ σ')).2) ?_ (fun _ _ _ _ h => ev_fin h)⟩
    change ev_wp pg_F pg_lay none [] (ev_lu pg_c118) (fun _ => false) _ 2000 0 [some (.ref 0), some (.int a), some (.int b), some (.int c), some (.int d), none, none] [] σ
    refine ⟨trivial, ?_⟩
    rintro _ _ ⟨rfl, rfl⟩
    change ev_wp pg_F pg_lay none [] (ev_lu pg_c118) (fun _ => false) _ 1998 4 [some (.ref 0), some (.int a), some (.int b), some (.int c), some (.int d), none, none] [.int (sp_at σ 0 0)] σ
    refine ⟨fun (h1 : (sp_at σ 0 0) = 2) => ?_, fun (h1 : ¬ (sp_at σ 0 0) = 2) => ?_⟩
    · skip
      change ev_wp pg_F pg_lay none [] (ev_lu pg_c118) (fun _ => false) _ 1988 41 [some (.ref 0), some (.int a), some (.int b), some (.int c), some (.int d), some (.int (sp_at σ 0 0)), some (.int (b + (256 * c)))] [] σ
      refine ⟨fun (h2 : (sp_at σ 0 0) = 1) => ?_, fun (h2 : ¬ (sp_at σ 0 0) = 1) => ?_⟩
      · skip
        change ev_wp pg_F pg_lay none [] (ev_lu pg_c118) (fun _ => false) _ 1986 78 [some (.ref 0), some (.int a), some (.int b), some (.int c), some (.int d), some (.int (sp_at σ 0 0)), some (.int (b + (256 * c)))] [] σ
        refine ⟨hp, ?_⟩
        rintro _ s5 ⟨v3, k4, rfl⟩
        have r6 := (sp_t.rf σ).tr k4
        have i7 := k4.2.2 hp
        exact ⟨_, rfl, Nat.le_of_eq (congrArg Prod.snd r6.2.1), _, r6, rfl⟩
      refine ⟨fun (h8 : (sp_at σ 0 0) = 2) => ?_, fun (h8 : ¬ (sp_at σ 0 0) = 2) => ?_⟩
      · skip
        change ev_wp pg_F pg_lay none [] (ev_lu pg_c118) (fun _ => false) _ 1986 68 [some (.ref 0), some (.int a), some (.int b), some (.int c), some (.int d), some (.int (sp_at σ 0 0)), some (.int (b + (256 * c)))] [] σ
        refine ⟨hp, ?_⟩
        rintro _ s11 ⟨v9, k10, rfl⟩
        have r12 := (sp_t.rf σ).tr k10
        have i13 := k10.2.2 hp
        exact ⟨_, rfl, Nat.le_of_eq (congrArg Prod.snd r12.2.1), _, r12, rfl⟩
      change ev_wp pg_F pg_lay none [] (ev_lu pg_c118) (fun _ => false) _ 1986 87 [some (.ref 0), some (.int a), some (.int b), some (.int c), some (.int d), some (.int (sp_at σ 0 0)), some (.int (b + (256 * c)))] [] σ
      refine ⟨trivial, ?_⟩
      rintro _ _ ⟨v14, k15, rfl, rfl⟩
      change ev_wp pg_F pg_lay none [] (ev_lu pg_c118) (fun _ => false) _ 1982 93 [some (.ref 0), some (.int a), some (.int b), some (.int c), some (.int d), some (.int (sp_at σ 0 0)), some (.int (b + (256 * c)))] [.int v14, .ref 0] σ
      refine ⟨hp, ?_⟩
      rintro _ s18 ⟨v16, k17, rfl⟩
      have r19 := (sp_t.rf σ).tr k17
      have i20 := k17.2.2 hp
      exact ⟨_, rfl, Nat.le_of_eq (congrArg Prod.snd r19.2.1), _, r19, rfl⟩
    · skip
      change ev_wp pg_F pg_lay none [] (ev_lu pg_c118) (fun _ => false) _ 1988 21 [some (.ref 0), some (.int a), some (.int b), some (.int c), some (.int d), some (.int (sp_at σ 0 0)), some (.int (b + (256 * c)))] [] σ
      refine ⟨hp, ?_⟩
      rintro _ _ ⟨v21, k22, rfl, rfl⟩
      change ev_wp pg_F pg_lay none [] (ev_lu pg_c118) (fun _ => false) _ 1984 28 [some (.ref 0), some (.int a), some (.int b), some (.int c), some (.int d), some (.int (sp_at σ 0 0)), some (.int (b + (256 * c)))] [.int v21] σ
      refine ⟨fun (h23 : v21 = 0) => ?_, fun (h23 : ¬ v21 = 0) => ?_⟩
      · skip
        change ev_wp pg_F pg_lay none [] (ev_lu pg_c118) (fun _ => false) _ 1983 41 [some (.ref 0), some (.int a), some (.int b), some (.int c), some (.int d), some (.int (sp_at σ 0 0)), some (.int (b + (256 * c)))] [] σ
        refine ⟨fun (h24 : (sp_at σ 0 0) = 1) => ?_, fun (h24 : ¬ (sp_at σ 0 0) = 1) => ?_⟩
        · skip
          change ev_wp pg_F pg_lay none [] (ev_lu pg_c118) (fun _ => false) _ 1981 78 [some (.ref 0), some (.int a), some (.int b), some (.int c), some (.int d), some (.int (sp_at σ 0 0)), some (.int (b + (256 * c)))] [] σ
          refine ⟨hp, ?_⟩
          rintro _ s27 ⟨v25, k26, rfl⟩
          have r28 := (sp_t.rf σ).tr k26
          have i29 := k26.2.2 hp
          exact ⟨_, rfl, Nat.le_of_eq (congrArg Prod.snd r28.2.1), _, r28, rfl⟩
        refine ⟨fun (h30 : (sp_at σ 0 0) = 2) => ?_, fun (h30 : ¬ (sp_at σ 0 0) = 2) => ?_⟩
        · skip
          change ev_wp pg_F pg_lay none [] (ev_lu pg_c118) (fun _ => false) _ 1981 68 [some (.ref 0), some (.int a), some (.int b), some (.int c), some (.int d), some (.int (sp_at σ 0 0)), some (.int (b + (256 * c)))] [] σ
          refine ⟨hp, ?_⟩
          rintro _ s33 ⟨v31, k32, rfl⟩
          have r34 := (sp_t.rf σ).tr k32
          have i35 := k32.2.2 hp
          exact ⟨_, rfl, Nat.le_of_eq (congrArg Prod.snd r34.2.1), _, r34, rfl⟩
        change ev_wp pg_F pg_lay none [] (ev_lu pg_c118) (fun _ => false) _ 1981 87 [some (.ref 0), some (.int a), some (.int b), some (.int c), some (.int d), some (.int (sp_at σ 0 0)), some (.int (b + (256 * c)))] [] σ
        refine ⟨trivial, ?_⟩
        rintro _ _ ⟨v36, k37, rfl, rfl⟩
        change ev_wp pg_F pg_lay none [] (ev_lu pg_c118) (fun _ => false) _ 1977 93 [some (.ref 0), some (.int a), some (.int b), some (.int c), some (.int d), some (.int (sp_at σ 0 0)), some (.int (b + (256 * c)))] [.int v36, .ref 0] σ
        refine ⟨hp, ?_⟩
        rintro _ s40 ⟨v38, k39, rfl⟩
        have r41 := (sp_t.rf σ).tr k39
        have i42 := k39.2.2 hp
        exact ⟨_, rfl, Nat.le_of_eq (congrArg Prod.snd r41.2.1), _, r41, rfl⟩
      · skip
        change ev_wp pg_F pg_lay none [] (ev_lu pg_c118) (fun _ => false) _ 1983 31 [some (.ref 0), some (.int a), some (.int b), some (.int c), some (.int d), some (.int (sp_at σ 0 0)), some (.int (b + (256 * c)))] [] σ
        refine ⟨hp, ?_⟩
        rintro _ s45 ⟨v43, k44, rfl⟩
        have r46 := (sp_t.rf σ).tr k44
        have i47 := k44.2.2 hp
        exact ⟨_, rfl, Nat.le_of_eq (congrArg Prod.snd r46.2.1), _, r46, rfl⟩
  · cases h
theorem pr_110 : pg_Rn pg_F 110 pg_y110 [] pg_t110 := by
  intro vs σ P h hp
  replace h : pf_110 vs σ = some P := h
  unfold pf_110 at h
  split at h
  · rename_i a b c d
    cases h
    refine ⟨by simp [Value.category], Nat.le_of_ble_eq_true rfl, ev_go pg_hhs pg_cd pg_o110 (fun _ => false) 2000 (Q1 := ev_at (ev_tl pg_t110) σ.2.2 (sp_v True (fun σ' => sp_w σ σ')).2) ?_ (fun _ _ _ _ h => ev_fin h)⟩
    change ev_wp pg_F pg_lay none [] (ev_lu pg_c110) (fun _ => false) _ 2000 0 [some (.ref 0), some (.int a), some (.int b), some (.int c), some (.int d)] [] σ
    refine ⟨trivial, ?_⟩
    rintro _ s3 ⟨v1, k2, rfl⟩
    have r4 := (sp_w.rf σ).tr k2.2
    change ev_wp pg_F pg_lay none [] (ev_lu pg_c110) (fun _ => false) _ 1994 10 [some (.ref 0), some (.int a), some (.int b), some (.int c), some (.int d)] [.int v1] s3
    refine ⟨trivial, ?_⟩
    rintro _ s7 ⟨v5, k6, rfl⟩
    have r8 := r4.tr k6.2
    change ev_wp pg_F pg_lay none [] (ev_lu pg_c110) (fun _ => false) _ 1987 21 [some (.ref 0), some (.int a), some (.int b), some (.int c), some (.int d)] [.int v5] s7
    refine ⟨trivial, ?_⟩
    rintro _ s11 ⟨v9, k10, rfl⟩
    have r12 := r8.tr k10.2
    change ev_wp pg_F pg_lay none [] (ev_lu pg_c110) (fun _ => false) _ 1980 32 [some (.ref 0), some (.int a), some (.int b), some (.int c), some (.int d)] [.int v9] s11
    refine ⟨trivial, ?_⟩
    rintro _ s15 ⟨v13, k14, rfl⟩
    have r16 := r12.tr k14.2
    change ev_wp pg_F pg_lay none [] (ev_lu pg_c110) (fun _ => false) _ 1973 44 [some (.ref 0), some (.int a), some (.int b), some (.int c), some (.int d)] [.int v13] s15
    refine ⟨fun (h17 : a = 3) => ?_, fun (h17 : ¬ a = 3) => ?_⟩
    · skip
      change ev_wp pg_F pg_lay none [] (ev_lu pg_c110) (fun _ => false) _ 1969 50 [some (.ref 0), some (.int a), some (.int b), some (.int c), some (.int d)] [] s15
      refine ⟨trivial, ?_⟩
      rintro _ s19 ⟨k18, rfl⟩
      have r20 := r16.tr k18
      change ev_wp pg_F pg_lay none [] (ev_lu pg_c110) (fun _ => false) _ 1964 57 [some (.ref 0), some (.int a), some (.int b), some (.int c), some (.int d)] [] s19
      refine ⟨trivial, ?_⟩
      rintro _ s23 ⟨v21, k22, rfl⟩
      have r24 := r20.tr k22.2
      change ev_wp pg_F pg_lay none [] (ev_lu pg_c110) (fun _ => false) _ 1960 65 [some (.ref 0), some (.int a), some (.int b), some (.int c), some (.int d)] [.int v21] s23
      exact ⟨rfl, Nat.le_of_eq (congrArg Prod.snd r24.2.1), r24, rfl⟩
    · skip
      exact ⟨rfl, Nat.le_of_eq (congrArg Prod.snd r16.2.1), r16, rfl⟩
  · cases h
theorem pr_109 : pg_Rn pg_F 109 pg_y109 [] pg_t109 := by
  intro vs σ P h hp
  replace h : pf_109 vs σ = some P := h
  unfold pf_109 at h
  split at h
  · cases h
    refine ⟨by simp [Value.category], Nat.le_of_ble_eq_true rfl, ev_go pg_hhs pg_cd pg_o109 (fun _ => false) 2000 (Q1 := ev_at (ev_tl pg_t109) σ.2.2 (sp_m True (fun v σ' => sp_b v ∧ sp_w σ σ' ∧ (sp_zero σ → v = 1 ∧ σ' = σ))).2) ?_ (fun _ _ _ _ h => ev_fin h)⟩
    change ev_wp pg_F pg_lay none [] (ev_lu pg_c109) (fun _ => false) _ 2000 0 [some (.ref 0), none] [] σ
    refine ⟨trivial, ?_⟩
    rintro _ _ ⟨v1, k2, rfl, rfl⟩
    change ev_wp pg_F pg_lay none [] (ev_lu pg_c109) (fun _ => false) _ 1996 9 [some (.ref 0), none] [.int v1] σ
    refine ⟨fun (h3 : v1 = (-1)) => ?_, fun (h3 : ¬ v1 = (-1)) => ?_⟩
    · skip
      change ev_wp pg_F pg_lay none [] (ev_lu pg_c109) (fun _ => false) _ 1992 34 [some (.ref 0), some (.int v1)] [] σ
      exact ⟨_, rfl, by first | exact Or.inl rfl | exact Or.inr rfl, Nat.le_of_eq (congrArg Prod.snd (sp_w.rf σ).2.1), _, ⟨by first | exact Or.inl rfl | exact Or.inr rfl, (sp_w.rf σ), fun hz => by first | exact ⟨rfl, rfl⟩⟩, rfl⟩
    · skip
      change ev_wp pg_F pg_lay none [] (ev_lu pg_c109) (fun _ => false) _ 1992 15 [some (.ref 0), some (.int v1)] [] σ
      refine ⟨trivial, ?_⟩
      rintro _ _ ⟨v4, k5, rfl, rfl⟩
      change ev_wp pg_F pg_lay none [] (ev_lu pg_c109) (fun _ => false) _ 1989 20 [some (.ref 0), some (.int v1)] [.int v4] σ
      refine ⟨fun (h6 : v4 = 0) => ?_, fun (h6 : ¬ v4 = 0) => ?_⟩
      · skip
        change ev_wp pg_F pg_lay none [] (ev_lu pg_c109) (fun _ => false) _ 1988 34 [some (.ref 0), some (.int v1)] [] σ
        exact ⟨_, rfl, by first | exact Or.inl rfl | exact Or.inr rfl, Nat.le_of_eq (congrArg Prod.snd (sp_w.rf σ).2.1), _, ⟨by first | exact Or.inl rfl | exact Or.inr rfl, (sp_w.rf σ), fun hz => by first | exact ⟨rfl, rfl⟩ | (exact absurd (k2 hz) h3)⟩, rfl⟩
      · skip
        change ev_wp pg_F pg_lay none [] (ev_lu pg_c109) (fun _ => false) _ 1988 23 [some (.ref 0), some (.int v1)] [] σ
        refine ⟨trivial, ?_⟩
        rintro _ s9 ⟨v7, k8, rfl⟩
        have r10 := (sp_w.rf σ).tr k8.2
        change ev_wp pg_F pg_lay none [] (ev_lu pg_c109) (fun _ => false) _ 1984 31 [some (.ref 0), some (.int v1)] [.int v7] s9
        refine ⟨fun (h11 : v7 = 0) => ?_, fun (h11 : ¬ v7 = 0) => ?_⟩
        · skip
          change ev_wp pg_F pg_lay none [] (ev_lu pg_c109) (fun _ => false) _ 1983 38 [some (.ref 0), some (.int v1)] [] s9
          exact ⟨_, rfl, by first | exact Or.inl rfl | exact Or.inr rfl, Nat.le_of_eq (congrArg Prod.snd r10.2.1), _, ⟨by first | exact Or.inl rfl | exact Or.inr rfl, r10, fun hz => by first | exact ⟨rfl, rfl⟩ | (exact absurd (k2 hz) h3) | (exact absurd (k2 hz) h6)⟩, rfl⟩
        · skip
          change ev_wp pg_F pg_lay none [] (ev_lu pg_c109) (fun _ => false) _ 1983 34 [some (.ref 0), some (.int v1)] [] s9
          exact ⟨_, rfl, by first | exact Or.inl rfl | exact Or.inr rfl, Nat.le_of_eq (congrArg Prod.snd r10.2.1), _, ⟨by first | exact Or.inl rfl | exact Or.inr rfl, r10, fun hz => by first | exact ⟨rfl, rfl⟩ | (exact absurd (k2 hz) h3) | (exact absurd (k2 hz) h6) | (exact absurd (k2 hz) h11)⟩, rfl⟩
  · cases h
theorem pr_115 : pg_Rn pg_F 115 pg_y115 [] pg_t115 := by
  intro vs σ P h hp
  replace h : pf_115 vs σ = some P := h
  unfold pf_115 at h
  split at h
  · cases h
    refine ⟨by simp [Value.category], Nat.le_of_ble_eq_true rfl, ev_go pg_hhs pg_cd pg_o115 (fun _ => false) 2000 (Q1 := ev_at (ev_tl pg_t115) σ.2.2 (sp_m True (fun v σ' => sp_b v ∧ sp_t σ σ' ∧ (sp_zero σ → v = 1 ∧ σ' = σ))).2) ?_ (fun _ _ _ _ h => ev_fin h)⟩
    change ev_wp pg_F pg_lay none [] (ev_lu pg_c115) (fun _ => false) _ 2000 0 [some (.ref 0), none] [] σ
    refine ⟨trivial, ?_⟩
    rintro _ _ ⟨v1, k2, rfl, rfl⟩
    change ev_wp pg_F pg_lay none [] (ev_lu pg_c115) (fun _ => false) _ 1998 4 [some (.ref 0), none] [.int v1] σ
    refine ⟨fun (h3 : v1 = (-1)) => ?_, fun (h3 : ¬ v1 = (-1)) => ?_⟩
    · skip
      change ev_wp pg_F pg_lay none [] (ev_lu pg_c115) (fun _ => false) _ 1994 18 [some (.ref 0), some (.int v1)] [] σ
      exact ⟨_, rfl, by first | exact Or.inl rfl | exact Or.inr rfl, Nat.le_of_eq (congrArg Prod.snd (sp_t.rf σ).2.1), _, ⟨by first | exact Or.inl rfl | exact Or.inr rfl, (sp_t.rf σ), fun hz => by first | exact ⟨rfl, rfl⟩⟩, rfl⟩
    · skip
      change ev_wp pg_F pg_lay none [] (ev_lu pg_c115) (fun _ => false) _ 1994 10 [some (.ref 0), some (.int v1)] [] σ
      refine ⟨trivial, ?_⟩
      rintro _ _ ⟨v4, k5, rfl, rfl⟩
      change ev_wp pg_F pg_lay none [] (ev_lu pg_c115) (fun _ => false) _ 1991 15 [some (.ref 0), some (.int v1)] [.int v4] σ
      refine ⟨fun (h6 : v4 = 0) => ?_, fun (h6 : ¬ v4 = 0) => ?_⟩
      · skip
        change ev_wp pg_F pg_lay none [] (ev_lu pg_c115) (fun _ => false) _ 1990 18 [some (.ref 0), some (.int v1)] [] σ
        exact ⟨_, rfl, by first | exact Or.inl rfl | exact Or.inr rfl, Nat.le_of_eq (congrArg Prod.snd (sp_t.rf σ).2.1), _, ⟨by first | exact Or.inl rfl | exact Or.inr rfl, (sp_t.rf σ), fun hz => by first | exact ⟨rfl, rfl⟩ | (exact absurd (k2 hz) h3)⟩, rfl⟩
      · skip
        change ev_wp pg_F pg_lay none [] (ev_lu pg_c115) (fun _ => false) _ 1990 20 [some (.ref 0), some (.int v1)] [] σ
        have r7 := (sp_t.rf σ).tr (sp_up0 σ 4 v1 (fun h => absurd h (by decide)))
        refine ⟨trivial, ?_⟩
        rintro _ s10 ⟨v8, k9, rfl⟩
        have r11 := r7.tr k9.2.t
        exact ⟨_, rfl, k9.1, Nat.le_of_eq (congrArg Prod.snd r11.2.1), _, ⟨k9.1, r11, fun hz => by first | exact ⟨rfl, rfl⟩ | (exact absurd (k2 hz) h3) | (exact absurd (k2 hz) h6)⟩, rfl⟩
  · cases h
theorem pr_116 : pg_Rn pg_F 116 pg_y116 [] pg_t116 := by
  intro vs σ P h hp
  replace h : pf_116 vs σ = some P := h
  unfold pf_116 at h
  split at h
  · rename_i a b
    cases h
    refine ⟨by simp [Value.category], Nat.le_of_ble_eq_true rfl, ev_go pg_hhs pg_cd pg_o116 (fun _ => false) 2000 (Q1 := ev_at (ev_tl pg_t116) σ.2.2 (sp_i True (fun v => sp_zero σ → v = -1) σ).2) ?_ (fun _ _ _ _ h => ev_fin h)⟩
    change ev_wp pg_F pg_lay none [] (ev_lu pg_c116) (fun _ => false) _ 2000 0 [some (.ref 0), some (.int a), some (.int b), none, none] [] σ
    refine ⟨trivial, ?_⟩
    rintro _ _ ⟨v1, k2, rfl, rfl⟩
    change ev_wp pg_F pg_lay none [] (ev_lu pg_c116) (fun _ => false) _ 1998 4 [some (.ref 0), some (.int a), some (.int b), none, none] [.int v1] σ
    refine ⟨fun (h3 : v1 = (-1)) => ?_, fun (h3 : ¬ v1 = (-1)) => ?_⟩
    · skip
      change ev_wp pg_F pg_lay none [] (ev_lu pg_c116) (fun _ => false) _ 1994 19 [some (.ref 0), some (.int a), some (.int b), some (.int v1), none] [] σ
      exact ⟨_, rfl, Nat.le_refl _, _, fun hz => by first | rfl | (exact k2 hz), rfl, rfl⟩
    · skip
      change ev_wp pg_F pg_lay none [] (ev_lu pg_c116) (fun _ => false) _ 1994 10 [some (.ref 0), some (.int a), some (.int b), some (.int v1), none] [] σ
      refine ⟨trivial, ?_⟩
      rintro _ _ ⟨rfl, rfl⟩
      change ev_wp pg_F pg_lay none [] (ev_lu pg_c116) (fun _ => false) _ 1991 16 [some (.ref 0), some (.int a), some (.int b), some (.int v1), none] [.int (sp_upto a 15)] σ
      refine ⟨fun (h4 : (sp_upto a 15) = 0) => ?_, fun (h4 : ¬ (sp_upto a 15) = 0) => ?_⟩
      · skip
        change ev_wp pg_F pg_lay none [] (ev_lu pg_c116) (fun _ => false) _ 1990 19 [some (.ref 0), some (.int a), some (.int b), some (.int v1), none] [] σ
        exact ⟨_, rfl, Nat.le_refl _, _, fun hz => by first | rfl | (exact absurd (k2 hz) h3) | (exact k2 hz), rfl, rfl⟩
      · skip
        change ev_wp pg_F pg_lay none [] (ev_lu pg_c116) (fun _ => false) _ 1990 21 [some (.ref 0), some (.int a), some (.int b), some (.int v1), none] [] σ
        refine ⟨trivial, ?_⟩
        rintro _ _ ⟨v5, k6, rfl, rfl⟩
        change ev_wp pg_F pg_lay none [] (ev_lu pg_c116) (fun _ => false) _ 1986 27 [some (.ref 0), some (.int a), some (.int b), some (.int v1), none] [.int v5, .ref 0] σ
        refine ⟨trivial, ?_⟩
        rintro _ _ ⟨v7, k8, rfl, rfl⟩
        change ev_wp pg_F pg_lay none [] (ev_lu pg_c116) (fun _ => false) _ 1981 35 [some (.ref 0), some (.int a), some (.int b), some (.int v1), none] [.int v7] σ
        refine ⟨fun (h9 : v7 = (-1)) => ?_, fun (h9 : ¬ v7 = (-1)) => ?_⟩
        · skip
          change ev_wp pg_F pg_lay none [] (ev_lu pg_c116) (fun _ => false) _ 1977 43 [some (.ref 0), some (.int a), some (.int b), some (.int v1), some (.int v7)] [] σ
          exact ⟨_, rfl, Nat.le_refl _, _, fun hz => by first | rfl | (exact absurd (k2 hz) h3) | (exact absurd (k2 hz) h4) | (exact k2 hz), rfl, rfl⟩
        · skip
          change ev_wp pg_F pg_lay none [] (ev_lu pg_c116) (fun _ => false) _ 1977 45 [some (.ref 0), some (.int a), some (.int b), some (.int v1), some (.int v7)] [] σ
          refine ⟨fun (h10 : b = 0) => ?_, fun (h10 : ¬ b = 0) => ?_⟩
          · skip
            change ev_wp pg_F pg_lay none [] (ev_lu pg_c116) (fun _ => false) _ 1975 96 [some (.ref 0), some (.int a), some (.int b), some (.int v1), some (.int v7)] [] σ
            refine ⟨trivial, ?_⟩
            rintro _ _ ⟨rfl, rfl⟩
            exact ⟨_, rfl, Nat.le_refl _, _, fun hz => by first | rfl | (exact absurd (k2 hz) h3) | (exact absurd (k2 hz) h4) | (exact absurd (k2 hz) h9) | (exact k2 hz), rfl, rfl⟩
          refine ⟨fun (h11 : b = 1) => ?_, fun (h11 : ¬ b = 1) => ?_⟩
          · skip
            change ev_wp pg_F pg_lay none [] (ev_lu pg_c116) (fun _ => false) _ 1975 107 [some (.ref 0), some (.int a), some (.int b), some (.int v1), some (.int v7)] [] σ
            refine ⟨trivial, ?_⟩
            rintro _ _ ⟨rfl, rfl⟩
            exact ⟨_, rfl, Nat.le_refl _, _, fun hz => by first | rfl | (exact absurd (k2 hz) h3) | (exact absurd (k2 hz) h4) | (exact absurd (k2 hz) h9) | (exact absurd (k2 hz) h10) | (exact k2 hz), rfl, rfl⟩
          refine ⟨fun (h12 : b = 2) => ?_, fun (h12 : ¬ b = 2) => ?_⟩
          · skip
            change ev_wp pg_F pg_lay none [] (ev_lu pg_c116) (fun _ => false) _ 1975 118 [some (.ref 0), some (.int a), some (.int b), some (.int v1), some (.int v7)] [] σ
            refine ⟨trivial, ?_⟩
            rintro _ _ ⟨v13, k14, rfl, rfl⟩
            exact ⟨_, rfl, Nat.le_refl _, _, fun hz => by first | rfl | (exact absurd (k2 hz) h3) | (exact absurd (k2 hz) h4) | (exact absurd (k2 hz) h9) | (exact absurd (k2 hz) h10) | (exact absurd (k2 hz) h11) | (exact k2 hz), rfl, rfl⟩
          refine ⟨fun (h15 : b = 3) => ?_, fun (h15 : ¬ b = 3) => ?_⟩
          · skip
            change ev_wp pg_F pg_lay none [] (ev_lu pg_c116) (fun _ => false) _ 1975 125 [some (.ref 0), some (.int a), some (.int b), some (.int v1), some (.int v7)] [] σ
            refine ⟨trivial, ?_⟩
            rintro _ _ ⟨v16, k17, rfl, rfl⟩
            exact ⟨_, rfl, Nat.le_refl _, _, fun hz => by first | rfl | (exact absurd (k2 hz) h3) | (exact absurd (k2 hz) h4) | (exact absurd (k2 hz) h9) | (exact absurd (k2 hz) h10) | (exact absurd (k2 hz) h11) | (exact absurd (k2 hz) h12) | (exact k2 hz), rfl, rfl⟩
          refine ⟨fun (h18 : b = 4) => ?_, fun (h18 : ¬ b = 4) => ?_⟩
          · skip
            change ev_wp pg_F pg_lay none [] (ev_lu pg_c116) (fun _ => false) _ 1975 132 [some (.ref 0), some (.int a), some (.int b), some (.int v1), some (.int v7)] [] σ
            refine ⟨trivial, ?_⟩
            rintro _ _ ⟨v19, k20, rfl, rfl⟩
            exact ⟨_, rfl, Nat.le_refl _, _, fun hz => by first | rfl | (exact absurd (k2 hz) h3) | (exact absurd (k2 hz) h4) | (exact absurd (k2 hz) h9) | (exact absurd (k2 hz) h10) | (exact absurd (k2 hz) h11) | (exact absurd (k2 hz) h12) | (exact absurd (k2 hz) h15) | (exact k2 hz), rfl, rfl⟩
          refine ⟨fun (h21 : b = 5) => ?_, fun (h21 : ¬ b = 5) => ?_⟩
          · skip
            change ev_wp pg_F pg_lay none [] (ev_lu pg_c116) (fun _ => false) _ 1975 139 [some (.ref 0), some (.int a), some (.int b), some (.int v1), some (.int v7)] [] σ
            refine ⟨trivial, ?_⟩
            rintro _ _ ⟨v22, k23, rfl, rfl⟩
            exact ⟨_, rfl, Nat.le_refl _, _, fun hz => by first | rfl | (exact absurd (k2 hz) h3) | (exact absurd (k2 hz) h4) | (exact absurd (k2 hz) h9) | (exact absurd (k2 hz) h10) | (exact absurd (k2 hz) h11) | (exact absurd (k2 hz) h12) | (exact absurd (k2 hz) h15) | (exact absurd (k2 hz) h18) | (exact k2 hz), rfl, rfl⟩
          refine ⟨fun (h24 : b = 6) => ?_, fun (h24 : ¬ b = 6) => ?_⟩
          · skip
            change ev_wp pg_F pg_lay none [] (ev_lu pg_c116) (fun _ => false) _ 1975 146 [some (.ref 0), some (.int a), some (.int b), some (.int v1), some (.int v7)] [] σ
            refine ⟨trivial, ?_⟩
            rintro _ _ ⟨v25, k26, rfl, rfl⟩
            exact ⟨_, rfl, Nat.le_refl _, _, fun hz => by first | rfl | (exact absurd (k2 hz) h3) | (exact absurd (k2 hz) h4) | (exact absurd (k2 hz) h9) | (exact absurd (k2 hz) h10) | (exact absurd (k2 hz) h11) | (exact absurd (k2 hz) h12) | (exact absurd (k2 hz) h15) | (exact absurd (k2 hz) h18) | (exact absurd (k2 hz) h21) | (exact k2 hz), rfl, rfl⟩
          refine ⟨fun (h27 : b = 7) => ?_, fun (h27 : ¬ b = 7) => ?_⟩
          · skip
            change ev_wp pg_F pg_lay none [] (ev_lu pg_c116) (fun _ => false) _ 1975 153 [some (.ref 0), some (.int a), some (.int b), some (.int v1), some (.int v7)] [] σ
            refine ⟨trivial, ?_⟩
            rintro _ _ ⟨rfl, rfl⟩
            exact ⟨_, rfl, Nat.le_refl _, _, fun hz => by first | rfl | (exact absurd (k2 hz) h3) | (exact absurd (k2 hz) h4) | (exact absurd (k2 hz) h9) | (exact absurd (k2 hz) h10) | (exact absurd (k2 hz) h11) | (exact absurd (k2 hz) h12) | (exact absurd (k2 hz) h15) | (exact absurd (k2 hz) h18) | (exact absurd (k2 hz) h21) | (exact absurd (k2 hz) h24) | (exact k2 hz), rfl, rfl⟩
          refine ⟨fun (h28 : b = 8) => ?_, fun (h28 : ¬ b = 8) => ?_⟩
          · skip
            change ev_wp pg_F pg_lay none [] (ev_lu pg_c116) (fun _ => false) _ 1975 164 [some (.ref 0), some (.int a), some (.int b), some (.int v1), some (.int v7)] [] σ
            refine ⟨trivial, ?_⟩
            rintro _ _ ⟨rfl, rfl⟩
            exact ⟨_, rfl, Nat.le_refl _, _, fun hz => by first | rfl | (exact absurd (k2 hz) h3) | (exact absurd (k2 hz) h4) | (exact absurd (k2 hz) h9) | (exact absurd (k2 hz) h10) | (exact absurd (k2 hz) h11) | (exact absurd (k2 hz) h12) | (exact absurd (k2 hz) h15) | (exact absurd (k2 hz) h18) | (exact absurd (k2 hz) h21) | (exact absurd (k2 hz) h24) | (exact absurd (k2 hz) h27) | (exact k2 hz), rfl, rfl⟩
          change ev_wp pg_F pg_lay none [] (ev_lu pg_c116) (fun _ => false) _ 1975 176 [some (.ref 0), some (.int a), some (.int b), some (.int v1), some (.int v7)] [] σ
          exact ⟨_, rfl, Nat.le_refl _, _, fun hz => by first | rfl | (exact absurd (k2 hz) h3) | (exact absurd (k2 hz) h4) | (exact absurd (k2 hz) h9) | (exact absurd (k2 hz) h10) | (exact absurd (k2 hz) h11) | (exact absurd (k2 hz) h12) | (exact absurd (k2 hz) h15) | (exact absurd (k2 hz) h18) | (exact absurd (k2 hz) h21) | (exact absurd (k2 hz) h24) | (exact absurd (k2 hz) h27) | (exact absurd (k2 hz) h28) | (exact k2 hz), rfl, rfl⟩
  · cases h
theorem pr_117 : pg_Rn pg_F 117 pg_y117 [] pg_t117 := by
  intro vs σ P h hp
  replace h : pf_117 vs σ = some P := h
  unfold pf_117 at h
  split at h
  · rename_i a
    cases h
    refine ⟨by simp [Value.category], Nat.le_of_ble_eq_true rfl, ev_go pg_hhs pg_cd pg_o117 (fun _ => false) 2000 (Q1 := ev_at (ev_tl pg_t117) σ.2.2 (sp_i True (fun v => sp_zero σ → v = -1) σ).2) ?_ (fun _ _ _ _ h => ev_fin h)⟩
    change ev_wp pg_F pg_lay none [] (ev_lu pg_c117) (fun _ => false) _ 2000 0 [some (.ref 0), some (.int a), none] [] σ
    refine ⟨trivial, ?_⟩
    rintro _ _ ⟨v1, k2, rfl, rfl⟩
    change ev_wp pg_F pg_lay none [] (ev_lu pg_c117) (fun _ => false) _ 1998 4 [some (.ref 0), some (.int a), none] [.int v1] σ
    refine ⟨fun (h3 : v1 = (-1)) => ?_, fun (h3 : ¬ v1 = (-1)) => ?_⟩
    · skip
      change ev_wp pg_F pg_lay none [] (ev_lu pg_c117) (fun _ => false) _ 1994 10 [some (.ref 0), some (.int a), some (.int v1)] [] σ
      exact ⟨_, rfl, Nat.le_refl _, _, fun hz => by first | rfl | (exact k2 hz), rfl, rfl⟩
    · skip
      change ev_wp pg_F pg_lay none [] (ev_lu pg_c117) (fun _ => false) _ 1994 12 [some (.ref 0), some (.int a), some (.int v1)] [] σ
      refine ⟨fun (h4 : a = 0) => ?_, fun (h4 : ¬ a = 0) => ?_⟩
      · skip
        change ev_wp pg_F pg_lay none [] (ev_lu pg_c117) (fun _ => false) _ 1992 60 [some (.ref 0), some (.int a), some (.int v1)] [] σ
        refine ⟨trivial, ?_⟩
        rintro _ _ ⟨rfl, rfl⟩
        exact ⟨_, rfl, Nat.le_refl _, _, fun hz => by first | rfl | (exact absurd (k2 hz) h3) | (exact k2 hz), rfl, rfl⟩
      refine ⟨fun (h5 : a = 1) => ?_, fun (h5 : ¬ a = 1) => ?_⟩
      · skip
        change ev_wp pg_F pg_lay none [] (ev_lu pg_c117) (fun _ => false) _ 1992 70 [some (.ref 0), some (.int a), some (.int v1)] [] σ
        refine ⟨trivial, ?_⟩
        rintro _ _ ⟨v6, k7, rfl, rfl⟩
        exact ⟨_, rfl, Nat.le_refl _, _, fun hz => by first | rfl | (exact absurd (k2 hz) h3) | (exact absurd (k2 hz) h4) | (exact k2 hz), rfl, rfl⟩
      refine ⟨fun (h8 : a = 2) => ?_, fun (h8 : ¬ a = 2) => ?_⟩
      · skip
        change ev_wp pg_F pg_lay none [] (ev_lu pg_c117) (fun _ => false) _ 1992 76 [some (.ref 0), some (.int a), some (.int v1)] [] σ
        refine ⟨trivial, ?_⟩
        rintro _ _ ⟨v9, k10, rfl, rfl⟩
        exact ⟨_, rfl, Nat.le_refl _, _, fun hz => by first | rfl | (exact absurd (k2 hz) h3) | (exact absurd (k2 hz) h4) | (exact absurd (k2 hz) h5) | (exact k2 hz), rfl, rfl⟩
      refine ⟨fun (h11 : a = 3) => ?_, fun (h11 : ¬ a = 3) => ?_⟩
      · skip
        change ev_wp pg_F pg_lay none [] (ev_lu pg_c117) (fun _ => false) _ 1992 82 [some (.ref 0), some (.int a), some (.int v1)] [] σ
        refine ⟨trivial, ?_⟩
        rintro _ _ ⟨v12, k13, rfl, rfl⟩
        exact ⟨_, rfl, Nat.le_refl _, _, fun hz => by first | rfl | (exact absurd (k2 hz) h3) | (exact absurd (k2 hz) h4) | (exact absurd (k2 hz) h5) | (exact absurd (k2 hz) h8) | (exact k2 hz), rfl, rfl⟩
      refine ⟨fun (h14 : a = 4) => ?_, fun (h14 : ¬ a = 4) => ?_⟩
      · skip
        change ev_wp pg_F pg_lay none [] (ev_lu pg_c117) (fun _ => false) _ 1992 88 [some (.ref 0), some (.int a), some (.int v1)] [] σ
        refine ⟨trivial, ?_⟩
        rintro _ _ ⟨v15, k16, rfl, rfl⟩
        exact ⟨_, rfl, Nat.le_refl _, _, fun hz => by first | rfl | (exact absurd (k2 hz) h3) | (exact absurd (k2 hz) h4) | (exact absurd (k2 hz) h5) | (exact absurd (k2 hz) h8) | (exact absurd (k2 hz) h11) | (exact k2 hz), rfl, rfl⟩
      refine ⟨fun (h17 : a = 5) => ?_, fun (h17 : ¬ a = 5) => ?_⟩
      · skip
        change ev_wp pg_F pg_lay none [] (ev_lu pg_c117) (fun _ => false) _ 1992 94 [some (.ref 0), some (.int a), some (.int v1)] [] σ
        refine ⟨trivial, ?_⟩
        rintro _ _ ⟨v18, k19, rfl, rfl⟩
        exact ⟨_, rfl, Nat.le_refl _, _, fun hz => by first | rfl | (exact absurd (k2 hz) h3) | (exact absurd (k2 hz) h4) | (exact absurd (k2 hz) h5) | (exact absurd (k2 hz) h8) | (exact absurd (k2 hz) h11) | (exact absurd (k2 hz) h14) | (exact k2 hz), rfl, rfl⟩
      refine ⟨fun (h20 : a = 6) => ?_, fun (h20 : ¬ a = 6) => ?_⟩
      · skip
        change ev_wp pg_F pg_lay none [] (ev_lu pg_c117) (fun _ => false) _ 1992 100 [some (.ref 0), some (.int a), some (.int v1)] [] σ
        refine ⟨trivial, ?_⟩
        rintro _ _ ⟨v21, k22, rfl, rfl⟩
        exact ⟨_, rfl, Nat.le_refl _, _, fun hz => by first | rfl | (exact absurd (k2 hz) h3) | (exact absurd (k2 hz) h4) | (exact absurd (k2 hz) h5) | (exact absurd (k2 hz) h8) | (exact absurd (k2 hz) h11) | (exact absurd (k2 hz) h14) | (exact absurd (k2 hz) h17) | (exact k2 hz), rfl, rfl⟩
      refine ⟨fun (h23 : a = 7) => ?_, fun (h23 : ¬ a = 7) => ?_⟩
      · skip
        change ev_wp pg_F pg_lay none [] (ev_lu pg_c117) (fun _ => false) _ 1992 106 [some (.ref 0), some (.int a), some (.int v1)] [] σ
        refine ⟨trivial, ?_⟩
        rintro _ _ ⟨v24, k25, rfl, rfl⟩
        change ev_wp pg_F pg_lay none [] (ev_lu pg_c117) (fun _ => false) _ 1989 111 [some (.ref 0), some (.int a), some (.int v1)] [.int v24] σ
        refine ⟨fun (h26 : v24 = 0) => ?_, fun (h26 : ¬ v24 = 0) => ?_⟩
        · skip
          change ev_wp pg_F pg_lay none [] (ev_lu pg_c117) (fun _ => false) _ 1988 118 [some (.ref 0), some (.int a), some (.int v1)] [] σ
          exact ⟨_, rfl, Nat.le_refl _, _, fun hz => by first | rfl | (exact absurd (k2 hz) h3) | (exact absurd (k2 hz) h4) | (exact absurd (k2 hz) h5) | (exact absurd (k2 hz) h8) | (exact absurd (k2 hz) h11) | (exact absurd (k2 hz) h14) | (exact absurd (k2 hz) h17) | (exact absurd (k2 hz) h20) | (exact k2 hz), rfl, rfl⟩
        · skip
          change ev_wp pg_F pg_lay none [] (ev_lu pg_c117) (fun _ => false) _ 1988 114 [some (.ref 0), some (.int a), some (.int v1)] [] σ
          exact ⟨_, rfl, Nat.le_refl _, _, fun hz => by first | rfl | (exact absurd (k2 hz) h3) | (exact absurd (k2 hz) h4) | (exact absurd (k2 hz) h5) | (exact absurd (k2 hz) h8) | (exact absurd (k2 hz) h11) | (exact absurd (k2 hz) h14) | (exact absurd (k2 hz) h17) | (exact absurd (k2 hz) h20) | (exact absurd (k2 hz) h26) | (exact k2 hz), rfl, rfl⟩
      change ev_wp pg_F pg_lay none [] (ev_lu pg_c117) (fun _ => false) _ 1992 120 [some (.ref 0), some (.int a), some (.int v1)] [] σ
      exact ⟨_, rfl, Nat.le_refl _, _, fun hz => by first | rfl | (exact absurd (k2 hz) h3) | (exact absurd (k2 hz) h4) | (exact absurd (k2 hz) h5) | (exact absurd (k2 hz) h8) | (exact absurd (k2 hz) h11) | (exact absurd (k2 hz) h14) | (exact absurd (k2 hz) h17) | (exact absurd (k2 hz) h20) | (exact absurd (k2 hz) h23) | (exact k2 hz), rfl, rfl⟩
  · cases h
theorem pr_49 : pg_Rn pg_F 49 pg_y49 [] pg_t49 := by
  intro vs σ P h hp
  replace h : pf_49 vs σ = some P := h
  unfold pf_49 at h
  split at h
  · rename_i k a b c
    cases h
    refine ⟨by simp [Value.category], Nat.le_of_ble_eq_true rfl, ev_go pg_hhs pg_cd pg_o49 (fun _ => false) 2000 (Q1 := ev_at (ev_tl pg_t49) σ.2.2 (sp_e (sp_prod k a b c) σ).2) ?_ (fun _ _ _ _ h => ev_fin h)⟩
    change ev_wp pg_F pg_lay none [] (ev_lu pg_c49) (fun _ => false) _ 2000 0 [some (.int k), some (.int a), some (.int b), some (.int c)] [] σ
    refine ⟨trivial, ?_⟩
    rintro _ _ ⟨rfl, rfl⟩
    change ev_wp pg_F pg_lay none [] (ev_lu pg_c49) (fun _ => false) _ 1997 6 [some (.int k), some (.int a), some (.int b), some (.int c)] [.int (sp_upto a 65535)] σ
    refine ⟨fun (h1 : (sp_upto a 65535) = 0) => ?_, fun (h1 : ¬ (sp_upto a 65535) = 0) => ?_⟩
    · skip
      change ev_wp pg_F pg_lay none [] (ev_lu pg_c49) (fun _ => false) _ 1996 27 [some (.int k), some (.int a), some (.int b), some (.int c)] [] σ
      exact ⟨_, rfl, by first | exact Or.inl rfl | exact Or.inr rfl, Nat.le_refl _, congrArg (fun z => Sum.inl (some (Value.int z))) (by unfold sp_prod; rw [if_pos h1]), rfl⟩
    · skip
      change ev_wp pg_F pg_lay none [] (ev_lu pg_c49) (fun _ => false) _ 1996 9 [some (.int k), some (.int a), some (.int b), some (.int c)] [] σ
      refine ⟨trivial, ?_⟩
      rintro _ _ ⟨rfl, rfl⟩
      change ev_wp pg_F pg_lay none [] (ev_lu pg_c49) (fun _ => false) _ 1993 15 [some (.int k), some (.int a), some (.int b), some (.int c)] [.int (sp_upto b 65535)] σ
      refine ⟨fun (h2 : (sp_upto b 65535) = 0) => ?_, fun (h2 : ¬ (sp_upto b 65535) = 0) => ?_⟩
      · skip
        change ev_wp pg_F pg_lay none [] (ev_lu pg_c49) (fun _ => false) _ 1992 27 [some (.int k), some (.int a), some (.int b), some (.int c)] [] σ
        exact ⟨_, rfl, by first | exact Or.inl rfl | exact Or.inr rfl, Nat.le_refl _, congrArg (fun z => Sum.inl (some (Value.int z))) (by unfold sp_prod; rw [if_neg h1, if_pos h2]), rfl⟩
      · skip
        change ev_wp pg_F pg_lay none [] (ev_lu pg_c49) (fun _ => false) _ 1992 18 [some (.int k), some (.int a), some (.int b), some (.int c)] [] σ
        refine ⟨trivial, ?_⟩
        rintro _ _ ⟨rfl, rfl⟩
        change ev_wp pg_F pg_lay none [] (ev_lu pg_c49) (fun _ => false) _ 1989 24 [some (.int k), some (.int a), some (.int b), some (.int c)] [.int (sp_upto c 65535)] σ
        refine ⟨fun (h3 : (sp_upto c 65535) = 0) => ?_, fun (h3 : ¬ (sp_upto c 65535) = 0) => ?_⟩
        · skip
          change ev_wp pg_F pg_lay none [] (ev_lu pg_c49) (fun _ => false) _ 1988 27 [some (.int k), some (.int a), some (.int b), some (.int c)] [] σ
          exact ⟨_, rfl, by first | exact Or.inl rfl | exact Or.inr rfl, Nat.le_refl _, congrArg (fun z => Sum.inl (some (Value.int z))) (by unfold sp_prod; rw [if_neg h1, if_neg h2, if_pos h3]), rfl⟩
        · skip
          change ev_wp pg_F pg_lay none [] (ev_lu pg_c49) (fun _ => false) _ 1988 29 [some (.int k), some (.int a), some (.int b), some (.int c)] [] σ
          refine ⟨fun (h4 : k = 1) => ?_, fun (h4 : ¬ k = 1) => ?_⟩
          · skip
            change ev_wp pg_F pg_lay none [] (ev_lu pg_c49) (fun _ => false) _ 1986 56 [some (.int k), some (.int a), some (.int b), some (.int c)] [] σ
            refine ⟨fun (h5 : a < 1) => ?_, fun (h5 : ¬ a < 1) => ?_⟩
            · skip
              change ev_wp pg_F pg_lay none [] (ev_lu pg_c49) (fun _ => false) _ 1983 79 [some (.int k), some (.int a), some (.int b), some (.int c)] [] σ
              exact ⟨_, rfl, by first | exact Or.inl rfl | exact Or.inr rfl, Nat.le_refl _, congrArg (fun z => Sum.inl (some (Value.int z))) (by unfold sp_prod; rw [if_neg h1, if_neg h2, if_neg h3, if_pos h4, if_pos h5]), rfl⟩
            · skip
              change ev_wp pg_F pg_lay none [] (ev_lu pg_c49) (fun _ => false) _ 1983 61 [some (.int k), some (.int a), some (.int b), some (.int c)] [] σ
              refine ⟨fun (h6 : 60 < a) => ?_, fun (h6 : ¬ 60 < a) => ?_⟩
              · skip
                change ev_wp pg_F pg_lay none [] (ev_lu pg_c49) (fun _ => false) _ 1980 79 [some (.int k), some (.int a), some (.int b), some (.int c)] [] σ
                exact ⟨_, rfl, by first | exact Or.inl rfl | exact Or.inr rfl, Nat.le_refl _, congrArg (fun z => Sum.inl (some (Value.int z))) (by unfold sp_prod; rw [if_neg h1, if_neg h2, if_neg h3, if_pos h4, if_neg h5, if_pos h6]), rfl⟩
              · skip
                change ev_wp pg_F pg_lay none [] (ev_lu pg_c49) (fun _ => false) _ 1980 67 [some (.int k), some (.int a), some (.int b), some (.int c)] [] σ
                refine ⟨fun (h7 : b = 0) => ?_, fun (h7 : ¬ b = 0) => ?_⟩
                · skip
                  change ev_wp pg_F pg_lay none [] (ev_lu pg_c49) (fun _ => false) _ 1978 71 [some (.int k), some (.int a), some (.int b), some (.int c)] [] σ
                  refine ⟨fun (h8 : c = 0) => ?_, fun (h8 : ¬ c = 0) => ?_⟩
                  · skip
                    change ev_wp pg_F pg_lay none [] (ev_lu pg_c49) (fun _ => false) _ 1976 75 [some (.int k), some (.int a), some (.int b), some (.int c)] [] σ
                    exact ⟨_, rfl, by first | exact Or.inl rfl | exact Or.inr rfl, Nat.le_refl _, congrArg (fun z => Sum.inl (some (Value.int z))) (by unfold sp_prod; rw [if_neg h1, if_neg h2, if_neg h3, if_pos h4, if_neg h5, if_neg h6, if_pos h7, if_pos h8]), rfl⟩
                  · skip
                    change ev_wp pg_F pg_lay none [] (ev_lu pg_c49) (fun _ => false) _ 1976 79 [some (.int k), some (.int a), some (.int b), some (.int c)] [] σ
                    exact ⟨_, rfl, by first | exact Or.inl rfl | exact Or.inr rfl, Nat.le_refl _, congrArg (fun z => Sum.inl (some (Value.int z))) (by unfold sp_prod; rw [if_neg h1, if_neg h2, if_neg h3, if_pos h4, if_neg h5, if_neg h6, if_pos h7, if_neg h8]), rfl⟩
                · skip
                  change ev_wp pg_F pg_lay none [] (ev_lu pg_c49) (fun _ => false) _ 1978 79 [some (.int k), some (.int a), some (.int b), some (.int c)] [] σ
                  exact ⟨_, rfl, by first | exact Or.inl rfl | exact Or.inr rfl, Nat.le_refl _, congrArg (fun z => Sum.inl (some (Value.int z))) (by unfold sp_prod; rw [if_neg h1, if_neg h2, if_neg h3, if_pos h4, if_neg h5, if_neg h6, if_neg h7]), rfl⟩
          refine ⟨fun (h9 : k = 2) => ?_, fun (h9 : ¬ k = 2) => ?_⟩
          · skip
            change ev_wp pg_F pg_lay none [] (ev_lu pg_c49) (fun _ => false) _ 1986 81 [some (.int k), some (.int a), some (.int b), some (.int c)] [] σ
            refine ⟨fun (h10 : a < 1) => ?_, fun (h10 : ¬ a < 1) => ?_⟩
            · skip
              change ev_wp pg_F pg_lay none [] (ev_lu pg_c49) (fun _ => false) _ 1983 95 [some (.int k), some (.int a), some (.int b), some (.int c)] [] σ
              exact ⟨_, rfl, by first | exact Or.inl rfl | exact Or.inr rfl, Nat.le_refl _, congrArg (fun z => Sum.inl (some (Value.int z))) (by unfold sp_prod; rw [if_neg h1, if_neg h2, if_neg h3, if_neg h4, if_pos h9, if_pos h10]), rfl⟩
            · skip
              change ev_wp pg_F pg_lay none [] (ev_lu pg_c49) (fun _ => false) _ 1983 86 [some (.int k), some (.int a), some (.int b), some (.int c)] [] σ
              refine ⟨fun (h11 : c < b) => ?_, fun (h11 : ¬ c < b) => ?_⟩
              · skip
                change ev_wp pg_F pg_lay none [] (ev_lu pg_c49) (fun _ => false) _ 1980 95 [some (.int k), some (.int a), some (.int b), some (.int c)] [] σ
                exact ⟨_, rfl, by first | exact Or.inl rfl | exact Or.inr rfl, Nat.le_refl _, congrArg (fun z => Sum.inl (some (Value.int z))) (by unfold sp_prod; rw [if_neg h1, if_neg h2, if_neg h3, if_neg h4, if_pos h9, if_neg h10, if_pos h11]), rfl⟩
              · skip
                change ev_wp pg_F pg_lay none [] (ev_lu pg_c49) (fun _ => false) _ 1980 91 [some (.int k), some (.int a), some (.int b), some (.int c)] [] σ
                exact ⟨_, rfl, by first | exact Or.inl rfl | exact Or.inr rfl, Nat.le_refl _, congrArg (fun z => Sum.inl (some (Value.int z))) (by unfold sp_prod; rw [if_neg h1, if_neg h2, if_neg h3, if_neg h4, if_pos h9, if_neg h10, if_neg h11]), rfl⟩
          refine ⟨fun (h12 : k = 3) => ?_, fun (h12 : ¬ k = 3) => ?_⟩
          · skip
            change ev_wp pg_F pg_lay none [] (ev_lu pg_c49) (fun _ => false) _ 1986 97 [some (.int k), some (.int a), some (.int b), some (.int c)] [] σ
            refine ⟨fun (h13 : c = 0) => ?_, fun (h13 : ¬ c = 0) => ?_⟩
            · skip
              change ev_wp pg_F pg_lay none [] (ev_lu pg_c49) (fun _ => false) _ 1984 101 [some (.int k), some (.int a), some (.int b), some (.int c)] [] σ
              exact ⟨_, rfl, by first | exact Or.inl rfl | exact Or.inr rfl, Nat.le_refl _, congrArg (fun z => Sum.inl (some (Value.int z))) (by unfold sp_prod; rw [if_neg h1, if_neg h2, if_neg h3, if_neg h4, if_neg h9, if_pos h12, if_pos h13]), rfl⟩
            · skip
              change ev_wp pg_F pg_lay none [] (ev_lu pg_c49) (fun _ => false) _ 1984 105 [some (.int k), some (.int a), some (.int b), some (.int c)] [] σ
              exact ⟨_, rfl, by first | exact Or.inl rfl | exact Or.inr rfl, Nat.le_refl _, congrArg (fun z => Sum.inl (some (Value.int z))) (by unfold sp_prod; rw [if_neg h1, if_neg h2, if_neg h3, if_neg h4, if_neg h9, if_pos h12, if_neg h13]), rfl⟩
          change ev_wp pg_F pg_lay none [] (ev_lu pg_c49) (fun _ => false) _ 1986 107 [some (.int k), some (.int a), some (.int b), some (.int c)] [] σ
          exact ⟨_, rfl, by first | exact Or.inl rfl | exact Or.inr rfl, Nat.le_refl _, congrArg (fun z => Sum.inl (some (Value.int z))) (by unfold sp_prod; rw [if_neg h1, if_neg h2, if_neg h3, if_neg h4, if_neg h9, if_neg h12]), rfl⟩
  · cases h
theorem pr_72 : pg_Rn pg_F 72 pg_y72 [] pg_t72 := by
  intro vs σ P h hp
  replace h : pf_72 vs σ = some P := h
  unfold pf_72 at h
  split at h
  · rename_i a
    cases h
    refine ⟨by simp [Value.category], Nat.le_of_ble_eq_true rfl, ev_go pg_hhs pg_cd pg_o72 (fun _ => false) 2000 (Q1 := ev_at (ev_tl pg_t72) σ.2.2 (sp_i (sp_inv σ) (fun v => sp_fresh σ → v = sp_cnt a) σ).2) ?_ (fun _ _ _ _ h => ev_fin h)⟩
    change ev_wp pg_F pg_lay none [] (ev_lu pg_c72) (fun _ => false) _ 2000 0 [some (.ref 0), some (.int a)] [] σ
    refine ⟨fun (h1 : a = 0) => ?_, fun (h1 : ¬ a = 0) => ?_⟩
    · skip
      change ev_wp pg_F pg_lay none [] (ev_lu pg_c72) (fun _ => false) _ 1998 32 [some (.ref 0), some (.int a)] [] σ
      refine ⟨trivial, ?_⟩
      rintro _ _ ⟨rfl, rfl⟩
      exact ⟨_, rfl, Nat.le_refl _, _, fun hz => by unfold sp_cnt; rw [if_pos h1] <;> first | (rfl) | (exact hz.2.1) | (exact hz.2.2.1), rfl, rfl⟩
    refine ⟨fun (h2 : a = 1) => ?_, fun (h2 : ¬ a = 1) => ?_⟩
    · skip
      change ev_wp pg_F pg_lay none [] (ev_lu pg_c72) (fun _ => false) _ 1998 40 [some (.ref 0), some (.int a)] [] σ
      refine ⟨trivial, ?_⟩
      rintro _ _ ⟨v3, k4, rfl, rfl⟩
      exact ⟨_, rfl, Nat.le_refl _, _, fun hz => by unfold sp_cnt; rw [if_neg h1, if_pos h2] <;> first | (rfl) | (exact hz.2.1) | (exact hz.2.2.1) | (exact k4 hz.1) | (exact absurd hz.2.2.2.1 h1), rfl, rfl⟩
    refine ⟨fun (h5 : a = 2) => ?_, fun (h5 : ¬ a = 2) => ?_⟩
    · skip
      change ev_wp pg_F pg_lay none [] (ev_lu pg_c72) (fun _ => false) _ 1998 45 [some (.ref 0), some (.int a)] [] σ
      refine ⟨trivial, ?_⟩
      rintro _ _ ⟨rfl, rfl⟩
      exact ⟨_, rfl, Nat.le_refl _, _, fun hz => by unfold sp_cnt; rw [if_neg h1, if_neg h2, if_pos h5] <;> first | (rfl) | (exact hz.2.1) | (exact hz.2.2.1) | (exact absurd hz.2.2.2.1 h1) | (exact absurd hz.2.2.2.1 h2), rfl, rfl⟩
    refine ⟨fun (h6 : a = 3) => ?_, fun (h6 : ¬ a = 3) => ?_⟩
    · skip
      change ev_wp pg_F pg_lay none [] (ev_lu pg_c72) (fun _ => false) _ 1998 53 [some (.ref 0), some (.int a)] [] σ
      refine ⟨hp.2.1, ?_⟩
      rintro _ _ ⟨rfl, rfl⟩
      change ev_wp pg_F pg_lay none [] (ev_lu pg_c72) (fun _ => false) _ 1995 60 [some (.ref 0), some (.int a)] [.int (σ.1 1 4)] σ
      refine ⟨fun (h7 : (σ.1 1 4) = 0) => ?_, fun (h7 : ¬ (σ.1 1 4) = 0) => ?_⟩
      · skip
        change ev_wp pg_F pg_lay none [] (ev_lu pg_c72) (fun _ => false) _ 1994 67 [some (.ref 0), some (.int a)] [] σ
        exact ⟨_, rfl, Nat.le_refl _, _, fun hz => by unfold sp_cnt; rw [if_neg h1, if_neg h2, if_neg h5, if_pos h6] <;> first | (rfl) | (exact hz.2.1) | (exact hz.2.2.1) | (exact absurd hz.2.2.2.1 h1) | (exact absurd hz.2.2.2.1 h2) | (exact absurd hz.2.2.2.1 h5), rfl, rfl⟩
      · skip
        change ev_wp pg_F pg_lay none [] (ev_lu pg_c72) (fun _ => false) _ 1994 63 [some (.ref 0), some (.int a)] [] σ
        exact ⟨_, rfl, Nat.le_refl _, _, fun hz => by unfold sp_cnt; rw [if_neg h1, if_neg h2, if_neg h5, if_pos h6] <;> first | (rfl) | (exact hz.2.1) | (exact hz.2.2.1) | (exact absurd hz.2.2.2.1 h1) | (exact absurd hz.2.2.2.1 h2) | (exact absurd hz.2.2.2.1 h5) | (exact absurd hz.2.2.2.1 h7), rfl, rfl⟩
    change ev_wp pg_F pg_lay none [] (ev_lu pg_c72) (fun _ => false) _ 1998 69 [some (.ref 0), some (.int a)] [] σ
    exact ⟨_, rfl, Nat.le_refl _, _, fun hz => by unfold sp_cnt; rw [if_neg h1, if_neg h2, if_neg h5, if_neg h6] <;> first | (rfl) | (exact hz.2.1) | (exact hz.2.2.1) | (exact absurd hz.2.2.2.1 h1) | (exact absurd hz.2.2.2.1 h2) | (exact absurd hz.2.2.2.1 h5) | (exact absurd hz.2.2.2.1 h6), rfl, rfl⟩
  · cases h
theorem pr_36 : pg_Rn pg_F 36 pg_y36 [] pg_t36 := by
  intro vs σ P h hp
  replace h : pf_36 vs σ = some P := h
  unfold pf_36 at h
  split at h
  · cases h
    refine ⟨by simp [Value.category], Nat.le_of_ble_eq_true rfl, ev_go pg_hhs pg_cd pg_o36 (fun _ => false) 2000 (Q1 := ev_at (ev_tl pg_t36) σ.2.2 (sp_m (sp_inv σ) (fun v σ' => sp_b v ∧ sp_w σ σ' ∧ (σ.1 1 4 = 0 → v = 0))).2) ?_ (fun _ _ _ _ h => ev_fin h)⟩
    change ev_wp pg_F pg_lay none [] (ev_lu pg_c36) (fun _ => false) _ 2000 0 [some (.ref 0)] [] σ
    refine ⟨hp.2.1, ?_⟩
    rintro _ _ ⟨rfl, rfl⟩
    change ev_wp pg_F pg_lay none [] (ev_lu pg_c36) (fun _ => false) _ 1997 7 [some (.ref 0)] [.int (σ.1 1 4)] σ
    refine ⟨fun (h1 : (σ.1 1 4) = 0) => ?_, fun (h1 : ¬ (σ.1 1 4) = 0) => ?_⟩
    · skip
      change ev_wp pg_F pg_lay none [] (ev_lu pg_c36) (fun _ => false) _ 1996 10 [some (.ref 0)] [] σ
      exact ⟨_, rfl, by first | exact Or.inl rfl | exact Or.inr rfl, Nat.le_of_eq (congrArg Prod.snd (sp_w.rf σ).2.1), _, ⟨by first | exact Or.inl rfl | exact Or.inr rfl, (sp_w.rf σ), fun hz => by first | rfl | exact absurd hz h1⟩, rfl⟩
    · skip
      change ev_wp pg_F pg_lay none [] (ev_lu pg_c36) (fun _ => false) _ 1996 12 [some (.ref 0)] [] σ
      refine ⟨trivial, ?_⟩
      rintro _ _ ⟨rfl, rfl⟩
      have r2 := (sp_w.rf σ).tr ((sp_up1 σ 4 0 (fun _ => Or.inl rfl) (fun h => absurd h (by decide))).tr (sp_up1 _ 5 0 (fun h => absurd h (by decide)) (fun _ => Or.inl rfl)))
      have i3 := ((sp_up1 σ 4 0 (fun _ => Or.inl rfl) (fun h => absurd h (by decide))).tr (sp_up1 _ 5 0 (fun h => absurd h (by decide)) (fun _ => Or.inl rfl))).inv hp
      change ev_wp pg_F pg_lay none [] (ev_lu pg_c36) (fun _ => false) _ 1993 19 [some (.ref 0)] [] (ev_up (ev_up σ 1 4 0) 1 5 0)
      exact ⟨_, rfl, by first | exact Or.inl rfl | exact Or.inr rfl, Nat.le_of_eq (congrArg Prod.snd r2.2.1), _, ⟨by first | exact Or.inl rfl | exact Or.inr rfl, r2, fun hz => by first | rfl | exact absurd hz h1⟩, rfl⟩
  · cases h
