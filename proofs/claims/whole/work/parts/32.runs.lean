/-! THE RUNS OF THE BODIES (laid by wip/gen/spec.py) -/
theorem pr_0 : pg_Rn pg_F 0 pg_y0 [] pg_t0 := by
  intro vs σ P h hp
  replace h : pf_0 vs σ = some P := h
  unfold pf_0 at h
  split at h
  · rename_i a b
    cases h
    refine ⟨by simp [Value.category], Nat.le_of_ble_eq_true rfl, ev_go pg_hhs pg_cd pg_o0 (fun _ => false) 2000 (Q1 := ev_at (ev_tl pg_t0) σ.2.2 (sp_i True (fun _ => True) σ).2) ?_ (fun _ _ _ _ h => ev_fin h)⟩
    change ev_wp pg_F pg_lay none [] (ev_lu pg_c0) (fun _ => false) _ 2000 0 [some (.int a), some (.int b)] [] σ
    exact ⟨_, rfl, Nat.le_refl _, _, trivial, rfl, rfl⟩
  · cases h
theorem pr_1 : pg_Rn pg_F 1 pg_y1 [] pg_t1 := by
  intro vs σ P h hp
  replace h : pf_1 vs σ = some P := h
  unfold pf_1 at h
  split at h
  · rename_i n t
    cases h
    refine ⟨by simp [Value.category], Nat.le_of_ble_eq_true rfl, ev_go pg_hhs pg_cd pg_o1 (fun _ => false) 2000 (Q1 := ev_at (ev_tl pg_t1) σ.2.2 (sp_e (sp_upto n t) σ).2) ?_ (fun _ _ _ _ h => ev_fin h)⟩
    change ev_wp pg_F pg_lay none [] (ev_lu pg_c1) (fun _ => false) _ 2000 0 [some (.int n), some (.int t)] [] σ
    refine ⟨fun (h1 : n < 0) => ?_, fun (h1 : ¬ n < 0) => ?_⟩
    · skip
      change ev_wp pg_F pg_lay none [] (ev_lu pg_c1) (fun _ => false) _ 1998 13 [some (.int n), some (.int t)] [] σ
      exact ⟨_, rfl, by first | exact Or.inl rfl | exact Or.inr rfl, Nat.le_refl _, congrArg (fun z => Sum.inl (some (Value.int z))) (by simp only [sp_upto, h1, ↓reduceIte]), rfl⟩
    · skip
      change ev_wp pg_F pg_lay none [] (ev_lu pg_c1) (fun _ => false) _ 1998 4 [some (.int n), some (.int t)] [] σ
      refine ⟨fun (h2 : t < n) => ?_, fun (h2 : ¬ t < n) => ?_⟩
      · skip
        change ev_wp pg_F pg_lay none [] (ev_lu pg_c1) (fun _ => false) _ 1995 13 [some (.int n), some (.int t)] [] σ
        exact ⟨_, rfl, by first | exact Or.inl rfl | exact Or.inr rfl, Nat.le_refl _, congrArg (fun z => Sum.inl (some (Value.int z))) (by simp only [sp_upto, h1, h2, ↓reduceIte]), rfl⟩
      · skip
        change ev_wp pg_F pg_lay none [] (ev_lu pg_c1) (fun _ => false) _ 1995 9 [some (.int n), some (.int t)] [] σ
        exact ⟨_, rfl, by first | exact Or.inl rfl | exact Or.inr rfl, Nat.le_refl _, congrArg (fun z => Sum.inl (some (Value.int z))) (by simp only [sp_upto, h1, h2, ↓reduceIte]), rfl⟩
  · cases h
theorem pr_2 : pg_Rn pg_F 2 pg_y2 [] pg_t2 := by
  intro vs σ P h hp
  replace h : pf_2 vs σ = some P := h
  unfold pf_2 at h
  split at h
  · rename_i a
    cases h
    refine ⟨by simp [Value.category], Nat.le_of_ble_eq_true rfl, ev_go pg_hhs pg_cd pg_o2 (fun _ => false) 2000 (Q1 := ev_at (ev_tl pg_t2) σ.2.2 (sp_i True (fun _ => True) σ).2) ?_ (fun _ _ _ _ h => ev_fin h)⟩
    change ev_wp pg_F pg_lay none [] (ev_lu pg_c2) (fun _ => false) _ 2000 0 [some (.int a)] [] σ
    exact ⟨_, rfl, Nat.le_refl _, _, trivial, rfl, rfl⟩
  · cases h
theorem pr_3 : pg_Rn pg_F 3 pg_y3 [] pg_t3 := by
  intro vs σ P h hp
  replace h : pf_3 vs σ = some P := h
  unfold pf_3 at h
  split at h
  · rename_i a b
    cases h
    refine ⟨by simp [Value.category], Nat.le_of_ble_eq_true rfl, ev_go pg_hhs pg_cd pg_o3 (fun _ => false) 2000 (Q1 := ev_at (ev_tl pg_t3) σ.2.2 (sp_i True (fun _ => True) σ).2) ?_ (fun _ _ _ _ h => ev_fin h)⟩
    change ev_wp pg_F pg_lay none [] (ev_lu pg_c3) (fun _ => false) _ 2000 0 [some (.ref 0), some (.int a), some (.int b)] [] σ
    exact ⟨_, rfl, Nat.le_refl _, _, trivial, rfl, rfl⟩
  · cases h
theorem pr_4 : pg_Rn pg_F 4 pg_y4 [] pg_t4 := by
  intro vs σ P h hp
  replace h : pf_4 vs σ = some P := h
  unfold pf_4 at h
  split at h
  · cases h
    refine ⟨by simp [Value.category], Nat.le_of_ble_eq_true rfl, ev_go pg_hhs pg_cd pg_o4 (fun _ => false) 2000 (Q1 := ev_at (ev_tl pg_t4) σ.2.2 (sp_i (sp_inv σ) (fun _ => True) σ).2) ?_ (fun _ _ _ _ h => ev_fin h)⟩
    change ev_wp pg_F pg_lay none [] (ev_lu pg_c4) (fun _ => false) _ 2000 0 [some (.ref 0)] [] σ
    refine ⟨hp.1, ?_⟩
    exact ⟨_, rfl, Nat.le_refl _, _, trivial, rfl, rfl⟩
  · cases h
theorem pr_5 : pg_Rn pg_F 5 pg_y5 [] pg_t5 := by
  intro vs σ P h hp
  replace h : pf_5 vs σ = some P := h
  unfold pf_5 at h
  split at h
  · cases h
    refine ⟨by simp [Value.category], Nat.le_of_ble_eq_true rfl, ev_go pg_hhs pg_cd pg_o5 (fun _ => false) 2000 (Q1 := ev_at (ev_tl pg_t5) σ.2.2 (sp_e (σ.1 0 5) σ).2) ?_ (fun _ _ _ _ h => ev_fin h)⟩
    change ev_wp pg_F pg_lay none [] (ev_lu pg_c5) (fun _ => false) _ 2000 0 [some (.ref 0)] [] σ
    exact ⟨_, rfl, Nat.le_refl _, rfl, rfl⟩
  · cases h
theorem pr_6 : pg_Rn pg_F 6 pg_y6 [] pg_t6 := by
  intro vs σ P h hp
  replace h : pf_6 vs σ = some P := h
  unfold pf_6 at h
  split at h
  · rename_i a
    cases h
    refine ⟨by simp [Value.category], Nat.le_of_ble_eq_true rfl, ev_go pg_hhs pg_cd pg_o6 (fun _ => false) 2000 (Q1 := ev_at (ev_tl pg_t6) σ.2.2 (sp_m True (fun v σ' => v = 3 ∧ σ' = ev_up σ 0 5 a)).2) ?_ (fun _ _ _ _ h => ev_fin h)⟩
    change ev_wp pg_F pg_lay none [] (ev_lu pg_c6) (fun _ => false) _ 2000 0 [some (.ref 0), some (.int a)] [] σ
    exact ⟨_, rfl, Nat.le_refl _, _, ⟨rfl, rfl⟩, rfl⟩
  · cases h
theorem pr_7 : pg_Rn pg_F 7 pg_y7 [] pg_t7 := by
  intro vs σ P h hp
  replace h : pf_7 vs σ = some P := h
  unfold pf_7 at h
  split at h
  · rename_i a b
    cases h
    refine ⟨by simp [Value.category], Nat.le_of_ble_eq_true rfl, ev_go pg_hhs pg_cd pg_o7 (fun _ => false) 2000 (Q1 := ev_at (ev_tl pg_t7) σ.2.2 (sp_e (sp_add a b) σ).2) ?_ (fun _ _ _ _ h => ev_fin h)⟩
    change ev_wp pg_F pg_lay none [] (ev_lu pg_c7) (fun _ => false) _ 2000 0 [some (.int a), some (.int b), none] [] σ
    refine ⟨fun (h1 : (a + b) ≤ 65535) => ?_, fun (h1 : ¬ (a + b) ≤ 65535) => ?_⟩
    · skip
      change ev_wp pg_F pg_lay none [] (ev_lu pg_c7) (fun _ => false) _ 1993 17 [some (.int a), some (.int b), some (.int (a + b))] [] σ
      exact ⟨_, rfl, Nat.le_refl _, congrArg (fun z => Sum.inl (some (Value.int z))) (by simp only [sp_add, h1, ↓reduceIte]), rfl⟩
    · skip
      change ev_wp pg_F pg_lay none [] (ev_lu pg_c7) (fun _ => false) _ 1993 10 [some (.int a), some (.int b), some (.int (a + b))] [] σ
      exact ⟨_, rfl, Nat.le_refl _, congrArg (fun z => Sum.inl (some (Value.int z))) (by simp only [sp_add, h1, ↓reduceIte]), rfl⟩
  · cases h
theorem pr_8 : pg_Rn pg_F 8 pg_y8 [] pg_t8 := by
  intro vs σ P h hp
  replace h : pf_8 vs σ = some P := h
  unfold pf_8 at h
  split at h
  · rename_i b w
    cases h
    refine ⟨by simp [Value.category], Nat.le_of_ble_eq_true rfl, ev_go pg_hhs pg_cd pg_o8 (fun _ => false) 2000 (Q1 := ev_at (ev_tl pg_t8) σ.2.2 (sp_e (sp_at σ b w) σ).2) ?_ (fun _ _ _ _ h => ev_fin h)⟩
    change ev_wp pg_F pg_lay none [] (ev_lu pg_c8) (fun _ => false) _ 2000 0 [some (.ref 1), some (.int b), some (.int w), none] [] σ
    refine ⟨fun (h1 : ((b * 4) + w) < 0) => ?_, fun (h1 : ¬ ((b * 4) + w) < 0) => ?_⟩
    · skip
      change ev_wp pg_F pg_lay none [] (ev_lu pg_c8) (fun _ => false) _ 1992 28 [some (.ref 1), some (.int b), some (.int w), some (.int ((b * 4) + w))] [] σ
      exact ⟨_, rfl, Nat.le_refl _, congrArg (fun z => Sum.inl (some (Value.int z))) (by simp only [sp_at, h1, ↓reduceIte]), rfl⟩
    · skip
      change ev_wp pg_F pg_lay none [] (ev_lu pg_c8) (fun _ => false) _ 1992 10 [some (.ref 1), some (.int b), some (.int w), some (.int ((b * 4) + w))] [] σ
      refine ⟨fun (h2 : (Int32.ofNat 256) ≤ ((b * 4) + w)) => ?_, fun (h2 : ¬ (Int32.ofNat 256) ≤ ((b * 4) + w)) => ?_⟩
      · skip
        change ev_wp pg_F pg_lay none [] (ev_lu pg_c8) (fun _ => false) _ 1987 28 [some (.ref 1), some (.int b), some (.int w), some (.int ((b * 4) + w))] [] σ
        exact ⟨_, rfl, Nat.le_refl _, congrArg (fun z => Sum.inl (some (Value.int z))) (by simp only [sp_at, h1, h2, ↓reduceIte]), rfl⟩
      · skip
        change ev_wp pg_F pg_lay none [] (ev_lu pg_c8) (fun _ => false) _ 1987 19 [some (.ref 1), some (.int b), some (.int w), some (.int ((b * 4) + w))] [] σ
        refine ⟨sp_in2 (by decide) h1 h2, ?_⟩
        change ev_wp pg_F pg_lay none [] (ev_lu pg_c8) (fun _ => false) _ 1983 25 [some (.ref 1), some (.int b), some (.int w), some (.int ((b * 4) + w))] [.int (σ.1 4 (Int32.toNatClampNeg ((b * 4) + w)))] σ
        exact ⟨_, rfl, Nat.le_refl _, congrArg (fun z => Sum.inl (some (Value.int z))) (by simp only [sp_at, h1, h2, ↓reduceIte]), rfl⟩
  · cases h
theorem pr_9 : pg_Rn pg_F 9 pg_y9 [] pg_t9 := by
  intro vs σ P h hp
  replace h : pf_9 vs σ = some P := h
  unfold pf_9 at h
  split at h
  · cases h
    refine ⟨by simp [Value.category], Nat.le_of_ble_eq_true rfl, ev_go pg_hhs pg_cd pg_o9 (fun _ => false) 2000 (Q1 := ev_at (ev_tl pg_t9) σ.2.2 (sp_v True (fun σ' => σ' = ev_up σ 1 4 1)).2) ?_ (fun _ _ _ _ h => ev_fin h)⟩
    change ev_wp pg_F pg_lay none [] (ev_lu pg_c9) (fun _ => false) _ 2000 0 [some (.ref 1)] [] σ
    refine ⟨Or.inr rfl, ?_⟩
    exact ⟨rfl, Nat.le_refl _, rfl, rfl⟩
  · cases h
theorem pr_11 : pg_Rn pg_F 11 pg_y11 [] pg_t11 := by
  intro vs σ P h hp
  replace h : pf_11 vs σ = some P := h
  unfold pf_11 at h
  split at h
  · cases h
    refine ⟨by simp [Value.category], Nat.le_of_ble_eq_true rfl, ev_go pg_hhs pg_cd pg_o11 (fun _ => false) 2000 (Q1 := ev_at (ev_tl pg_t11) σ.2.2 (sp_v True (fun σ' => σ' = ev_up (ev_up σ 1 4 0) 1 5 0)).2) ?_ (fun _ _ _ _ h => ev_fin h)⟩
    change ev_wp pg_F pg_lay none [] (ev_lu pg_c11) (fun _ => false) _ 2000 0 [some (.ref 1)] [] σ
    refine ⟨Or.inl rfl, ?_⟩
    change ev_wp pg_F pg_lay none [] (ev_lu pg_c11) (fun _ => false) _ 1997 5 [some (.ref 1)] [] (ev_up σ 1 4 0)
    refine ⟨Or.inl rfl, ?_⟩
    exact ⟨rfl, Nat.le_refl _, rfl, rfl⟩
  · cases h
theorem pr_12 : pg_Rn pg_F 12 pg_y12 [] pg_t12 := by
  intro vs σ P h hp
  replace h : pf_12 vs σ = some P := h
  unfold pf_12 at h
  split at h
  · cases h
    refine ⟨by simp [Value.category], Nat.le_of_ble_eq_true rfl, ev_go pg_hhs pg_cd pg_o12 (fun _ => false) 2000 (Q1 := ev_at (ev_tl pg_t12) σ.2.2 ((sp_b (σ.1 1 4), (sp_e (σ.1 1 4) σ).2)).2) ?_ (fun _ _ _ _ h => ev_fin h)⟩
    change ev_wp pg_F pg_lay none [] (ev_lu pg_c12) (fun _ => false) _ 2000 0 [some (.ref 1)] [] σ
    exact ⟨_, rfl, hp, Nat.le_refl _, rfl, rfl⟩
  · cases h
theorem pr_15 : pg_Rn pg_F 15 pg_y15 [] pg_t15 := by
  intro vs σ P h hp
  replace h : pf_15 vs σ = some P := h
  unfold pf_15 at h
  split at h
  · cases h
    refine ⟨by simp [Value.category], Nat.le_of_ble_eq_true rfl, ev_go pg_hhs pg_cd pg_o15 (fun _ => false) 2000 (Q1 := ev_at (ev_tl pg_t15) σ.2.2 (sp_e (σ.1 1 3) σ).2) ?_ (fun _ _ _ _ h => ev_fin h)⟩
    change ev_wp pg_F pg_lay none [] (ev_lu pg_c15) (fun _ => false) _ 2000 0 [some (.ref 1)] [] σ
    exact ⟨_, rfl, Nat.le_refl _, rfl, rfl⟩
  · cases h
theorem pr_17 : pg_Rn pg_F 17 pg_y17 [] pg_t17 := by
  intro vs σ P h hp
  replace h : pf_17 vs σ = some P := h
  unfold pf_17 at h
  split at h
  · cases h
    refine ⟨by simp [Value.category], Nat.le_of_ble_eq_true rfl, ev_go pg_hhs pg_cd pg_o17 (fun _ => false) 2000 (Q1 := ev_at (ev_tl pg_t17) σ.2.2 (sp_e (σ.1 1 2) σ).2) ?_ (fun _ _ _ _ h => ev_fin h)⟩
    change ev_wp pg_F pg_lay none [] (ev_lu pg_c17) (fun _ => false) _ 2000 0 [some (.ref 1)] [] σ
    exact ⟨_, rfl, Nat.le_refl _, rfl, rfl⟩
  · cases h
theorem pr_16 : pg_Rn pg_F 16 pg_y16 [] pg_t16 := by
  intro vs σ P h hp
  replace h : pf_16 vs σ = some P := h
  unfold pf_16 at h
  split at h
  · rename_i a b
    cases h
    refine ⟨by simp [Value.category], Nat.le_of_ble_eq_true rfl, ev_go pg_hhs pg_cd pg_o16 (fun _ => false) 2000 (Q1 := ev_at (ev_tl pg_t16) σ.2.2 (sp_i True (fun _ => True) σ).2) ?_ (fun _ _ _ _ h => ev_fin h)⟩
    change ev_wp pg_F pg_lay none [] (ev_lu pg_c16) (fun _ => false) _ 2000 0 [some (.int a), some (.int b)] [] σ
    refine ⟨fun (h1 : b = a) => ?_, fun (h1 : ¬ b = a) => ?_⟩
    · skip
      change ev_wp pg_F pg_lay none [] (ev_lu pg_c16) (fun _ => false) _ 1997 5 [some (.int a), some (.int b)] [] σ
      exact ⟨_, rfl, Nat.le_refl _, _, trivial, rfl, rfl⟩
    · skip
      change ev_wp pg_F pg_lay none [] (ev_lu pg_c16) (fun _ => false) _ 1997 11 [some (.int a), some (.int b)] [] σ
      exact ⟨_, rfl, Nat.le_refl _, _, trivial, rfl, rfl⟩
  · cases h
theorem pr_33 : pg_Rn pg_F 33 pg_y33 [] pg_t33 := by
  intro vs σ P h hp
  replace h : pf_33 vs σ = some P := h
  unfold pf_33 at h
  split at h
  · rename_i a
    cases h
    refine ⟨by simp [Value.category], Nat.le_of_ble_eq_true rfl, ev_go pg_hhs pg_cd pg_o33 (fun _ => false) 2000 (Q1 := ev_at (ev_tl pg_t33) σ.2.2 (sp_i True (fun v => a = 0 → v = 0) σ).2) ?_ (fun _ _ _ _ h => ev_fin h)⟩
    change ev_wp pg_F pg_lay none [] (ev_lu pg_c33) (fun _ => false) _ 2000 0 [some (.int a)] [] σ
    exact ⟨_, rfl, Nat.le_refl _, _, fun h => by subst h; decide +kernel, rfl, rfl⟩
  · cases h
theorem pr_34 : pg_Rn pg_F 34 pg_y34 [] pg_t34 := by
  intro vs σ P h hp
  replace h : pf_34 vs σ = some P := h
  unfold pf_34 at h
  split at h
  · rename_i a b
    cases h
    refine ⟨by simp [Value.category], Nat.le_of_ble_eq_true rfl, ev_go pg_hhs pg_cd pg_o34 (fun _ => false) 2000 (Q1 := ev_at (ev_tl pg_t34) σ.2.2 (sp_e (if a < b then b else a) σ).2) ?_ (fun _ _ _ _ h => ev_fin h)⟩
    change ev_wp pg_F pg_lay none [] (ev_lu pg_c34) (fun _ => false) _ 2000 0 [some (.int a), some (.int b)] [] σ
    refine ⟨fun (h1 : a < b) => ?_, fun (h1 : ¬ a < b) => ?_⟩
    · skip
      change ev_wp pg_F pg_lay none [] (ev_lu pg_c34) (fun _ => false) _ 1997 9 [some (.int a), some (.int b)] [] σ
      exact ⟨_, rfl, Nat.le_refl _, congrArg (fun z => Sum.inl (some (Value.int z))) (by simp only [h1, ↓reduceIte]), rfl⟩
    · skip
      change ev_wp pg_F pg_lay none [] (ev_lu pg_c34) (fun _ => false) _ 1997 5 [some (.int a), some (.int b)] [] σ
      exact ⟨_, rfl, Nat.le_refl _, congrArg (fun z => Sum.inl (some (Value.int z))) (by simp only [h1, ↓reduceIte]), rfl⟩
  · cases h
theorem pr_35 : pg_Rn pg_F 35 pg_y35 [] pg_t35 := by
  intro vs σ P h hp
  replace h : pf_35 vs σ = some P := h
  unfold pf_35 at h
  split at h
  · rename_i a b
    cases h
    refine ⟨by simp [Value.category], Nat.le_of_ble_eq_true rfl, ev_go pg_hhs pg_cd pg_o35 (fun _ => false) 2000 (Q1 := ev_at (ev_tl pg_t35) σ.2.2 (sp_e (if b < a then b else a) σ).2) ?_ (fun _ _ _ _ h => ev_fin h)⟩
    change ev_wp pg_F pg_lay none [] (ev_lu pg_c35) (fun _ => false) _ 2000 0 [some (.int a), some (.int b)] [] σ
    refine ⟨fun (h1 : b < a) => ?_, fun (h1 : ¬ b < a) => ?_⟩
    · skip
      change ev_wp pg_F pg_lay none [] (ev_lu pg_c35) (fun _ => false) _ 1997 9 [some (.int a), some (.int b)] [] σ
      exact ⟨_, rfl, Nat.le_refl _, congrArg (fun z => Sum.inl (some (Value.int z))) (by simp only [h1, ↓reduceIte]), rfl⟩
    · skip
      change ev_wp pg_F pg_lay none [] (ev_lu pg_c35) (fun _ => false) _ 1997 5 [some (.int a), some (.int b)] [] σ
      exact ⟨_, rfl, Nat.le_refl _, congrArg (fun z => Sum.inl (some (Value.int z))) (by simp only [h1, ↓reduceIte]), rfl⟩
  · cases h
theorem pr_37 : pg_Rn pg_F 37 pg_y37 [] pg_t37 := by
  intro vs σ P h hp
  replace h : pf_37 vs σ = some P := h
  unfold pf_37 at h
  split at h
  · rename_i a
    cases h
    refine ⟨by simp [Value.category], Nat.le_of_ble_eq_true rfl, ev_go pg_hhs pg_cd pg_o37 (fun _ => false) 2000 (Q1 := ev_at (ev_tl pg_t37) σ.2.2 (sp_i True (fun _ => True) σ).2) ?_ (fun _ _ _ _ h => ev_fin h)⟩
    change ev_wp pg_F pg_lay none [] (ev_lu pg_c37) (fun _ => false) _ 2000 0 [some (.ref 0), some (.int a)] [] σ
    refine ⟨trivial, ?_⟩
    rintro _ _ ⟨rfl, rfl⟩
    change ev_wp pg_F pg_lay none [] (ev_lu pg_c37) (fun _ => false) _ 1995 9 [some (.ref 0), some (.int a)] [.int (sp_at σ a 1)] σ
    refine ⟨trivial, ?_⟩
    rintro _ _ ⟨rfl, rfl⟩
    change ev_wp pg_F pg_lay none [] (ev_lu pg_c37) (fun _ => false) _ 1988 22 [some (.ref 0), some (.int a)] [.int (sp_at σ a 2), .int ((sp_at σ a 1) * 1440)] σ
    exact ⟨_, rfl, Nat.le_refl _, _, trivial, rfl, rfl⟩
  · cases h
theorem pr_38 : pg_Rn pg_F 38 pg_y38 [] pg_t38 := by
  intro vs σ P h hp
  replace h : pf_38 vs σ = some P := h
  unfold pf_38 at h
  split at h
  · rename_i a
    cases h
    refine ⟨by simp [Value.category], Nat.le_of_ble_eq_true rfl, ev_go pg_hhs pg_cd pg_o38 (fun _ => false) 2000 (Q1 := ev_at (ev_tl pg_t38) σ.2.2 (sp_i True (fun _ => True) σ).2) ?_ (fun _ _ _ _ h => ev_fin h)⟩
    change ev_wp pg_F pg_lay none [] (ev_lu pg_c38) (fun _ => false) _ 2000 0 [some (.ref 0), some (.int a)] [] σ
    refine ⟨trivial, ?_⟩
    rintro _ _ ⟨rfl, rfl⟩
    change ev_wp pg_F pg_lay none [] (ev_lu pg_c38) (fun _ => false) _ 1995 9 [some (.ref 0), some (.int a)] [.int (sp_at σ a 2)] σ
    exact ⟨_, rfl, Nat.le_refl _, _, trivial, rfl, rfl⟩
  · cases h
theorem pr_40 : pg_Rn pg_F 40 pg_y40 [] pg_t40 := by
  intro vs σ P h hp
  replace h : pf_40 vs σ = some P := h
  unfold pf_40 at h
  split at h
  · rename_i a
    cases h
    refine ⟨by simp [Value.category], Nat.le_of_ble_eq_true rfl, ev_go pg_hhs pg_cd pg_o40 (fun _ => false) 2000 (Q1 := ev_at (ev_tl pg_t40) σ.2.2 (sp_i True (fun _ => True) σ).2) ?_ (fun _ _ _ _ h => ev_fin h)⟩
    change ev_wp pg_F pg_lay none [] (ev_lu pg_c40) (fun _ => false) _ 2000 0 [some (.ref 0), some (.int a)] [] σ
    refine ⟨trivial, ?_⟩
    rintro _ _ ⟨rfl, rfl⟩
    exact ⟨_, rfl, Nat.le_refl _, _, trivial, rfl, rfl⟩
  · cases h
theorem pr_42 : pg_Rn pg_F 42 pg_y42 [] pg_t42 := by
  intro vs σ P h hp
  replace h : pf_42 vs σ = some P := h
  unfold pf_42 at h
  split at h
  · rename_i a
    cases h
    refine ⟨by simp [Value.category], Nat.le_of_ble_eq_true rfl, ev_go pg_hhs pg_cd pg_o42 (fun _ => false) 2000 (Q1 := ev_at (ev_tl pg_t42) σ.2.2 (sp_i True (fun _ => True) σ).2) ?_ (fun _ _ _ _ h => ev_fin h)⟩
    change ev_wp pg_F pg_lay none [] (ev_lu pg_c42) (fun _ => false) _ 2000 0 [some (.ref 0), some (.int a)] [] σ
    refine ⟨trivial, ?_⟩
    rintro _ _ ⟨rfl, rfl⟩
    change ev_wp pg_F pg_lay none [] (ev_lu pg_c42) (fun _ => false) _ 1995 9 [some (.ref 0), some (.int a)] [.int (sp_at σ a 4)] σ
    exact ⟨_, rfl, Nat.le_refl _, _, trivial, rfl, rfl⟩
  · cases h
theorem pr_43 : pg_Rn pg_F 43 pg_y43 [] pg_t43 := by
  intro vs σ P h hp
  replace h : pf_43 vs σ = some P := h
  unfold pf_43 at h
  split at h
  · rename_i a
    cases h
    refine ⟨by simp [Value.category], Nat.le_of_ble_eq_true rfl, ev_go pg_hhs pg_cd pg_o43 (fun _ => false) 2000 (Q1 := ev_at (ev_tl pg_t43) σ.2.2 (sp_i True (fun _ => True) σ).2) ?_ (fun _ _ _ _ h => ev_fin h)⟩
    change ev_wp pg_F pg_lay none [] (ev_lu pg_c43) (fun _ => false) _ 2000 0 [some (.ref 0), some (.int a)] [] σ
    refine ⟨trivial, ?_⟩
    rintro _ _ ⟨rfl, rfl⟩
    exact ⟨_, rfl, Nat.le_refl _, _, trivial, rfl, rfl⟩
  · cases h
theorem pr_44 : pg_Rn pg_F 44 pg_y44 [] pg_t44 := by
  intro vs σ P h hp
  replace h : pf_44 vs σ = some P := h
  unfold pf_44 at h
  split at h
  · rename_i a
    cases h
    refine ⟨by simp [Value.category], Nat.le_of_ble_eq_true rfl, ev_go pg_hhs pg_cd pg_o44 (fun _ => false) 2000 (Q1 := ev_at (ev_tl pg_t44) σ.2.2 (sp_i True (fun _ => True) σ).2) ?_ (fun _ _ _ _ h => ev_fin h)⟩
    change ev_wp pg_F pg_lay none [] (ev_lu pg_c44) (fun _ => false) _ 2000 0 [some (.ref 0), some (.int a)] [] σ
    refine ⟨trivial, ?_⟩
    rintro _ _ ⟨rfl, rfl⟩
    change ev_wp pg_F pg_lay none [] (ev_lu pg_c44) (fun _ => false) _ 1995 9 [some (.ref 0), some (.int a)] [.int (sp_at σ a 4)] σ
    exact ⟨_, rfl, Nat.le_refl _, _, trivial, rfl, rfl⟩
  · cases h
theorem pr_47 : pg_Rn pg_F 47 pg_y47 [] pg_t47 := by
  intro vs σ P h hp
  replace h : pf_47 vs σ = some P := h
  unfold pf_47 at h
  split at h
  · rename_i a
    cases h
    refine ⟨by simp [Value.category], Nat.le_of_ble_eq_true rfl, ev_go pg_hhs pg_cd pg_o47 (fun _ => false) 2000 (Q1 := ev_at (ev_tl pg_t47) σ.2.2 (sp_i True (fun _ => True) σ).2) ?_ (fun _ _ _ _ h => ev_fin h)⟩
    change ev_wp pg_F pg_lay none [] (ev_lu pg_c47) (fun _ => false) _ 2000 0 [some (.ref 0), some (.int a)] [] σ
    refine ⟨trivial, ?_⟩
    rintro _ _ ⟨rfl, rfl⟩
    change ev_wp pg_F pg_lay none [] (ev_lu pg_c47) (fun _ => false) _ 1995 9 [some (.ref 0), some (.int a)] [.int (sp_at σ a 4)] σ
    exact ⟨_, rfl, Nat.le_refl _, _, trivial, rfl, rfl⟩
  · cases h
theorem pr_52 : pg_Rn pg_F 52 pg_y52 [] pg_t52 := by
  intro vs σ P h hp
  replace h : pf_52 vs σ = some P := h
  unfold pf_52 at h
  split at h
  · rename_i a
    cases h
    refine ⟨by simp [Value.category], Nat.le_of_ble_eq_true rfl, ev_go pg_hhs pg_cd pg_o52 (fun _ => false) 2000 (Q1 := ev_at (ev_tl pg_t52) σ.2.2 (sp_i True (fun _ => True) σ).2) ?_ (fun _ _ _ _ h => ev_fin h)⟩
    change ev_wp pg_F pg_lay none [] (ev_lu pg_c52) (fun _ => false) _ 2000 0 [some (.ref 0), some (.int a)] [] σ
    refine ⟨trivial, ?_⟩
    rintro _ _ ⟨rfl, rfl⟩
    change ev_wp pg_F pg_lay none [] (ev_lu pg_c52) (fun _ => false) _ 1995 9 [some (.ref 0), some (.int a)] [.int (sp_at σ a 3)] σ
    exact ⟨_, rfl, Nat.le_refl _, _, trivial, rfl, rfl⟩
  · cases h
theorem pr_53 : pg_Rn pg_F 53 pg_y53 [] pg_t53 := by
  intro vs σ P h hp
  replace h : pf_53 vs σ = some P := h
  unfold pf_53 at h
  split at h
  · rename_i a
    cases h
    refine ⟨by simp [Value.category], Nat.le_of_ble_eq_true rfl, ev_go pg_hhs pg_cd pg_o53 (fun _ => false) 2000 (Q1 := ev_at (ev_tl pg_t53) σ.2.2 (sp_i True (fun _ => True) σ).2) ?_ (fun _ _ _ _ h => ev_fin h)⟩
    change ev_wp pg_F pg_lay none [] (ev_lu pg_c53) (fun _ => false) _ 2000 0 [some (.ref 0), some (.int a)] [] σ
    refine ⟨trivial, ?_⟩
    rintro _ _ ⟨rfl, rfl⟩
    exact ⟨_, rfl, Nat.le_refl _, _, trivial, rfl, rfl⟩
  · cases h
theorem pr_55 : pg_Rn pg_F 55 pg_y55 [] pg_t55 := by
  intro vs σ P h hp
  replace h : pf_55 vs σ = some P := h
  unfold pf_55 at h
  split at h
  · rename_i a
    cases h
    refine ⟨by simp [Value.category], Nat.le_of_ble_eq_true rfl, ev_go pg_hhs pg_cd pg_o55 (fun _ => false) 2000 (Q1 := ev_at (ev_tl pg_t55) σ.2.2 (sp_i True (fun _ => True) σ).2) ?_ (fun _ _ _ _ h => ev_fin h)⟩
    change ev_wp pg_F pg_lay none [] (ev_lu pg_c55) (fun _ => false) _ 2000 0 [some (.ref 0), some (.int a)] [] σ
    refine ⟨trivial, ?_⟩
    rintro _ _ ⟨rfl, rfl⟩
    change ev_wp pg_F pg_lay none [] (ev_lu pg_c55) (fun _ => false) _ 1995 9 [some (.ref 0), some (.int a)] [.int (sp_at σ a 2)] σ
    exact ⟨_, rfl, Nat.le_refl _, _, trivial, rfl, rfl⟩
  · cases h
theorem pr_56 : pg_Rn pg_F 56 pg_y56 [] pg_t56 := by
  intro vs σ P h hp
  replace h : pf_56 vs σ = some P := h
  unfold pf_56 at h
  split at h
  · rename_i a
    cases h
    refine ⟨by simp [Value.category], Nat.le_of_ble_eq_true rfl, ev_go pg_hhs pg_cd pg_o56 (fun _ => false) 2000 (Q1 := ev_at (ev_tl pg_t56) σ.2.2 (sp_i True (fun _ => True) σ).2) ?_ (fun _ _ _ _ h => ev_fin h)⟩
    change ev_wp pg_F pg_lay none [] (ev_lu pg_c56) (fun _ => false) _ 2000 0 [some (.ref 0), some (.int a)] [] σ
    refine ⟨trivial, ?_⟩
    rintro _ _ ⟨rfl, rfl⟩
    change ev_wp pg_F pg_lay none [] (ev_lu pg_c56) (fun _ => false) _ 1995 9 [some (.ref 0), some (.int a)] [.int (sp_at σ a 3)] σ
    exact ⟨_, rfl, Nat.le_refl _, _, trivial, rfl, rfl⟩
  · cases h
theorem pr_41 : pg_Rn pg_F 41 pg_y41 [] pg_t41 := by
  intro vs σ P h hp
  replace h : pf_41 vs σ = some P := h
  unfold pf_41 at h
  split at h
  · rename_i a b
    cases h
    refine ⟨by simp [Value.category], Nat.le_of_ble_eq_true rfl, ev_go pg_hhs pg_cd pg_o41 (fun _ => false) 2000 (Q1 := ev_at (ev_tl pg_t41) σ.2.2 (sp_i True (fun _ => True) σ).2) ?_ (fun _ _ _ _ h => ev_fin h)⟩
    change ev_wp pg_F pg_lay none [] (ev_lu pg_c41) (fun _ => false) _ 2000 0 [some (.ref 0), some (.int a), some (.int b)] [] σ
    refine ⟨trivial, ?_⟩
    rintro _ _ ⟨rfl, rfl⟩
    change ev_wp pg_F pg_lay none [] (ev_lu pg_c41) (fun _ => false) _ 1995 9 [some (.ref 0), some (.int a), some (.int b)] [.int (sp_at σ a 2)] σ
    refine ⟨fun (h1 : (sp_at σ a 2) = b) => ?_, fun (h1 : ¬ (sp_at σ a 2) = b) => ?_⟩
    · skip
      change ev_wp pg_F pg_lay none [] (ev_lu pg_c41) (fun _ => false) _ 1993 13 [some (.ref 0), some (.int a), some (.int b)] [] σ
      refine ⟨trivial, ?_⟩
      rintro _ _ ⟨rfl, rfl⟩
      change ev_wp pg_F pg_lay none [] (ev_lu pg_c41) (fun _ => false) _ 1988 22 [some (.ref 0), some (.int a), some (.int b)] [.int (sp_at σ a 3)] σ
      exact ⟨_, rfl, Nat.le_refl _, _, trivial, rfl, rfl⟩
    · skip
      change ev_wp pg_F pg_lay none [] (ev_lu pg_c41) (fun _ => false) _ 1993 25 [some (.ref 0), some (.int a), some (.int b)] [] σ
      exact ⟨_, rfl, Nat.le_refl _, _, trivial, rfl, rfl⟩
  · cases h
theorem pr_48 : pg_Rn pg_F 48 pg_y48 [] pg_t48 := by
  intro vs σ P h hp
  replace h : pf_48 vs σ = some P := h
  unfold pf_48 at h
  split at h
  · rename_i n
    cases h
    refine ⟨by simp [Value.category], Nat.le_of_ble_eq_true rfl, ev_go pg_hhs pg_cd pg_o48 (fun _ => false) 2000 (Q1 := ev_at (ev_tl pg_t48) σ.2.2 (sp_e (sp_upto n 11) σ).2) ?_ (fun _ _ _ _ h => ev_fin h)⟩
    change ev_wp pg_F pg_lay none [] (ev_lu pg_c48) (fun _ => false) _ 2000 0 [some (.int n)] [] σ
    refine ⟨trivial, ?_⟩
    rintro _ _ ⟨rfl, rfl⟩
    exact ⟨_, rfl, sp_upto_b _ _, Nat.le_refl _, rfl, rfl⟩
  · cases h
theorem pr_51 : pg_Rn pg_F 51 pg_y51 [] pg_t51 := by
  intro vs σ P h hp
  replace h : pf_51 vs σ = some P := h
  unfold pf_51 at h
  split at h
  · cases h
    refine ⟨by simp [Value.category], Nat.le_of_ble_eq_true rfl, ev_go pg_hhs pg_cd pg_o51 (fun _ => false) 2000 (Q1 := ev_at (ev_tl pg_t51) σ.2.2 (sp_e (sp_at σ 0 0) σ).2) ?_ (fun _ _ _ _ h => ev_fin h)⟩
    change ev_wp pg_F pg_lay none [] (ev_lu pg_c51) (fun _ => false) _ 2000 0 [some (.ref 0)] [] σ
    refine ⟨trivial, ?_⟩
    rintro _ _ ⟨rfl, rfl⟩
    exact ⟨_, rfl, Nat.le_refl _, rfl, rfl⟩
  · cases h
theorem pr_54 : pg_Rn pg_F 54 pg_y54 [] pg_t54 := by
  intro vs σ P h hp
  replace h : pf_54 vs σ = some P := h
  unfold pf_54 at h
  split at h
  · rename_i a
    cases h
    refine ⟨by simp [Value.category], Nat.le_of_ble_eq_true rfl, ev_go pg_hhs pg_cd pg_o54 (fun _ => false) 2000 (Q1 := ev_at (ev_tl pg_t54) σ.2.2 (sp_e (sp_at σ 0 a) σ).2) ?_ (fun _ _ _ _ h => ev_fin h)⟩
    change ev_wp pg_F pg_lay none [] (ev_lu pg_c54) (fun _ => false) _ 2000 0 [some (.ref 0), some (.int a)] [] σ
    refine ⟨trivial, ?_⟩
    rintro _ _ ⟨rfl, rfl⟩
    exact ⟨_, rfl, Nat.le_refl _, rfl, rfl⟩
  · cases h
theorem pr_50 : pg_Rn pg_F 50 pg_y50 [] pg_t50 := by
  intro vs σ P h hp
  replace h : pf_50 vs σ = some P := h
  unfold pf_50 at h
  split at h
  · rename_i a b
    cases h
    refine ⟨by simp [Value.category], Nat.le_of_ble_eq_true rfl, ev_go pg_hhs pg_cd pg_o50 (fun _ => false) 2000 (Q1 := ev_at (ev_tl pg_t50) σ.2.2 (sp_e (sp_time a b) σ).2) ?_ (fun _ _ _ _ h => ev_fin h)⟩
    change ev_wp pg_F pg_lay none [] (ev_lu pg_c50) (fun _ => false) _ 2000 0 [some (.int a), some (.int b)] [] σ
    refine ⟨trivial, ?_⟩
    rintro _ _ ⟨rfl, rfl⟩
    change ev_wp pg_F pg_lay none [] (ev_lu pg_c50) (fun _ => false) _ 1997 7 [some (.int a), some (.int b)] [.int (sp_upto a 9999)] σ
    refine ⟨fun (h1 : (sp_upto a 9999) = 0) => ?_, fun (h1 : ¬ (sp_upto a 9999) = 0) => ?_⟩
    · skip
      change ev_wp pg_F pg_lay none [] (ev_lu pg_c50) (fun _ => false) _ 1996 24 [some (.int a), some (.int b)] [] σ
      exact ⟨_, rfl, by first | exact Or.inl rfl | exact Or.inr rfl, Nat.le_refl _, congrArg (fun z => Sum.inl (some (Value.int z))) (by simp only [sp_time, h1, ↓reduceIte]), rfl⟩
    · skip
      change ev_wp pg_F pg_lay none [] (ev_lu pg_c50) (fun _ => false) _ 1996 10 [some (.int a), some (.int b)] [] σ
      refine ⟨trivial, ?_⟩
      rintro _ _ ⟨rfl, rfl⟩
      change ev_wp pg_F pg_lay none [] (ev_lu pg_c50) (fun _ => false) _ 1993 17 [some (.int a), some (.int b)] [.int (sp_upto b 1439)] σ
      refine ⟨fun (h2 : (sp_upto b 1439) = 0) => ?_, fun (h2 : ¬ (sp_upto b 1439) = 0) => ?_⟩
      · skip
        change ev_wp pg_F pg_lay none [] (ev_lu pg_c50) (fun _ => false) _ 1992 24 [some (.int a), some (.int b)] [] σ
        exact ⟨_, rfl, by first | exact Or.inl rfl | exact Or.inr rfl, Nat.le_refl _, congrArg (fun z => Sum.inl (some (Value.int z))) (by simp only [sp_time, h1, h2, ↓reduceIte]), rfl⟩
      · skip
        change ev_wp pg_F pg_lay none [] (ev_lu pg_c50) (fun _ => false) _ 1992 20 [some (.int a), some (.int b)] [] σ
        exact ⟨_, rfl, by first | exact Or.inl rfl | exact Or.inr rfl, Nat.le_refl _, congrArg (fun z => Sum.inl (some (Value.int z))) (by simp only [sp_time, h1, h2, ↓reduceIte]), rfl⟩
  · cases h
theorem pr_39 : pg_Rn pg_F 39 pg_y39 [] pg_t39 := by
  intro vs σ P h hp
  replace h : pf_39 vs σ = some P := h
  unfold pf_39 at h
  split at h
  · cases h
    refine ⟨by simp [Value.category], Nat.le_of_ble_eq_true rfl, ev_go pg_hhs pg_cd pg_o39 (fun _ => false) 2000 (Q1 := ev_at (ev_tl pg_t39) σ.2.2 (sp_i True (fun v => sp_zero σ → v = 0) σ).2) ?_ (fun _ _ _ _ h => ev_fin h)⟩
    change ev_wp pg_F pg_lay none [] (ev_lu pg_c39) (fun _ => false) _ 2000 0 [some (.ref 0), none, none] [] σ
    refine ⟨fun h => absurd h (by decide), fun _ => ?_⟩
    change ev_wp pg_F pg_lay none [] (ev_lu pg_c39) (fun _ => false) _ 1993 9 [some (.ref 0), some (.int 0), some (.int 0)] [] σ
    refine ⟨trivial, ?_⟩
    rintro _ _ ⟨rfl, rfl⟩
    change ev_wp pg_F pg_lay none [] (ev_lu pg_c39) (fun _ => false) _ 1987 19 [some (.ref 0), some (.int 0), some (.int 0)] [.int (sp_at σ 4 0), .int 0] σ
    refine ⟨trivial, ?_⟩
    rintro _ _ ⟨v1, k2, rfl, rfl⟩
    change ev_wp pg_F pg_lay none [] (ev_lu pg_c39) (fun _ => false) _ 1986 22 [some (.ref 0), some (.int 0), some (.int 0)] [.int v1, .int 0] σ
    refine ⟨fun h => absurd h (by decide), fun _ => ?_⟩
    change ev_wp pg_F pg_lay none [] (ev_lu pg_c39) (fun _ => false) _ 1979 9 [some (.ref 0), some (.int (0 + v1)), some (.int 1)] [] σ
    refine ⟨trivial, ?_⟩
    rintro _ _ ⟨rfl, rfl⟩
    change ev_wp pg_F pg_lay none [] (ev_lu pg_c39) (fun _ => false) _ 1973 19 [some (.ref 0), some (.int (0 + v1)), some (.int 1)] [.int (sp_at σ 4 1), .int (0 + v1)] σ
    refine ⟨trivial, ?_⟩
    rintro _ _ ⟨v3, k4, rfl, rfl⟩
    change ev_wp pg_F pg_lay none [] (ev_lu pg_c39) (fun _ => false) _ 1972 22 [some (.ref 0), some (.int (0 + v1)), some (.int 1)] [.int v3, .int (0 + v1)] σ
    refine ⟨fun h => absurd h (by decide), fun _ => ?_⟩
    change ev_wp pg_F pg_lay none [] (ev_lu pg_c39) (fun _ => false) _ 1965 9 [some (.ref 0), some (.int ((0 + v1) + v3)), some (.int 2)] [] σ
    refine ⟨trivial, ?_⟩
    rintro _ _ ⟨rfl, rfl⟩
    change ev_wp pg_F pg_lay none [] (ev_lu pg_c39) (fun _ => false) _ 1959 19 [some (.ref 0), some (.int ((0 + v1) + v3)), some (.int 2)] [.int (sp_at σ 4 2), .int ((0 + v1) + v3)] σ
    refine ⟨trivial, ?_⟩
    rintro _ _ ⟨v5, k6, rfl, rfl⟩
    change ev_wp pg_F pg_lay none [] (ev_lu pg_c39) (fun _ => false) _ 1958 22 [some (.ref 0), some (.int ((0 + v1) + v3)), some (.int 2)] [.int v5, .int ((0 + v1) + v3)] σ
    refine ⟨fun h => absurd h (by decide), fun _ => ?_⟩
    change ev_wp pg_F pg_lay none [] (ev_lu pg_c39) (fun _ => false) _ 1951 9 [some (.ref 0), some (.int (((0 + v1) + v3) + v5)), some (.int 3)] [] σ
    refine ⟨trivial, ?_⟩
    rintro _ _ ⟨rfl, rfl⟩
    change ev_wp pg_F pg_lay none [] (ev_lu pg_c39) (fun _ => false) _ 1945 19 [some (.ref 0), some (.int (((0 + v1) + v3) + v5)), some (.int 3)] [.int (sp_at σ 4 3), .int (((0 + v1) + v3) + v5)] σ
    refine ⟨trivial, ?_⟩
    rintro _ _ ⟨v7, k8, rfl, rfl⟩
    change ev_wp pg_F pg_lay none [] (ev_lu pg_c39) (fun _ => false) _ 1944 22 [some (.ref 0), some (.int (((0 + v1) + v3) + v5)), some (.int 3)] [.int v7, .int (((0 + v1) + v3) + v5)] σ
    refine ⟨fun _ => ?_, fun h => absurd (by decide) h⟩
    change ev_wp pg_F pg_lay none [] (ev_lu pg_c39) (fun _ => false) _ 1937 30 [some (.ref 0), some (.int ((((0 + v1) + v3) + v5) + v7)), some (.int 4)] [] σ
    exact ⟨_, rfl, Nat.le_refl _, _, fun hz => by rw [k2 (sp_at_zero hz _ _)]; rw [k4 (sp_at_zero hz _ _)]; rw [k6 (sp_at_zero hz _ _)]; rw [k8 (sp_at_zero hz _ _)]; decide +kernel, rfl, rfl⟩
  · cases h
theorem pr_57 : pg_Rn pg_F 57 pg_y57 [] pg_t57 := by
  intro vs σ P h hp
  replace h : pf_57 vs σ = some P := h
  unfold pf_57 at h
  split at h
  · rename_i r
    cases h
    refine ⟨by simp [Value.category], Nat.le_of_ble_eq_true rfl, ev_go pg_hhs pg_cd pg_o57 (fun _ => false) 2000 (Q1 := ev_at (ev_tl pg_t57) σ.2.2 (sp_i True (fun v => sp_b v ∧ (sp_zero σ → v = 0)) σ).2) ?_ (fun _ _ _ _ h => ev_fin h)⟩
    change ev_wp pg_F pg_lay none [] (ev_lu pg_c57) (fun _ => false) _ 2000 0 [some (.ref 1), some (.int r), none, none] [] σ
    refine ⟨fun h => absurd h (by decide), fun _ => ?_⟩
    change ev_wp pg_F pg_lay none [] (ev_lu pg_c57) (fun _ => false) _ 1993 10 [some (.ref 1), some (.int r), some (.int 0), some (.int 0)] [] σ
    refine ⟨trivial, ?_⟩
    rintro _ _ ⟨rfl, rfl⟩
    change ev_wp pg_F pg_lay none [] (ev_lu pg_c57) (fun _ => false) _ 1988 17 [some (.ref 1), some (.int r), some (.int 0), some (.int 0)] [.int (sp_at σ r 0), .int 0] σ
    refine ⟨trivial, ?_⟩
    rintro _ _ ⟨rfl, rfl⟩
    change ev_wp pg_F pg_lay none [] (ev_lu pg_c57) (fun _ => false) _ 1987 20 [some (.ref 1), some (.int r), some (.int 0), some (.int 0)] [.int (sp_add 0 (sp_at σ r 0))] σ
    refine ⟨fun h => absurd h (by decide), fun _ => ?_⟩
    change ev_wp pg_F pg_lay none [] (ev_lu pg_c57) (fun _ => false) _ 1981 10 [some (.ref 1), some (.int r), some (.int (sp_add 0 (sp_at σ r 0))), some (.int 1)] [] σ
    refine ⟨trivial, ?_⟩
    rintro _ _ ⟨rfl, rfl⟩
    change ev_wp pg_F pg_lay none [] (ev_lu pg_c57) (fun _ => false) _ 1976 17 [some (.ref 1), some (.int r), some (.int (sp_add 0 (sp_at σ r 0))), some (.int 1)] [.int (sp_at σ r 1), .int (sp_add 0 (sp_at σ r 0))] σ
    refine ⟨trivial, ?_⟩
    rintro _ _ ⟨rfl, rfl⟩
    change ev_wp pg_F pg_lay none [] (ev_lu pg_c57) (fun _ => false) _ 1975 20 [some (.ref 1), some (.int r), some (.int (sp_add 0 (sp_at σ r 0))), some (.int 1)] [.int (sp_add (sp_add 0 (sp_at σ r 0)) (sp_at σ r 1))] σ
    refine ⟨fun h => absurd h (by decide), fun _ => ?_⟩
    change ev_wp pg_F pg_lay none [] (ev_lu pg_c57) (fun _ => false) _ 1969 10 [some (.ref 1), some (.int r), some (.int (sp_add (sp_add 0 (sp_at σ r 0)) (sp_at σ r 1))), some (.int 2)] [] σ
    refine ⟨trivial, ?_⟩
    rintro _ _ ⟨rfl, rfl⟩
    change ev_wp pg_F pg_lay none [] (ev_lu pg_c57) (fun _ => false) _ 1964 17 [some (.ref 1), some (.int r), some (.int (sp_add (sp_add 0 (sp_at σ r 0)) (sp_at σ r 1))), some (.int 2)] [.int (sp_at σ r 2), .int (sp_add (sp_add 0 (sp_at σ r 0)) (sp_at σ r 1))] σ
    refine ⟨trivial, ?_⟩
    rintro _ _ ⟨rfl, rfl⟩
    change ev_wp pg_F pg_lay none [] (ev_lu pg_c57) (fun _ => false) _ 1963 20 [some (.ref 1), some (.int r), some (.int (sp_add (sp_add 0 (sp_at σ r 0)) (sp_at σ r 1))), some (.int 2)] [.int (sp_add (sp_add (sp_add 0 (sp_at σ r 0)) (sp_at σ r 1)) (sp_at σ r 2))] σ
    refine ⟨fun h => absurd h (by decide), fun _ => ?_⟩
    change ev_wp pg_F pg_lay none [] (ev_lu pg_c57) (fun _ => false) _ 1957 10 [some (.ref 1), some (.int r), some (.int (sp_add (sp_add (sp_add 0 (sp_at σ r 0)) (sp_at σ r 1)) (sp_at σ r 2))), some (.int 3)] [] σ
    refine ⟨trivial, ?_⟩
    rintro _ _ ⟨rfl, rfl⟩
    change ev_wp pg_F pg_lay none [] (ev_lu pg_c57) (fun _ => false) _ 1952 17 [some (.ref 1), some (.int r), some (.int (sp_add (sp_add (sp_add 0 (sp_at σ r 0)) (sp_at σ r 1)) (sp_at σ r 2))), some (.int 3)] [.int (sp_at σ r 3), .int (sp_add (sp_add (sp_add 0 (sp_at σ r 0)) (sp_at σ r 1)) (sp_at σ r 2))] σ
    refine ⟨trivial, ?_⟩
    rintro _ _ ⟨rfl, rfl⟩
    change ev_wp pg_F pg_lay none [] (ev_lu pg_c57) (fun _ => false) _ 1951 20 [some (.ref 1), some (.int r), some (.int (sp_add (sp_add (sp_add 0 (sp_at σ r 0)) (sp_at σ r 1)) (sp_at σ r 2))), some (.int 3)] [.int (sp_add (sp_add (sp_add (sp_add 0 (sp_at σ r 0)) (sp_at σ r 1)) (sp_at σ r 2)) (sp_at σ r 3))] σ
    refine ⟨fun h => absurd h (by decide), fun _ => ?_⟩
    change ev_wp pg_F pg_lay none [] (ev_lu pg_c57) (fun _ => false) _ 1945 10 [some (.ref 1), some (.int r), some (.int (sp_add (sp_add (sp_add (sp_add 0 (sp_at σ r 0)) (sp_at σ r 1)) (sp_at σ r 2)) (sp_at σ r 3))), some (.int 4)] [] σ
    refine ⟨trivial, ?_⟩
    rintro _ _ ⟨rfl, rfl⟩
    change ev_wp pg_F pg_lay none [] (ev_lu pg_c57) (fun _ => false) _ 1940 17 [some (.ref 1), some (.int r), some (.int (sp_add (sp_add (sp_add (sp_add 0 (sp_at σ r 0)) (sp_at σ r 1)) (sp_at σ r 2)) (sp_at σ r 3))), some (.int 4)] [.int (sp_at σ r 4), .int (sp_add (sp_add (sp_add (sp_add 0 (sp_at σ r 0)) (sp_at σ r 1)) (sp_at σ r 2)) (sp_at σ r 3))] σ
    refine ⟨trivial, ?_⟩
    rintro _ _ ⟨rfl, rfl⟩
    change ev_wp pg_F pg_lay none [] (ev_lu pg_c57) (fun _ => false) _ 1939 20 [some (.ref 1), some (.int r), some (.int (sp_add (sp_add (sp_add (sp_add 0 (sp_at σ r 0)) (sp_at σ r 1)) (sp_at σ r 2)) (sp_at σ r 3))), some (.int 4)] [.int (sp_add (sp_add (sp_add (sp_add (sp_add 0 (sp_at σ r 0)) (sp_at σ r 1)) (sp_at σ r 2)) (sp_at σ r 3)) (sp_at σ r 4))] σ
    refine ⟨fun h => absurd h (by decide), fun _ => ?_⟩
    change ev_wp pg_F pg_lay none [] (ev_lu pg_c57) (fun _ => false) _ 1933 10 [some (.ref 1), some (.int r), some (.int (sp_add (sp_add (sp_add (sp_add (sp_add 0 (sp_at σ r 0)) (sp_at σ r 1)) (sp_at σ r 2)) (sp_at σ r 3)) (sp_at σ r 4))), some (.int 5)] [] σ
    refine ⟨trivial, ?_⟩
    rintro _ _ ⟨rfl, rfl⟩
    change ev_wp pg_F pg_lay none [] (ev_lu pg_c57) (fun _ => false) _ 1928 17 [some (.ref 1), some (.int r), some (.int (sp_add (sp_add (sp_add (sp_add (sp_add 0 (sp_at σ r 0)) (sp_at σ r 1)) (sp_at σ r 2)) (sp_at σ r 3)) (sp_at σ r 4))), some (.int 5)] [.int (sp_at σ r 5), .int (sp_add (sp_add (sp_add (sp_add (sp_add 0 (sp_at σ r 0)) (sp_at σ r 1)) (sp_at σ r 2)) (sp_at σ r 3)) (sp_at σ r 4))] σ
    refine ⟨trivial, ?_⟩
    rintro _ _ ⟨rfl, rfl⟩
    change ev_wp pg_F pg_lay none [] (ev_lu pg_c57) (fun _ => false) _ 1927 20 [some (.ref 1), some (.int r), some (.int (sp_add (sp_add (sp_add (sp_add (sp_add 0 (sp_at σ r 0)) (sp_at σ r 1)) (sp_at σ r 2)) (sp_at σ r 3)) (sp_at σ r 4))), some (.int 5)] [.int (sp_add (sp_add (sp_add (sp_add (sp_add (sp_add 0 (sp_at σ r 0)) (sp_at σ r 1)) (sp_at σ r 2)) (sp_at σ r 3)) (sp_at σ r 4)) (sp_at σ r 5))] σ
    refine ⟨fun h => absurd h (by decide), fun _ => ?_⟩
    change ev_wp pg_F pg_lay none [] (ev_lu pg_c57) (fun _ => false) _ 1921 10 [some (.ref 1), some (.int r), some (.int (sp_add (sp_add (sp_add (sp_add (sp_add (sp_add 0 (sp_at σ r 0)) (sp_at σ r 1)) (sp_at σ r 2)) (sp_at σ r 3)) (sp_at σ r 4)) (sp_at σ r 5))), some (.int 6)] [] σ
    refine ⟨trivial, ?_⟩
    rintro _ _ ⟨rfl, rfl⟩
    change ev_wp pg_F pg_lay none [] (ev_lu pg_c57) (fun _ => false) _ 1916 17 [some (.ref 1), some (.int r), some (.int (sp_add (sp_add (sp_add (sp_add (sp_add (sp_add 0 (sp_at σ r 0)) (sp_at σ r 1)) (sp_at σ r 2)) (sp_at σ r 3)) (sp_at σ r 4)) (sp_at σ r 5))), some (.int 6)] [.int (sp_at σ r 6), .int (sp_add (sp_add (sp_add (sp_add (sp_add (sp_add 0 (sp_at σ r 0)) (sp_at σ r 1)) (sp_at σ r 2)) (sp_at σ r 3)) (sp_at σ r 4)) (sp_at σ r 5))] σ
    refine ⟨trivial, ?_⟩
    rintro _ _ ⟨rfl, rfl⟩
    change ev_wp pg_F pg_lay none [] (ev_lu pg_c57) (fun _ => false) _ 1915 20 [some (.ref 1), some (.int r), some (.int (sp_add (sp_add (sp_add (sp_add (sp_add (sp_add 0 (sp_at σ r 0)) (sp_at σ r 1)) (sp_at σ r 2)) (sp_at σ r 3)) (sp_at σ r 4)) (sp_at σ r 5))), some (.int 6)] [.int (sp_add (sp_add (sp_add (sp_add (sp_add (sp_add (sp_add 0 (sp_at σ r 0)) (sp_at σ r 1)) (sp_at σ r 2)) (sp_at σ r 3)) (sp_at σ r 4)) (sp_at σ r 5)) (sp_at σ r 6))] σ
    refine ⟨fun _ => ?_, fun h => absurd (by decide) h⟩
    change ev_wp pg_F pg_lay none [] (ev_lu pg_c57) (fun _ => false) _ 1909 27 [some (.ref 1), some (.int r), some (.int (sp_add (sp_add (sp_add (sp_add (sp_add (sp_add (sp_add 0 (sp_at σ r 0)) (sp_at σ r 1)) (sp_at σ r 2)) (sp_at σ r 3)) (sp_at σ r 4)) (sp_at σ r 5)) (sp_at σ r 6))), some (.int 7)] [] σ
    refine ⟨trivial, ?_⟩
    rintro _ _ ⟨rfl, rfl⟩
    change ev_wp pg_F pg_lay none [] (ev_lu pg_c57) (fun _ => false) _ 1905 34 [some (.ref 1), some (.int r), some (.int (sp_add (sp_add (sp_add (sp_add (sp_add (sp_add (sp_add 0 (sp_at σ r 0)) (sp_at σ r 1)) (sp_at σ r 2)) (sp_at σ r 3)) (sp_at σ r 4)) (sp_at σ r 5)) (sp_at σ r 6))), some (.int 7)] [.int (sp_at σ r 7)] σ
    refine ⟨fun (h1 : (sp_at σ r 7) = (65535 - (sp_add (sp_add (sp_add (sp_add (sp_add (sp_add (sp_add 0 (sp_at σ r 0)) (sp_at σ r 1)) (sp_at σ r 2)) (sp_at σ r 3)) (sp_at σ r 4)) (sp_at σ r 5)) (sp_at σ r 6)))) => ?_, fun (h1 : ¬ (sp_at σ r 7) = (65535 - (sp_add (sp_add (sp_add (sp_add (sp_add (sp_add (sp_add 0 (sp_at σ r 0)) (sp_at σ r 1)) (sp_at σ r 2)) (sp_at σ r 3)) (sp_at σ r 4)) (sp_at σ r 5)) (sp_at σ r 6)))) => ?_⟩
    · skip
      change ev_wp pg_F pg_lay none [] (ev_lu pg_c57) (fun _ => false) _ 1901 41 [some (.ref 1), some (.int r), some (.int (sp_add (sp_add (sp_add (sp_add (sp_add (sp_add (sp_add 0 (sp_at σ r 0)) (sp_at σ r 1)) (sp_at σ r 2)) (sp_at σ r 3)) (sp_at σ r 4)) (sp_at σ r 5)) (sp_at σ r 6))), some (.int 7)] [] σ
      exact ⟨_, rfl, by first | exact Or.inl rfl | exact Or.inr rfl, Nat.le_refl _, _, ⟨by first | exact Or.inl rfl | exact Or.inr rfl, fun hz => by first | rfl | (simp only [sp_at_zero hz] at h1; exact absurd h1 (by decide +kernel))⟩, rfl, rfl⟩
    · skip
      change ev_wp pg_F pg_lay none [] (ev_lu pg_c57) (fun _ => false) _ 1901 45 [some (.ref 1), some (.int r), some (.int (sp_add (sp_add (sp_add (sp_add (sp_add (sp_add (sp_add 0 (sp_at σ r 0)) (sp_at σ r 1)) (sp_at σ r 2)) (sp_at σ r 3)) (sp_at σ r 4)) (sp_at σ r 5)) (sp_at σ r 6))), some (.int 7)] [] σ
      exact ⟨_, rfl, by first | exact Or.inl rfl | exact Or.inr rfl, Nat.le_refl _, _, ⟨by first | exact Or.inl rfl | exact Or.inr rfl, fun hz => by first | rfl | (simp only [sp_at_zero hz] at h1; exact absurd h1 (by decide +kernel))⟩, rfl, rfl⟩
  · cases h
