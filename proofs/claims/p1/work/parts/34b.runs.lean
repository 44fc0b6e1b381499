/-! THE RUNS OF THE BODIES (laid by wip/gen/spec.py) -/
theorem pr_120 : pg_Rn pg_F 120 pg_y120 [] pg_t120 := by
  intro vs σ P h hp
  replace h : pf_120 vs σ = some P := h
  unfold pf_120 at h
  split at h
  · rename_i d m z
    cases h
    refine ⟨by simp [Value.category], Nat.le_of_ble_eq_true rfl, ev_go pg_hhs pg_cd pg_o120 (fun _ => false) 2000 (Q1 := ev_at (ev_tl pg_t120) σ.2.2 (sp_m (md_fresh σ) (fun v σ' => md_t σ σ' ∧ (sp_ins d m z = 0 ∧ σ'.1 6 0 = 1 ∨ ¬ sp_ins d m z = 0 ∧ σ'.1 6 0 = 0 ∧ v = 2))).2) ?_ (fun _ _ _ _ h => ev_fin h)⟩
    change ev_wp pg_F pg_lay none [] (ev_lu pg_c120) (fun _ => false) _ 2000 0 [some (.ref 6), some (.int d), some (.int m), some (.int z), none] [] σ
    refine ⟨trivial, ?_⟩
    rintro _ _ ⟨rfl, rfl⟩
    change ev_wp pg_F pg_lay none [] (ev_lu pg_c120) (fun _ => false) _ 1994 10 [some (.ref 6), some (.int d), some (.int m), some (.int z), none] [.int (sp_upto d 9999), .int 1, .ref 6] σ
    refine ⟨fun (h1 : (sp_upto d 9999) = 0) => ?_, fun (h1 : ¬ (sp_upto d 9999) = 0) => ?_⟩
    · skip
      change ev_wp pg_F pg_lay none [] (ev_lu pg_c120) (fun _ => false) _ 1993 34 [some (.ref 6), some (.int d), some (.int m), some (.int z), none] [.int 1, .ref 6] σ
      refine ⟨Or.inr rfl, ?_⟩
      rintro _ _ ⟨_, ⟨rfl, rfl⟩, rfl⟩
      change ev_wp pg_F pg_lay none [] (ev_lu pg_c120) (fun _ => false) _ 1990 42 [some (.ref 6), some (.int d), some (.int m), some (.int z), none] [.int 1] (ev_up σ 6 0 1)
      refine ⟨fun h => absurd h (by decide), fun _ => ?_⟩
      change ev_wp pg_F pg_lay none [] (ev_lu pg_c120) (fun _ => false) _ 1989 45 [some (.ref 6), some (.int d), some (.int m), some (.int z), none] [] (ev_up σ 6 0 1)
      exact ⟨_, rfl, Nat.le_of_eq (congrArg Prod.snd (show (ev_up σ 6 0 1).2 = σ.2 from rfl)), _, ⟨rfl, Or.inl ⟨(by rw [← md_ins_eq d m z]; unfold md_ins; rw [if_pos h1]), rfl⟩⟩, rfl⟩
    · skip
      change ev_wp pg_F pg_lay none [] (ev_lu pg_c120) (fun _ => false) _ 1993 13 [some (.ref 6), some (.int d), some (.int m), some (.int z), none] [.int 1, .ref 6] σ
      refine ⟨trivial, ?_⟩
      rintro _ _ ⟨rfl, rfl⟩
      change ev_wp pg_F pg_lay none [] (ev_lu pg_c120) (fun _ => false) _ 1989 21 [some (.ref 6), some (.int d), some (.int m), some (.int z), none] [.int (sp_upto m 1439), .int 1, .ref 6] σ
      refine ⟨fun (h2 : (sp_upto m 1439) = 0) => ?_, fun (h2 : ¬ (sp_upto m 1439) = 0) => ?_⟩
      · skip
        change ev_wp pg_F pg_lay none [] (ev_lu pg_c120) (fun _ => false) _ 1988 34 [some (.ref 6), some (.int d), some (.int m), some (.int z), none] [.int 1, .ref 6] σ
        refine ⟨Or.inr rfl, ?_⟩
        rintro _ _ ⟨_, ⟨rfl, rfl⟩, rfl⟩
        change ev_wp pg_F pg_lay none [] (ev_lu pg_c120) (fun _ => false) _ 1985 42 [some (.ref 6), some (.int d), some (.int m), some (.int z), none] [.int 1] (ev_up σ 6 0 1)
        refine ⟨fun h => absurd h (by decide), fun _ => ?_⟩
        change ev_wp pg_F pg_lay none [] (ev_lu pg_c120) (fun _ => false) _ 1984 45 [some (.ref 6), some (.int d), some (.int m), some (.int z), none] [] (ev_up σ 6 0 1)
        exact ⟨_, rfl, Nat.le_of_eq (congrArg Prod.snd (show (ev_up σ 6 0 1).2 = σ.2 from rfl)), _, ⟨rfl, Or.inl ⟨(by rw [← md_ins_eq d m z]; unfold md_ins; rw [if_neg h1, if_pos h2]), rfl⟩⟩, rfl⟩
      · skip
        change ev_wp pg_F pg_lay none [] (ev_lu pg_c120) (fun _ => false) _ 1988 24 [some (.ref 6), some (.int d), some (.int m), some (.int z), none] [.int 1, .ref 6] σ
        refine ⟨trivial, ?_⟩
        rintro _ _ ⟨rfl, rfl⟩
        change ev_wp pg_F pg_lay none [] (ev_lu pg_c120) (fun _ => false) _ 1984 31 [some (.ref 6), some (.int d), some (.int m), some (.int z), none] [.int (sp_upto z 15), .int 1, .ref 6] σ
        refine ⟨fun (h3 : (sp_upto z 15) = 0) => ?_, fun (h3 : ¬ (sp_upto z 15) = 0) => ?_⟩
        · skip
          change ev_wp pg_F pg_lay none [] (ev_lu pg_c120) (fun _ => false) _ 1983 34 [some (.ref 6), some (.int d), some (.int m), some (.int z), none] [.int 1, .ref 6] σ
          refine ⟨Or.inr rfl, ?_⟩
          rintro _ _ ⟨_, ⟨rfl, rfl⟩, rfl⟩
          change ev_wp pg_F pg_lay none [] (ev_lu pg_c120) (fun _ => false) _ 1980 42 [some (.ref 6), some (.int d), some (.int m), some (.int z), none] [.int 1] (ev_up σ 6 0 1)
          refine ⟨fun h => absurd h (by decide), fun _ => ?_⟩
          change ev_wp pg_F pg_lay none [] (ev_lu pg_c120) (fun _ => false) _ 1979 45 [some (.ref 6), some (.int d), some (.int m), some (.int z), none] [] (ev_up σ 6 0 1)
          exact ⟨_, rfl, Nat.le_of_eq (congrArg Prod.snd (show (ev_up σ 6 0 1).2 = σ.2 from rfl)), _, ⟨rfl, Or.inl ⟨(by rw [← md_ins_eq d m z]; unfold md_ins; rw [if_neg h1, if_neg h2, if_pos h3]), rfl⟩⟩, rfl⟩
        · skip
          change ev_wp pg_F pg_lay none [] (ev_lu pg_c120) (fun _ => false) _ 1983 38 [some (.ref 6), some (.int d), some (.int m), some (.int z), none] [.int 1, .ref 6] σ
          refine ⟨Or.inl rfl, ?_⟩
          rintro _ _ ⟨_, ⟨rfl, rfl⟩, rfl⟩
          change ev_wp pg_F pg_lay none [] (ev_lu pg_c120) (fun _ => false) _ 1981 42 [some (.ref 6), some (.int d), some (.int m), some (.int z), none] [.int 0] (ev_up σ 6 0 0)
          refine ⟨fun _ => ?_, fun h => absurd (by decide) h⟩
          change ev_wp pg_F pg_lay none [] (ev_lu pg_c120) (fun _ => false) _ 1980 47 [some (.ref 6), some (.int d), some (.int m), some (.int z), none] [] (ev_up σ 6 0 0)
          refine ⟨(hp.1 0), ?_⟩
          rintro _ _ ⟨rfl, rfl⟩
          change ev_wp pg_F pg_lay none [] (ev_lu pg_c120) (fun _ => false) _ 1978 51 [some (.ref 6), some (.int d), some (.int m), some (.int z), none] [.int 0] (ev_up σ 6 0 0)
          refine ⟨fun _ => ?_, fun h => absurd (by decide) h⟩
          change ev_wp pg_F pg_lay none [] (ev_lu pg_c120) (fun _ => false) _ 1977 54 [some (.ref 6), some (.int d), some (.int m), some (.int z), none] [] (ev_up σ 6 0 0)
          exact ⟨_, rfl, Nat.le_of_eq (congrArg Prod.snd (show (ev_up σ 6 0 0).2 = σ.2 from rfl)), _, ⟨rfl, Or.inr ⟨(by rw [← md_ins_eq d m z]; unfold md_ins; rw [if_neg h1, if_neg h2, if_neg h3]; decide), rfl, rfl⟩⟩, rfl⟩
  · cases h
theorem pr_68 : pg_Rn pg_F 68 pg_y68 [] pg_t68 := by
  intro vs σ P h hp
  replace h : pf_68 vs σ = some P := h
  unfold pf_68 at h
  split at h
  · rename_i b w
    cases h
    refine ⟨by simp [Value.category], Nat.le_of_ble_eq_true rfl, ev_go pg_hhs pg_cd pg_o68 (fun _ => false) 2000 (Q1 := ev_at (ev_tl pg_t68) σ.2.2 (sp_m (md_fresh σ) (fun v σ' => md_t σ σ' ∧ (sp_wd b w = 0 ∧ σ'.1 6 0 = 1 ∨ ¬ sp_wd b w = 0 ∧ σ'.1 6 0 = 0 ∧ v = 0))).2) ?_ (fun _ _ _ _ h => ev_fin h)⟩
    change ev_wp pg_F pg_lay none [] (ev_lu pg_c68) (fun _ => false) _ 2000 0 [some (.ref 6), some (.int b), some (.int w)] [] σ
    refine ⟨trivial, ?_⟩
    rintro _ _ ⟨rfl, rfl⟩
    change ev_wp pg_F pg_lay none [] (ev_lu pg_c68) (fun _ => false) _ 1994 9 [some (.ref 6), some (.int b), some (.int w)] [.int (sp_upto b 63), .int 1, .ref 6] σ
    refine ⟨fun (h1 : (sp_upto b 63) = 0) => ?_, fun (h1 : ¬ (sp_upto b 63) = 0) => ?_⟩
    · skip
      change ev_wp pg_F pg_lay none [] (ev_lu pg_c68) (fun _ => false) _ 1993 21 [some (.ref 6), some (.int b), some (.int w)] [.int 1, .ref 6] σ
      refine ⟨Or.inr rfl, ?_⟩
      rintro _ _ ⟨_, ⟨rfl, rfl⟩, rfl⟩
      change ev_wp pg_F pg_lay none [] (ev_lu pg_c68) (fun _ => false) _ 1990 29 [some (.ref 6), some (.int b), some (.int w)] [.int 1] (ev_up σ 6 0 1)
      refine ⟨fun h => absurd h (by decide), fun _ => ?_⟩
      change ev_wp pg_F pg_lay none [] (ev_lu pg_c68) (fun _ => false) _ 1989 32 [some (.ref 6), some (.int b), some (.int w)] [] (ev_up σ 6 0 1)
      exact ⟨_, rfl, Nat.le_of_eq (congrArg Prod.snd (show (ev_up σ 6 0 1).2 = σ.2 from rfl)), _, ⟨rfl, Or.inl ⟨(by unfold sp_wd; rw [if_pos h1]), rfl⟩⟩, rfl⟩
    · skip
      change ev_wp pg_F pg_lay none [] (ev_lu pg_c68) (fun _ => false) _ 1993 12 [some (.ref 6), some (.int b), some (.int w)] [.int 1, .ref 6] σ
      refine ⟨trivial, ?_⟩
      rintro _ _ ⟨rfl, rfl⟩
      change ev_wp pg_F pg_lay none [] (ev_lu pg_c68) (fun _ => false) _ 1989 18 [some (.ref 6), some (.int b), some (.int w)] [.int (sp_upto w 3), .int 1, .ref 6] σ
      refine ⟨fun (h2 : (sp_upto w 3) = 0) => ?_, fun (h2 : ¬ (sp_upto w 3) = 0) => ?_⟩
      · skip
        change ev_wp pg_F pg_lay none [] (ev_lu pg_c68) (fun _ => false) _ 1988 21 [some (.ref 6), some (.int b), some (.int w)] [.int 1, .ref 6] σ
        refine ⟨Or.inr rfl, ?_⟩
        rintro _ _ ⟨_, ⟨rfl, rfl⟩, rfl⟩
        change ev_wp pg_F pg_lay none [] (ev_lu pg_c68) (fun _ => false) _ 1985 29 [some (.ref 6), some (.int b), some (.int w)] [.int 1] (ev_up σ 6 0 1)
        refine ⟨fun h => absurd h (by decide), fun _ => ?_⟩
        change ev_wp pg_F pg_lay none [] (ev_lu pg_c68) (fun _ => false) _ 1984 32 [some (.ref 6), some (.int b), some (.int w)] [] (ev_up σ 6 0 1)
        exact ⟨_, rfl, Nat.le_of_eq (congrArg Prod.snd (show (ev_up σ 6 0 1).2 = σ.2 from rfl)), _, ⟨rfl, Or.inl ⟨(by unfold sp_wd; rw [if_neg h1, if_pos h2]), rfl⟩⟩, rfl⟩
      · skip
        change ev_wp pg_F pg_lay none [] (ev_lu pg_c68) (fun _ => false) _ 1988 25 [some (.ref 6), some (.int b), some (.int w)] [.int 1, .ref 6] σ
        refine ⟨Or.inl rfl, ?_⟩
        rintro _ _ ⟨_, ⟨rfl, rfl⟩, rfl⟩
        change ev_wp pg_F pg_lay none [] (ev_lu pg_c68) (fun _ => false) _ 1986 29 [some (.ref 6), some (.int b), some (.int w)] [.int 0] (ev_up σ 6 0 0)
        refine ⟨fun _ => ?_, fun h => absurd (by decide) h⟩
        change ev_wp pg_F pg_lay none [] (ev_lu pg_c68) (fun _ => false) _ 1985 36 [some (.ref 6), some (.int b), some (.int w)] [] (ev_up σ 6 0 0)
        refine ⟨⟨md_wd_in h1 h2, hp.1 _⟩, ?_⟩
        rintro _ _ ⟨rfl, rfl⟩
        exact ⟨_, rfl, Nat.le_of_eq (congrArg Prod.snd (show (ev_up σ 6 0 0).2 = σ.2 from rfl)), _, ⟨rfl, Or.inr ⟨(by unfold sp_wd; rw [if_neg h1, if_neg h2]; decide), rfl, rfl⟩⟩, rfl⟩
  · cases h
theorem pr_29 : pg_Rn pg_F 29 pg_y29 [] pg_t29 := by
  intro vs σ P h hp
  replace h : pf_29 vs σ = some P := h
  unfold pf_29 at h
  split at h
  · cases h
    refine ⟨by simp [Value.category], Nat.le_of_ble_eq_true rfl, ev_go pg_hhs pg_cd pg_o29 (fun _ => false) 2000 (Q1 := ev_at (ev_tl pg_t29) σ.2.2 (sp_m (md_fresh σ) (fun v σ' => md_t σ σ' ∧ v = 0)).2) ?_ (fun _ _ _ _ h => ev_fin h)⟩
    change ev_wp pg_F pg_lay none [] (ev_lu pg_c29) (fun _ => false) _ 2000 0 [some (.ref 6)] [] σ
    exact ⟨_, rfl, Nat.le_of_eq (congrArg Prod.snd (show (ev_up σ 6 0 0).2 = σ.2 from rfl)), _, ⟨rfl, hp.2.2.1⟩, rfl⟩
  · cases h
theorem pr_20 : pg_Rn pg_F 20 pg_y20 [] pg_t20 := by
  intro vs σ P h hp
  replace h : pf_20 vs σ = some P := h
  unfold pf_20 at h
  split at h
  · cases h
    refine ⟨by simp [Value.category], Nat.le_of_ble_eq_true rfl, ev_go pg_hhs pg_cd pg_o20 (fun _ => false) 2000 (Q1 := ev_at (ev_tl pg_t20) σ.2.2 (sp_m (md_fresh σ) (fun v σ' => md_t σ σ' ∧ v = 0)).2) ?_ (fun _ _ _ _ h => ev_fin h)⟩
    change ev_wp pg_F pg_lay none [] (ev_lu pg_c20) (fun _ => false) _ 2000 0 [some (.ref 6), none] [] σ
    refine ⟨fun (h1 : ((ev_up σ 6 0 0).1 6 5) < 0) => ?_, fun (h1 : ¬ ((ev_up σ 6 0 0).1 6 5) < 0) => ?_⟩
    · skip
      change ev_wp pg_F pg_lay none [] (ev_lu pg_c20) (fun _ => false) _ 1994 16 [some (.ref 6), none] [] (ev_up σ 6 0 0)
      refine ⟨fun _ => ?_, fun h => absurd (by decide) h⟩
      change ev_wp pg_F pg_lay none [] (ev_lu pg_c20) (fun _ => false) _ 1987 32 [some (.ref 6), some (.int 0)] [] (ev_up (ev_up σ 6 0 0) 6 5 (-1))
      exact ⟨_, rfl, by first | exact Or.inl rfl | exact Or.inr rfl, Nat.le_of_eq (congrArg Prod.snd (show (ev_up (ev_up σ 6 0 0) 6 5 (-1)).2 = σ.2 from rfl)), _, ⟨rfl, rfl⟩, rfl⟩
    · exact (h1 (by show σ.1 6 5 < 0; rw [hp.2.1]; decide)).elim
  · cases h
theorem pr_85 : pg_Rn pg_F 85 pg_y85 [] pg_t85 := by
  intro vs σ P h hp
  replace h : pf_85 vs σ = some P := h
  unfold pf_85 at h
  split at h
  · cases h
    refine ⟨by simp [Value.category], Nat.le_of_ble_eq_true rfl, ev_go pg_hhs pg_cd pg_o85 (fun _ => false) 2000 (Q1 := ev_at (ev_tl pg_t85) σ.2.2 (sp_m (md_fresh σ) (fun v σ' => md_t σ σ' ∧ v = -1)).2) ?_ (fun _ _ _ _ h => ev_fin h)⟩
    change ev_wp pg_F pg_lay none [] (ev_lu pg_c85) (fun _ => false) _ 2000 0 [some (.ref 6)] [] σ
    refine ⟨(hp.1 0), ?_⟩
    rintro _ _ ⟨rfl, rfl⟩
    change ev_wp pg_F pg_lay none [] (ev_lu pg_c85) (fun _ => false) _ 1995 9 [some (.ref 6)] [.int 0] (ev_up σ 6 0 0)
    refine ⟨fun h => absurd h (by decide), fun _ => ?_⟩
    change ev_wp pg_F pg_lay none [] (ev_lu pg_c85) (fun _ => false) _ 1993 29 [some (.ref 6)] [] (ev_up σ 6 0 0)
    exact ⟨_, rfl, Nat.le_of_eq (congrArg Prod.snd (show (ev_up σ 6 0 0).2 = σ.2 from rfl)), _, ⟨rfl, rfl⟩, rfl⟩
  · cases h
theorem pr_98 : pg_Rn pg_F 98 pg_y98 [] pg_t98 := by
  intro vs σ P h hp
  replace h : pf_98 vs σ = some P := h
  unfold pf_98 at h
  split at h
  · cases h
    refine ⟨by simp [Value.category], Nat.le_of_ble_eq_true rfl, ev_go pg_hhs pg_cd pg_o98 (fun _ => false) 2000 (Q1 := ev_at (ev_tl pg_t98) σ.2.2 (sp_m (md_fresh σ) (fun v σ' => md_t σ σ' ∧ v = -1)).2) ?_ (fun _ _ _ _ h => ev_fin h)⟩
    change ev_wp pg_F pg_lay none [] (ev_lu pg_c98) (fun _ => false) _ 2000 0 [some (.ref 6), none] [] σ
    refine ⟨⟨hp.z, ⟨5, by decide, by decide, rfl⟩, ⟨7, by decide, by decide, rfl⟩⟩, ?_⟩
    rintro _ _ ⟨rfl, rfl⟩
    change ev_wp pg_F pg_lay none [] (ev_lu pg_c98) (fun _ => false) _ 1994 10 [some (.ref 6), none] [.int (-1)] (ev_up σ 6 0 0)
    refine ⟨(hp.1 0), ?_⟩
    rintro _ _ ⟨rfl, rfl⟩
    change ev_wp pg_F pg_lay none [] (ev_lu pg_c98) (fun _ => false) _ 1991 15 [some (.ref 6), some (.int (-1))] [.int 0] (ev_up σ 6 0 0)
    refine ⟨fun h => absurd h (by decide), fun _ => ?_⟩
    change ev_wp pg_F pg_lay none [] (ev_lu pg_c98) (fun _ => false) _ 1989 32 [some (.ref 6), some (.int (-1))] [] (ev_up σ 6 0 0)
    exact ⟨_, rfl, Nat.le_of_eq (congrArg Prod.snd (show (ev_up σ 6 0 0).2 = σ.2 from rfl)), _, ⟨rfl, rfl⟩, rfl⟩
  · cases h
theorem pr_97 : pg_Rn pg_F 97 pg_y97 [] pg_t97 := by
  intro vs σ P h hp
  replace h : pf_97 vs σ = some P := h
  unfold pf_97 at h
  split at h
  · rename_i d
    cases h
    refine ⟨by simp [Value.category], Nat.le_of_ble_eq_true rfl, ev_go pg_hhs pg_cd pg_o97 (fun _ => false) 2000 (Q1 := ev_at (ev_tl pg_t97) σ.2.2 (sp_m (md_fresh σ) (fun v σ' => md_t σ σ' ∧ v = -1)).2) ?_ (fun _ _ _ _ h => ev_fin h)⟩
    change ev_wp pg_F pg_lay none [] (ev_lu pg_c97) (fun _ => false) _ 2000 0 [some (.ref 6), some (.int d), none] [] σ
    refine ⟨⟨hp.z, ⟨5, by decide, by decide, rfl⟩, ⟨7, by decide, by decide, rfl⟩⟩, ?_⟩
    rintro _ _ ⟨rfl, rfl⟩
    change ev_wp pg_F pg_lay none [] (ev_lu pg_c97) (fun _ => false) _ 1994 10 [some (.ref 6), some (.int d), none] [.int (-1)] (ev_up σ 6 0 0)
    refine ⟨(hp.1 0), ?_⟩
    rintro _ _ ⟨rfl, rfl⟩
    change ev_wp pg_F pg_lay none [] (ev_lu pg_c97) (fun _ => false) _ 1991 15 [some (.ref 6), some (.int d), some (.int (-1))] [.int 0] (ev_up σ 6 0 0)
    refine ⟨fun h => absurd h (by decide), fun _ => ?_⟩
    change ev_wp pg_F pg_lay none [] (ev_lu pg_c97) (fun _ => false) _ 1989 32 [some (.ref 6), some (.int d), some (.int (-1))] [] (ev_up σ 6 0 0)
    exact ⟨_, rfl, Nat.le_of_eq (congrArg Prod.snd (show (ev_up σ 6 0 0).2 = σ.2 from rfl)), _, ⟨rfl, rfl⟩, rfl⟩
  · cases h
theorem pr_121 : pg_Rn pg_F 121 pg_y121 [] pg_t121 := by
  intro vs σ P h hp
  replace h : pf_121 vs σ = some P := h
  unfold pf_121 at h
  split at h
  · rename_i k a
    cases h
    refine ⟨by simp [Value.category], Nat.le_of_ble_eq_true rfl, ev_go pg_hhs pg_cd pg_o121 (fun _ => false) 2000 (Q1 := ev_at (ev_tl pg_t121) σ.2.2 (sp_m (md_fresh σ) (fun v σ' => md_t σ σ' ∧ v = -1)).2) ?_ (fun _ _ _ _ h => ev_fin h)⟩
    change ev_wp pg_F pg_lay none [] (ev_lu pg_c121) (fun _ => false) _ 2000 0 [some (.ref 6), some (.int k), some (.int a), none, none, none] [] σ
    refine ⟨hp.z, ?_⟩
    rintro _ _ ⟨rfl, rfl⟩
    change ev_wp pg_F pg_lay none [] (ev_lu pg_c121) (fun _ => false) _ 1995 9 [some (.ref 6), some (.int k), some (.int a), none, none, none] [.int (-1)] (ev_up σ 6 0 0)
    refine ⟨fun _ => ?_, fun h => absurd (by decide) h⟩
    change ev_wp pg_F pg_lay none [] (ev_lu pg_c121) (fun _ => false) _ 1992 34 [some (.ref 6), some (.int k), some (.int a), some (.int (-1)), none, none] [] (ev_up σ 6 0 0)
    exact ⟨_, rfl, Nat.le_of_eq (congrArg Prod.snd (show (ev_up σ 6 0 0).2 = σ.2 from rfl)), _, ⟨rfl, rfl⟩, rfl⟩
  · cases h
theorem pr_122 : pg_Rn pg_F 122 pg_y122 [] pg_t122 := by
  intro vs σ P h hp
  replace h : pf_122 vs σ = some P := h
  unfold pf_122 at h
  split at h
  · rename_i a
    cases h
    refine ⟨by simp [Value.category], Nat.le_of_ble_eq_true rfl, ev_go pg_hhs pg_cd pg_o122 (fun _ => false) 2000 (Q1 := ev_at (ev_tl pg_t122) σ.2.2 (sp_m (md_fresh σ) (fun v σ' => md_t σ σ' ∧ v = -1)).2) ?_ (fun _ _ _ _ h => ev_fin h)⟩
    change ev_wp pg_F pg_lay none [] (ev_lu pg_c122) (fun _ => false) _ 2000 0 [some (.ref 6), some (.int a), none] [] σ
    refine ⟨hp.z, ?_⟩
    rintro _ _ ⟨rfl, rfl⟩
    change ev_wp pg_F pg_lay none [] (ev_lu pg_c122) (fun _ => false) _ 1995 9 [some (.ref 6), some (.int a), none] [.int (-1)] (ev_up σ 6 0 0)
    refine ⟨fun h => absurd h (by decide), fun _ => ?_⟩
    change ev_wp pg_F pg_lay none [] (ev_lu pg_c122) (fun _ => false) _ 1992 14 [some (.ref 6), some (.int a), some (.int (-1))] [] (ev_up σ 6 0 0)
    exact ⟨_, rfl, Nat.le_of_eq (congrArg Prod.snd (show (ev_up σ 6 0 0).2 = σ.2 from rfl)), _, ⟨rfl, rfl⟩, rfl⟩
  · cases h
theorem pr_82 : pg_Rn pg_F 82 pg_y82 [] pg_t82 := by
  intro vs σ P h hp
  replace h : pf_82 vs σ = some P := h
  unfold pf_82 at h
  split at h
  · rename_i a
    cases h
    refine ⟨by simp [Value.category], Nat.le_of_ble_eq_true rfl, ev_go pg_hhs pg_cd pg_o82 (fun _ => false) 2000 (Q1 := ev_at (ev_tl pg_t82) σ.2.2 (sp_m (md_fresh σ) (fun v σ' => md_t σ σ' ∧ v = sp_cnt a)).2) ?_ (fun _ _ _ _ h => ev_fin h)⟩
    change ev_wp pg_F pg_lay none [] (ev_lu pg_c82) (fun _ => false) _ 2000 0 [some (.ref 6), some (.int a)] [] σ
    refine ⟨fun (h1 : a = 0) => ?_, fun (h1 : ¬ a = 0) => ?_⟩
    · skip
      change ev_wp pg_F pg_lay none [] (ev_lu pg_c82) (fun _ => false) _ 1995 36 [some (.ref 6), some (.int a)] [] (ev_up σ 6 0 0)
      exact ⟨_, rfl, Nat.le_of_eq (congrArg Prod.snd (show (ev_up σ 6 0 0).2 = σ.2 from rfl)), _, ⟨rfl, (by unfold sp_cnt; rw [if_pos h1] <;> first | rfl | exact hp.2.2.2.1 | exact hp.2.2.2.2)⟩, rfl⟩
    refine ⟨fun (h2 : a = 1) => ?_, fun (h2 : ¬ a = 1) => ?_⟩
    · skip
      change ev_wp pg_F pg_lay none [] (ev_lu pg_c82) (fun _ => false) _ 1995 41 [some (.ref 6), some (.int a)] [] (ev_up σ 6 0 0)
      refine ⟨hp.z, ?_⟩
      rintro _ _ ⟨rfl, rfl⟩
      exact ⟨_, rfl, Nat.le_of_eq (congrArg Prod.snd (show (ev_up σ 6 0 0).2 = σ.2 from rfl)), _, ⟨rfl, (by unfold sp_cnt; rw [if_neg h1, if_pos h2] <;> first | rfl | exact hp.2.2.2.1 | exact hp.2.2.2.2)⟩, rfl⟩
    refine ⟨fun (h3 : a = 2) => ?_, fun (h3 : ¬ a = 2) => ?_⟩
    · skip
      change ev_wp pg_F pg_lay none [] (ev_lu pg_c82) (fun _ => false) _ 1995 46 [some (.ref 6), some (.int a)] [] (ev_up σ 6 0 0)
      exact ⟨_, rfl, Nat.le_of_eq (congrArg Prod.snd (show (ev_up σ 6 0 0).2 = σ.2 from rfl)), _, ⟨rfl, (by unfold sp_cnt; rw [if_neg h1, if_neg h2, if_pos h3] <;> first | rfl | exact hp.2.2.2.1 | exact hp.2.2.2.2)⟩, rfl⟩
    refine ⟨fun (h4 : a = 3) => ?_, fun (h4 : ¬ a = 3) => ?_⟩
    · skip
      change ev_wp pg_F pg_lay none [] (ev_lu pg_c82) (fun _ => false) _ 1995 51 [some (.ref 6), some (.int a)] [] (ev_up σ 6 0 0)
      refine ⟨fun (h5 : ((ev_up σ 6 0 0).1 6 5) < 0) => ?_, fun (h5 : ¬ ((ev_up σ 6 0 0).1 6 5) < 0) => ?_⟩
      · skip
        change ev_wp pg_F pg_lay none [] (ev_lu pg_c82) (fun _ => false) _ 1992 62 [some (.ref 6), some (.int a)] [] (ev_up σ 6 0 0)
        exact ⟨_, rfl, Nat.le_of_eq (congrArg Prod.snd (show (ev_up σ 6 0 0).2 = σ.2 from rfl)), _, ⟨rfl, (by unfold sp_cnt; rw [if_neg h1, if_neg h2, if_neg h3, if_pos h4] <;> first | rfl | exact hp.2.2.2.1 | exact hp.2.2.2.2)⟩, rfl⟩
      · exact (h5 (by show σ.1 6 5 < 0; rw [hp.2.1]; decide)).elim
    change ev_wp pg_F pg_lay none [] (ev_lu pg_c82) (fun _ => false) _ 1995 64 [some (.ref 6), some (.int a)] [] (ev_up σ 6 0 0)
    exact ⟨_, rfl, Nat.le_of_eq (congrArg Prod.snd (show (ev_up σ 6 0 0).2 = σ.2 from rfl)), _, ⟨rfl, (by unfold sp_cnt; rw [if_neg h1, if_neg h2, if_neg h3, if_neg h4] <;> first | rfl | exact hp.2.2.2.1 | exact hp.2.2.2.2)⟩, rfl⟩
  · cases h
