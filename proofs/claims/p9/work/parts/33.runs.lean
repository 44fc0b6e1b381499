/-! THE RUNS OF THE BODIES (laid by wip/gen/spec.py) -/
theorem pr_130 : pg_Rn pg_F 130 pg_y130 [] pg_t130 := by
  intro vs σ P h hp
  replace h : pf_130 vs σ = some P := h
  unfold pf_130 at h
  split at h
  · rename_i g d m
    cases h
    obtain ⟨bud, hb⟩ := sp_pos hp.2
    refine ⟨by simp [Value.category], Nat.le_of_ble_eq_true rfl, ev_go pg_hhs pg_cd pg_o130 (fun _ => false) 2000 (Q1 := ev_at (ev_tl pg_t130) σ.2.2 (sp_x (sp_inv σ) (fun κ => κ = 0 ∧ sp_clk g d m = 0) (fun v σ' => v = none ∧ sp_t σ σ' ∧ ¬ sp_clk g d m = 0) σ).2) ?_ (fun _ _ _ _ h => ev_fin h)⟩
    change ev_wp pg_F pg_lay none [] (ev_lu pg_c130) (fun _ => false) _ 2000 0 [some (.ref 0), some (.int g), some (.int d), some (.int m)] [] σ
    refine ⟨trivial, ?_⟩
    rintro _ _ ⟨rfl, rfl⟩
    change ev_wp pg_F pg_lay none [] (ev_lu pg_c130) (fun _ => false) _ 1998 4 [some (.ref 0), some (.int g), some (.int d), some (.int m)] [.int (sp_upto g 11)] σ
    refine ⟨fun (h1 : (sp_upto g 11) = 0) => ?_, fun (h1 : ¬ (sp_upto g 11) = 0) => ?_⟩
    · skip
      exact ⟨rfl, bud, hb, Nat.le_of_eq hb.symm, Or.inl ⟨_, ⟨rfl, (by unfold sp_clk; rw [if_pos h1])⟩, rfl, rfl, rfl, hb.symm⟩⟩
    · skip
      change ev_wp pg_F pg_lay none [] (ev_lu pg_c130) (fun _ => false) _ 1997 7 [some (.ref 0), some (.int g), some (.int d), some (.int m)] [] σ
      refine ⟨trivial, ?_⟩
      rintro _ _ ⟨rfl, rfl⟩
      change ev_wp pg_F pg_lay none [] (ev_lu pg_c130) (fun _ => false) _ 1994 12 [some (.ref 0), some (.int g), some (.int d), some (.int m)] [.int (sp_time d m)] σ
      refine ⟨fun (h2 : (sp_time d m) = 0) => ?_, fun (h2 : ¬ (sp_time d m) = 0) => ?_⟩
      · skip
        exact ⟨rfl, bud, hb, Nat.le_of_eq hb.symm, Or.inl ⟨_, ⟨rfl, (by unfold sp_clk; rw [if_neg h1, if_pos h2])⟩, rfl, rfl, rfl, hb.symm⟩⟩
      · skip
        change ev_wp pg_F pg_lay none [] (ev_lu pg_c130) (fun _ => false) _ 1993 25 [some (.ref 0), some (.int g), some (.int d), some (.int m)] [] σ
        refine ⟨sp_upto_in h1, ?_⟩
        have r3 := (sp_t.rf σ).tr (sp_up23 σ 2 (Or.inl rfl) (Int32.toNatClampNeg g) ((d * 1440) + m))
        have i4 := (sp_up23 σ 2 (Or.inl rfl) (Int32.toNatClampNeg g) ((d * 1440) + m)).2.2 hp.1
        exact ⟨rfl, Nat.le_of_eq (congrArg Prod.snd r3.2.1), Or.inr ⟨_, ⟨rfl, r3, (by unfold sp_clk; rw [if_neg h1, if_neg h2]; decide)⟩, rfl⟩⟩
  · cases h
theorem pr_126 : pg_Rn pg_F 126 pg_y126 [] pg_t126 := by
  intro vs σ P h hp
  replace h : pf_126 vs σ = some P := h
  unfold pf_126 at h
  split at h
  · rename_i g x
    cases h
    obtain ⟨bud, hb⟩ := sp_pos hp.2
    refine ⟨by simp [Value.category], Nat.le_of_ble_eq_true rfl, ev_go pg_hhs pg_cd pg_o126 (fun _ => false) 2000 (Q1 := ev_at (ev_tl pg_t126) σ.2.2 (sp_x (sp_inv σ) (fun κ => κ = 0 ∧ sp_upto g 11 = 0) (fun v σ' => v = none ∧ sp_t σ σ' ∧ ¬ sp_upto g 11 = 0) σ).2) ?_ (fun _ _ _ _ h => ev_fin h)⟩
    change ev_wp pg_F pg_lay none [] (ev_lu pg_c126) (fun _ => false) _ 2000 0 [some (.ref 0), some (.int g), some (.int x)] [] σ
    refine ⟨trivial, ?_⟩
    rintro _ _ ⟨rfl, rfl⟩
    change ev_wp pg_F pg_lay none [] (ev_lu pg_c126) (fun _ => false) _ 1998 4 [some (.ref 0), some (.int g), some (.int x)] [.int (sp_upto g 11)] σ
    refine ⟨fun (h1 : (sp_upto g 11) = 0) => ?_, fun (h1 : ¬ (sp_upto g 11) = 0) => ?_⟩
    · skip
      exact ⟨rfl, bud, hb, Nat.le_of_eq hb.symm, Or.inl ⟨_, ⟨rfl, h1⟩, rfl, rfl, rfl, hb.symm⟩⟩
    · skip
      change ev_wp pg_F pg_lay none [] (ev_lu pg_c126) (fun _ => false) _ 1997 17 [some (.ref 0), some (.int g), some (.int x)] [] σ
      refine ⟨sp_upto_in h1, ?_⟩
      have r2 := (sp_t.rf σ).tr (sp_up23 σ 3 (Or.inr rfl) (Int32.toNatClampNeg g) (vp_nar .boolean x))
      have i3 := (sp_up23 σ 3 (Or.inr rfl) (Int32.toNatClampNeg g) (vp_nar .boolean x)).2.2 hp.1
      exact ⟨rfl, Nat.le_of_eq (congrArg Prod.snd r2.2.1), Or.inr ⟨_, ⟨rfl, r2, h1⟩, rfl⟩⟩
  · cases h
theorem pr_131 : pg_Rn pg_F 131 pg_y131 [] pg_t131 := by
  intro vs σ P h hp
  replace h : pf_131 vs σ = some P := h
  unfold pf_131 at h
  split at h
  · rename_i n j
    cases h
    obtain ⟨bud, hb⟩ := sp_pos hp.2
    refine ⟨by simp [Value.category], Nat.le_of_ble_eq_true rfl, ev_go pg_hhs pg_cd pg_o131 (fun _ => false) 2000 (Q1 := ev_at (ev_tl pg_t131) σ.2.2 (sp_x (sp_inv σ) (fun κ => κ = 0 ∧ sp_tr n j = 0) (fun v σ' => v = none ∧ sp_t σ σ' ∧ ¬ sp_tr n j = 0) σ).2) ?_ (fun _ _ _ _ h => ev_fin h)⟩
    change ev_wp pg_F pg_lay none [] (ev_lu pg_c131) (fun _ => false) _ 2000 0 [some (.ref 0), some (.int n), some (.int j)] [] σ
    refine ⟨trivial, ?_⟩
    rintro _ _ ⟨rfl, rfl⟩
    change ev_wp pg_F pg_lay none [] (ev_lu pg_c131) (fun _ => false) _ 1997 6 [some (.ref 0), some (.int n), some (.int j)] [.int (sp_upto n 100)] σ
    refine ⟨fun (h1 : (sp_upto n 100) = 0) => ?_, fun (h1 : ¬ (sp_upto n 100) = 0) => ?_⟩
    · skip
      exact ⟨rfl, bud, hb, Nat.le_of_eq hb.symm, Or.inl ⟨_, ⟨rfl, (by unfold sp_tr; rw [if_pos h1])⟩, rfl, rfl, rfl, hb.symm⟩⟩
    · skip
      change ev_wp pg_F pg_lay none [] (ev_lu pg_c131) (fun _ => false) _ 1996 9 [some (.ref 0), some (.int n), some (.int j)] [] σ
      refine ⟨trivial, ?_⟩
      rintro _ _ ⟨rfl, rfl⟩
      change ev_wp pg_F pg_lay none [] (ev_lu pg_c131) (fun _ => false) _ 1993 15 [some (.ref 0), some (.int n), some (.int j)] [.int (sp_upto j 65535)] σ
      refine ⟨fun (h2 : (sp_upto j 65535) = 0) => ?_, fun (h2 : ¬ (sp_upto j 65535) = 0) => ?_⟩
      · skip
        exact ⟨rfl, bud, hb, Nat.le_of_eq hb.symm, Or.inl ⟨_, ⟨rfl, (by unfold sp_tr; rw [if_neg h1, if_pos h2])⟩, rfl, rfl, rfl, hb.symm⟩⟩
      · skip
        change ev_wp pg_F pg_lay none [] (ev_lu pg_c131) (fun _ => false) _ 1992 28 [some (.ref 0), some (.int n), some (.int j)] [] σ
        refine ⟨trivial, ?_⟩
        rintro _ s4 ⟨k3, rfl⟩
        have r5 := (sp_t.rf σ).tr k3.t
        have i6 := k3.inv hp.1
        exact ⟨rfl, Nat.le_of_eq (congrArg Prod.snd r5.2.1), Or.inr ⟨_, ⟨rfl, r5, (by unfold sp_tr; rw [if_neg h1, if_neg h2]; decide)⟩, rfl⟩⟩
  · cases h
theorem pr_128 : pg_Rn pg_F 128 pg_y128 [] pg_t128 := by
  intro vs σ P h hp
  replace h : pf_128 vs σ = some P := h
  unfold pf_128 at h
  split at h
  · rename_i k a b c
    cases h
    obtain ⟨bud, hb⟩ := sp_pos hp.2
    refine ⟨by simp [Value.category], Nat.le_of_ble_eq_true rfl, ev_go pg_hhs pg_cd pg_o128 (fun _ => false) 2000 (Q1 := ev_at (ev_tl pg_t128) σ.2.2 (sp_x (sp_inv σ) (fun κ => κ = 0 ∧ sp_prod k a b c = 0 ∨ κ = 1 ∧ ¬ sp_prod k a b c = 0 ∧ ¬ σ.1 1 4 = 0) (fun v σ' => ∃ x : Int32, v = some (.int x) ∧ sp_t σ σ' ∧ ¬ sp_prod k a b c = 0 ∧ σ.1 1 4 = 0 ∧ sp_b x ∧ (sp_at σ 0 0 = 0 → x = 1)) σ).2) ?_ (fun _ _ _ _ h => ev_fin h)⟩
    change ev_wp pg_F pg_lay none [] (ev_lu pg_c128) (fun _ => false) _ 2000 0 [some (.ref 0), some (.int k), some (.int a), some (.int b), some (.int c)] [] σ
    refine ⟨trivial, ?_⟩
    rintro _ _ ⟨rfl, rfl⟩
    change ev_wp pg_F pg_lay none [] (ev_lu pg_c128) (fun _ => false) _ 1995 8 [some (.ref 0), some (.int k), some (.int a), some (.int b), some (.int c)] [.int (sp_prod k a b c)] σ
    refine ⟨fun (h1 : (sp_prod k a b c) = 0) => ?_, fun (h1 : ¬ (sp_prod k a b c) = 0) => ?_⟩
    · skip
      exact ⟨rfl, bud, hb, Nat.le_of_eq hb.symm, Or.inl ⟨_, Or.inl ⟨rfl, h1⟩, rfl, rfl, rfl, hb.symm⟩⟩
    · skip
      change ev_wp pg_F pg_lay none [] (ev_lu pg_c128) (fun _ => false) _ 1994 21 [some (.ref 0), some (.int k), some (.int a), some (.int b), some (.int c)] [] σ
      refine ⟨hp.1.2.1, ?_⟩
      rintro _ _ ⟨rfl, rfl⟩
      change ev_wp pg_F pg_lay none [] (ev_lu pg_c128) (fun _ => false) _ 1991 28 [some (.ref 0), some (.int k), some (.int a), some (.int b), some (.int c)] [.int (σ.1 1 4)] σ
      refine ⟨fun (h2 : (σ.1 1 4) = 0) => ?_, fun (h2 : ¬ (σ.1 1 4) = 0) => ?_⟩
      · skip
        change ev_wp pg_F pg_lay none [] (ev_lu pg_c128) (fun _ => false) _ 1990 41 [some (.ref 0), some (.int k), some (.int a), some (.int b), some (.int c)] [] σ
        refine ⟨trivial, ?_⟩
        rintro _ _ ⟨rfl, rfl⟩
        change ev_wp pg_F pg_lay none [] (ev_lu pg_c128) (fun _ => false) _ 1988 45 [some (.ref 0), some (.int k), some (.int a), some (.int b), some (.int c)] [.int (sp_at σ 0 0)] σ
        refine ⟨fun (h3 : (sp_at σ 0 0) = 0) => ?_, fun (h3 : ¬ (sp_at σ 0 0) = 0) => ?_⟩
        · skip
          change ev_wp pg_F pg_lay none [] (ev_lu pg_c128) (fun _ => false) _ 1987 50 [some (.ref 0), some (.int k), some (.int a), some (.int b), some (.int c)] [] σ
          refine ⟨trivial, ?_⟩
          rintro _ s5 ⟨k4, rfl⟩
          have r6 := (sp_t.rf σ).tr k4.t
          have i7 := k4.inv hp.1
          change ev_wp pg_F pg_lay none [] (ev_lu pg_c128) (fun _ => false) _ 1981 59 [some (.ref 0), some (.int k), some (.int a), some (.int b), some (.int c)] [] s5
          exact ⟨_, rfl, by first | exact Or.inl rfl | exact Or.inr rfl, Nat.le_of_eq (congrArg Prod.snd r6.2.1), Or.inr ⟨_, ⟨_, rfl, r6, h1, h2, by first | exact Or.inl rfl | exact Or.inr rfl, fun hz => by first | rfl | exact absurd hz h3⟩, rfl⟩⟩
        · skip
          change ev_wp pg_F pg_lay none [] (ev_lu pg_c128) (fun _ => false) _ 1987 48 [some (.ref 0), some (.int k), some (.int a), some (.int b), some (.int c)] [] σ
          exact ⟨_, rfl, by first | exact Or.inl rfl | exact Or.inr rfl, Nat.le_of_eq (congrArg Prod.snd (sp_t.rf σ).2.1), Or.inr ⟨_, ⟨_, rfl, (sp_t.rf σ), h1, h2, by first | exact Or.inl rfl | exact Or.inr rfl, fun hz => by first | rfl | exact absurd hz h3⟩, rfl⟩⟩
      · skip
        exact ⟨rfl, bud, hb, Nat.le_of_eq hb.symm, Or.inl ⟨_, Or.inr ⟨rfl, h1, h2⟩, rfl, rfl, rfl, hb.symm⟩⟩
  · cases h
theorem pr_129 : pg_Rn pg_F 129 pg_y129 [] pg_t129 := by
  intro vs σ P h hp
  replace h : pf_129 vs σ = some P := h
  unfold pf_129 at h
  split at h
  · rename_i g
    cases h
    obtain ⟨bud, hb⟩ := sp_pos hp.2
    refine ⟨by simp [Value.category], Nat.le_of_ble_eq_true rfl, ev_go pg_hhs pg_cd pg_o129 (fun _ => false) 2000 (Q1 := ev_at (ev_tl pg_t129) σ.2.2 (sp_x (sp_inv σ) (fun κ => κ = 0 ∧ sp_upto g 11 = 0 ∨ κ = 1 ∧ ¬ sp_upto g 11 = 0 ∧ ¬ σ.1 1 4 = 0) (fun v σ' => ∃ x : Int32, v = some (.int x) ∧ sp_t σ σ' ∧ ¬ sp_upto g 11 = 0 ∧ σ.1 1 4 = 0 ∧ (sp_zero σ → x = 0)) σ).2) ?_ (fun _ _ _ _ h => ev_fin h)⟩
    change ev_wp pg_F pg_lay none [] (ev_lu pg_c129) (fun _ => false) _ 2000 0 [some (.ref 0), some (.int g)] [] σ
    refine ⟨trivial, ?_⟩
    rintro _ _ ⟨rfl, rfl⟩
    change ev_wp pg_F pg_lay none [] (ev_lu pg_c129) (fun _ => false) _ 1998 4 [some (.ref 0), some (.int g)] [.int (sp_upto g 11)] σ
    refine ⟨fun (h1 : (sp_upto g 11) = 0) => ?_, fun (h1 : ¬ (sp_upto g 11) = 0) => ?_⟩
    · skip
      exact ⟨rfl, bud, hb, Nat.le_of_eq hb.symm, Or.inl ⟨_, Or.inl ⟨rfl, h1⟩, rfl, rfl, rfl, hb.symm⟩⟩
    · skip
      change ev_wp pg_F pg_lay none [] (ev_lu pg_c129) (fun _ => false) _ 1997 17 [some (.ref 0), some (.int g)] [] σ
      refine ⟨hp.1.2.1, ?_⟩
      rintro _ _ ⟨rfl, rfl⟩
      change ev_wp pg_F pg_lay none [] (ev_lu pg_c129) (fun _ => false) _ 1994 24 [some (.ref 0), some (.int g)] [.int (σ.1 1 4)] σ
      refine ⟨fun (h2 : (σ.1 1 4) = 0) => ?_, fun (h2 : ¬ (σ.1 1 4) = 0) => ?_⟩
      · skip
        change ev_wp pg_F pg_lay none [] (ev_lu pg_c129) (fun _ => false) _ 1993 37 [some (.ref 0), some (.int g)] [] σ
        refine ⟨trivial, ?_⟩
        rintro _ _ ⟨rfl, rfl⟩
        have r3 := (sp_t.rf σ).tr (sp_up1 σ 4 1 (fun _ => Or.inr rfl) (fun h => absurd h (by decide))).t
        have i4 := (sp_up1 σ 4 1 (fun _ => Or.inr rfl) (fun h => absurd h (by decide))).inv hp.1
        change ev_wp pg_F pg_lay none [] (ev_lu pg_c129) (fun _ => false) _ 1990 44 [some (.ref 0), some (.int g)] [] (ev_up σ 1 4 1)
        have r5 := r3.tr (sp_up0 (ev_up σ 1 4 1) 3 g (fun _ => sp_upto_in h1))
        have i6 := (sp_up0 (ev_up σ 1 4 1) 3 g (fun _ => sp_upto_in h1)).2.2 i4
        have r7 := r5.tr (sp_up0 (ev_up (ev_up σ 1 4 1) 0 3 g) 4 (-1) (fun h => absurd h (by decide)))
        have i8 := (sp_up0 (ev_up (ev_up σ 1 4 1) 0 3 g) 4 (-1) (fun h => absurd h (by decide))).2.2 i6
        refine ⟨trivial, ?_⟩
        rintro _ s11 ⟨v9, k10, rfl⟩
        have r12 := r7.tr k10.2.1.t
        have i13 := k10.2.1.inv i8
        change ev_wp pg_F pg_lay none [] (ev_lu pg_c129) (fun _ => false) _ 1982 58 [some (.ref 0), some (.int g)] [.int v9] s11
        refine ⟨fun (h14 : v9 = 0) => ?_, fun (h14 : ¬ v9 = 0) => ?_⟩
        · skip
          change ev_wp pg_F pg_lay none [] (ev_lu pg_c129) (fun _ => false) _ 1981 68 [some (.ref 0), some (.int g)] [] s11
          exact ⟨_, rfl, Nat.le_of_eq (congrArg Prod.snd r12.2.1), Or.inr ⟨_, ⟨_, rfl, r12, h1, h2, fun hz => by have z1 := k10.2.2 hz; rw [z1.1] at h14; exact absurd h14 (by decide)⟩, rfl⟩⟩
        · skip
          change ev_wp pg_F pg_lay none [] (ev_lu pg_c129) (fun _ => false) _ 1981 61 [some (.ref 0), some (.int g)] [] s11
          refine ⟨trivial, ?_⟩
          rintro _ s17 ⟨v15, k16, rfl⟩
          have r18 := r12.tr k16.2.1
          have i19 := k16.2.1.2.2 i13
          change ev_wp pg_F pg_lay none [] (ev_lu pg_c129) (fun _ => false) _ 1979 65 [some (.ref 0), some (.int g)] [.int v15] s17
          refine ⟨fun (h20 : v15 = 0) => ?_, fun (h20 : ¬ v15 = 0) => ?_⟩
          · skip
            change ev_wp pg_F pg_lay none [] (ev_lu pg_c129) (fun _ => false) _ 1978 68 [some (.ref 0), some (.int g)] [] s17
            exact ⟨_, rfl, Nat.le_of_eq (congrArg Prod.snd r18.2.1), Or.inr ⟨_, ⟨_, rfl, r18, h1, h2, fun hz => by have z1 := k10.2.2 hz; have z2 := k16.2.2 (by rw [z1.2]; exact hz); rw [z2.1] at h20; exact absurd h20 (by decide)⟩, rfl⟩⟩
          · skip
            change ev_wp pg_F pg_lay none [] (ev_lu pg_c129) (fun _ => false) _ 1978 70 [some (.ref 0), some (.int g)] [] s17
            refine ⟨trivial, ?_⟩
            rintro _ _ ⟨rfl, rfl⟩
            exact ⟨_, rfl, Nat.le_of_eq (congrArg Prod.snd r18.2.1), Or.inr ⟨_, ⟨_, rfl, r18, h1, h2, fun hz => by have z1 := k10.2.2 hz; have z2 := k16.2.2 (by rw [z1.2]; exact hz); rw [z2.2, z1.2]; exact sp_at_zero hz _ _⟩, rfl⟩⟩
      · skip
        exact ⟨rfl, bud, hb, Nat.le_of_eq hb.symm, Or.inl ⟨_, Or.inr ⟨rfl, h1, h2⟩, rfl, rfl, rfl, hb.symm⟩⟩
  · cases h
theorem pr_133 : pg_Rn pg_F 133 pg_y133 [] pg_t133 := by
  intro vs σ P h hp
  replace h : pf_133 vs σ = some P := h
  unfold pf_133 at h
  split at h
  · rename_i l z d
    cases h
    obtain ⟨bud, hb⟩ := sp_pos hp.2
    refine ⟨by simp [Value.category], Nat.le_of_ble_eq_true rfl, ev_go pg_hhs pg_cd pg_o133 (fun _ => false) 2000 (Q1 := ev_at (ev_tl pg_t133) σ.2.2 (sp_x (sp_inv σ) (fun κ => κ = 0 ∧ sp_val l z d = 0 ∨ κ = 1 ∧ ¬ sp_val l z d = 0 ∧ σ.1 1 4 = 0) (fun v σ' => ∃ x : Int32, v = some (.int x) ∧ sp_t σ σ' ∧ ¬ sp_val l z d = 0 ∧ ¬ σ.1 1 4 = 0) σ).2) ?_ (fun _ _ _ _ h => ev_fin h)⟩
    change ev_wp pg_F pg_lay none [] (ev_lu pg_c133) (fun _ => false) _ 2000 0 [some (.ref 0), some (.int l), some (.int z), some (.int d), none, none] [] σ
    refine ⟨trivial, ?_⟩
    rintro _ _ ⟨rfl, rfl⟩
    change ev_wp pg_F pg_lay none [] (ev_lu pg_c133) (fun _ => false) _ 1997 7 [some (.ref 0), some (.int l), some (.int z), some (.int d), none, none] [.int (sp_upto l 255)] σ
    refine ⟨fun (h1 : (sp_upto l 255) = 0) => ?_, fun (h1 : ¬ (sp_upto l 255) = 0) => ?_⟩
    · skip
      exact ⟨rfl, bud, hb, Nat.le_of_eq hb.symm, Or.inl ⟨_, Or.inl ⟨rfl, (by unfold sp_val; rw [if_pos h1])⟩, rfl, rfl, rfl, hb.symm⟩⟩
    · skip
      change ev_wp pg_F pg_lay none [] (ev_lu pg_c133) (fun _ => false) _ 1996 10 [some (.ref 0), some (.int l), some (.int z), some (.int d), none, none] [] σ
      refine ⟨trivial, ?_⟩
      rintro _ _ ⟨rfl, rfl⟩
      change ev_wp pg_F pg_lay none [] (ev_lu pg_c133) (fun _ => false) _ 1993 16 [some (.ref 0), some (.int l), some (.int z), some (.int d), none, none] [.int (sp_upto z 15)] σ
      refine ⟨fun (h2 : (sp_upto z 15) = 0) => ?_, fun (h2 : ¬ (sp_upto z 15) = 0) => ?_⟩
      · skip
        exact ⟨rfl, bud, hb, Nat.le_of_eq hb.symm, Or.inl ⟨_, Or.inl ⟨rfl, (by unfold sp_val; rw [if_neg h1, if_pos h2])⟩, rfl, rfl, rfl, hb.symm⟩⟩
      · skip
        change ev_wp pg_F pg_lay none [] (ev_lu pg_c133) (fun _ => false) _ 1992 19 [some (.ref 0), some (.int l), some (.int z), some (.int d), none, none] [] σ
        refine ⟨trivial, ?_⟩
        rintro _ _ ⟨rfl, rfl⟩
        change ev_wp pg_F pg_lay none [] (ev_lu pg_c133) (fun _ => false) _ 1989 25 [some (.ref 0), some (.int l), some (.int z), some (.int d), none, none] [.int (sp_upto d 15)] σ
        refine ⟨fun (h3 : (sp_upto d 15) = 0) => ?_, fun (h3 : ¬ (sp_upto d 15) = 0) => ?_⟩
        · skip
          exact ⟨rfl, bud, hb, Nat.le_of_eq hb.symm, Or.inl ⟨_, Or.inl ⟨rfl, (by unfold sp_val; rw [if_neg h1, if_neg h2, if_pos h3])⟩, rfl, rfl, rfl, hb.symm⟩⟩
        · skip
          change ev_wp pg_F pg_lay none [] (ev_lu pg_c133) (fun _ => false) _ 1988 38 [some (.ref 0), some (.int l), some (.int z), some (.int d), none, none] [] σ
          refine ⟨hp.1.2.1, ?_⟩
          rintro _ _ ⟨rfl, rfl⟩
          change ev_wp pg_F pg_lay none [] (ev_lu pg_c133) (fun _ => false) _ 1985 45 [some (.ref 0), some (.int l), some (.int z), some (.int d), none, none] [.int (σ.1 1 4)] σ
          refine ⟨fun (h4 : (σ.1 1 4) = 0) => ?_, fun (h4 : ¬ (σ.1 1 4) = 0) => ?_⟩
          · skip
            exact ⟨rfl, bud, hb, Nat.le_of_eq hb.symm, Or.inl ⟨_, Or.inr ⟨rfl, (by unfold sp_val; rw [if_neg h1, if_neg h2, if_neg h3]; decide), h4⟩, rfl, rfl, rfl, hb.symm⟩⟩
          · skip
            change ev_wp pg_F pg_lay none [] (ev_lu pg_c133) (fun _ => false) _ 1984 58 [some (.ref 0), some (.int l), some (.int z), some (.int d), none, none] [] σ
            refine ⟨hp.1, ?_⟩
            rintro _ _ ⟨v5, k6, rfl, rfl⟩
            change ev_wp pg_F pg_lay none [] (ev_lu pg_c133) (fun _ => false) _ 1981 63 [some (.ref 0), some (.int l), some (.int z), some (.int d), none, none] [.int v5, .ref 0] σ
            have r7 := (sp_t.rf σ).tr (sp_up0 σ 5 v5 (fun h => absurd h (by decide)))
            have i8 := (sp_up0 σ 5 v5 (fun h => absurd h (by decide))).2.2 hp.1
            refine ⟨fun (h9 : ((ev_up σ 0 5 v5).1 0 5) = 0) => ?_, fun (h9 : ¬ ((ev_up σ 0 5 v5).1 0 5) = 0) => ?_⟩
            · skip
              change ev_wp pg_F pg_lay none [] (ev_lu pg_c133) (fun _ => false) _ 1977 75 [some (.ref 0), some (.int l), some (.int z), some (.int d), none, none] [] (ev_up σ 0 5 v5)
              refine ⟨trivial, ?_⟩
              rintro _ _ ⟨v10, k11, rfl, rfl⟩
              change ev_wp pg_F pg_lay none [] (ev_lu pg_c133) (fun _ => false) _ 1975 79 [some (.ref 0), some (.int l), some (.int z), some (.int d), none, none] [.int v10] (ev_up σ 0 5 v5)
              refine ⟨i8, ?_⟩
              rintro _ _ ⟨v12, k13, rfl, rfl⟩
              change ev_wp pg_F pg_lay none [] (ev_lu pg_c133) (fun _ => false) _ 1970 88 [some (.ref 0), some (.int l), some (.int z), some (.int d), some (.int v10), none] [.int v12] (ev_up σ 0 5 v5)
              refine ⟨fun (h14 : v12 = 0) => ?_, fun (h14 : ¬ v12 = 0) => ?_⟩
              · skip
                change ev_wp pg_F pg_lay none [] (ev_lu pg_c133) (fun _ => false) _ 1969 103 [some (.ref 0), some (.int l), some (.int z), some (.int d), some (.int v10), none] [] (ev_up σ 0 5 v5)
                refine ⟨i8, ?_⟩
                rintro _ s17 ⟨v15, k16, rfl⟩
                have r18 := r7.tr k16
                have i19 := k16.2.2 i8
                change ev_wp pg_F pg_lay none [] (ev_lu pg_c133) (fun _ => false) _ 1963 112 [some (.ref 0), some (.int l), some (.int z), some (.int d), some (.int v10), none] [.int v15] s17
                refine ⟨fun (h20 : (s17.1 0 5) = 0) => ?_, fun (h20 : ¬ (s17.1 0 5) = 0) => ?_⟩
                · skip
                  change ev_wp pg_F pg_lay none [] (ev_lu pg_c133) (fun _ => false) _ 1959 121 [some (.ref 0), some (.int l), some (.int z), some (.int d), some (.int v10), some (.int v15)] [] s17
                  have r21 := r18.tr (sp_up0 s17 4 (-1) (fun h => absurd h (by decide)))
                  have i22 := (sp_up0 s17 4 (-1) (fun h => absurd h (by decide))).2.2 i19
                  exact ⟨_, rfl, Nat.le_of_eq (congrArg Prod.snd r21.2.1), Or.inr ⟨_, ⟨_, rfl, r21, (by unfold sp_val; rw [if_neg h1, if_neg h2, if_neg h3]; decide), h4⟩, rfl⟩⟩
                · skip
                  change ev_wp pg_F pg_lay none [] (ev_lu pg_c133) (fun _ => false) _ 1959 126 [some (.ref 0), some (.int l), some (.int z), some (.int d), some (.int v10), some (.int v15)] [] s17
                  exact ⟨_, rfl, Nat.le_of_eq (congrArg Prod.snd r18.2.1), Or.inr ⟨_, ⟨_, rfl, r18, (by unfold sp_val; rw [if_neg h1, if_neg h2, if_neg h3]; decide), h4⟩, rfl⟩⟩
              · skip
                change ev_wp pg_F pg_lay none [] (ev_lu pg_c133) (fun _ => false) _ 1969 91 [some (.ref 0), some (.int l), some (.int z), some (.int d), some (.int v10), none] [] (ev_up σ 0 5 v5)
                have r23 := r7.tr (sp_up0 (ev_up σ 0 5 v5) 4 (-1) (fun h => absurd h (by decide)))
                have i24 := (sp_up0 (ev_up σ 0 5 v5) 4 (-1) (fun h => absurd h (by decide))).2.2 i8
                refine ⟨trivial, ?_⟩
                rintro _ _ ⟨v25, k26, rfl, rfl⟩
                exact ⟨_, rfl, Nat.le_of_eq (congrArg Prod.snd r23.2.1), Or.inr ⟨_, ⟨_, rfl, r23, (by unfold sp_val; rw [if_neg h1, if_neg h2, if_neg h3]; decide), h4⟩, rfl⟩⟩
            · skip
              change ev_wp pg_F pg_lay none [] (ev_lu pg_c133) (fun _ => false) _ 1977 73 [some (.ref 0), some (.int l), some (.int z), some (.int d), none, none] [] (ev_up σ 0 5 v5)
              exact ⟨_, rfl, Nat.le_of_eq (congrArg Prod.snd r7.2.1), Or.inr ⟨_, ⟨_, rfl, r7, (by unfold sp_val; rw [if_neg h1, if_neg h2, if_neg h3]; decide), h4⟩, rfl⟩⟩
  · cases h
theorem pr_132 : pg_Rn pg_F 132 pg_y132 [] pg_t132 := by
  intro vs σ P h hp
  replace h : pf_132 vs σ = some P := h
  unfold pf_132 at h
  split at h
  · rename_i c
    cases h
    obtain ⟨bud, hb⟩ := sp_pos hp.2
    refine ⟨by simp [Value.category], Nat.le_of_ble_eq_true rfl, ev_go pg_hhs pg_cd pg_o132 (fun _ => false) 2000 (Q1 := ev_at (ev_tl pg_t132) σ.2.2 (sp_x (sp_inv σ) (fun κ => κ = 0 ∧ sp_top c = 0 ∨ κ = 1 ∧ ¬ sp_top c = 0 ∧ σ.1 1 4 = 0) (fun v σ' => ∃ x : Int32, v = some (.int x) ∧ sp_t σ σ' ∧ ¬ sp_top c = 0 ∧ ¬ σ.1 1 4 = 0) σ).2) ?_ (fun _ _ _ _ h => ev_fin h)⟩
    change ev_wp pg_F pg_lay none [] (ev_lu pg_c132) (fun _ => false) _ 2000 0 [some (.ref 0), some (.int c), none] [] σ
    refine ⟨fun (h1 : c < 1) => ?_, fun (h1 : ¬ c < 1) => ?_⟩
    · skip
      exact ⟨rfl, bud, hb, Nat.le_of_eq hb.symm, Or.inl ⟨_, Or.inl ⟨rfl, (by unfold sp_top; rw [if_pos h1])⟩, rfl, rfl, rfl, hb.symm⟩⟩
    · skip
      change ev_wp pg_F pg_lay none [] (ev_lu pg_c132) (fun _ => false) _ 1997 5 [some (.ref 0), some (.int c), none] [] σ
      refine ⟨fun (h2 : c ≤ 65535) => ?_, fun (h2 : ¬ c ≤ 65535) => ?_⟩
      · skip
        change ev_wp pg_F pg_lay none [] (ev_lu pg_c132) (fun _ => false) _ 1994 21 [some (.ref 0), some (.int c), none] [] σ
        refine ⟨hp.1.2.1, ?_⟩
        rintro _ _ ⟨rfl, rfl⟩
        change ev_wp pg_F pg_lay none [] (ev_lu pg_c132) (fun _ => false) _ 1991 28 [some (.ref 0), some (.int c), none] [.int (σ.1 1 4)] σ
        refine ⟨fun (h3 : (σ.1 1 4) = 0) => ?_, fun (h3 : ¬ (σ.1 1 4) = 0) => ?_⟩
        · skip
          exact ⟨rfl, bud, hb, Nat.le_of_eq hb.symm, Or.inl ⟨_, Or.inr ⟨rfl, (by unfold sp_top; rw [if_neg h1, if_pos h2]; decide), h3⟩, rfl, rfl, rfl, hb.symm⟩⟩
        · skip
          change ev_wp pg_F pg_lay none [] (ev_lu pg_c132) (fun _ => false) _ 1990 41 [some (.ref 0), some (.int c), none] [] σ
          refine ⟨trivial, ?_⟩
          rintro _ _ ⟨v4, k5, rfl, rfl⟩
          change ev_wp pg_F pg_lay none [] (ev_lu pg_c132) (fun _ => false) _ 1988 45 [some (.ref 0), some (.int c), none] [.int v4] σ
          refine ⟨hp.1, ?_⟩
          rintro _ _ ⟨v6, k7, rfl, rfl⟩
          change ev_wp pg_F pg_lay none [] (ev_lu pg_c132) (fun _ => false) _ 1982 53 [some (.ref 0), some (.int c), some (.int v4)] [.int v6, .ref 0] σ
          have r8 := (sp_t.rf σ).tr (sp_up0 σ 5 v6 (fun h => absurd h (by decide)))
          have i9 := (sp_up0 σ 5 v6 (fun h => absurd h (by decide))).2.2 hp.1
          refine ⟨fun (h10 : ((ev_up σ 0 5 v6).1 0 5) = 0) => ?_, fun (h10 : ¬ ((ev_up σ 0 5 v6).1 0 5) = 0) => ?_⟩
          · skip
            change ev_wp pg_F pg_lay none [] (ev_lu pg_c132) (fun _ => false) _ 1978 65 [some (.ref 0), some (.int c), some (.int v4)] [] (ev_up σ 0 5 v6)
            refine ⟨trivial, ?_⟩
            rintro _ _ ⟨v11, k12, rfl, rfl⟩
            change ev_wp pg_F pg_lay none [] (ev_lu pg_c132) (fun _ => false) _ 1974 71 [some (.ref 0), some (.int c), some (.int v4)] [.int v11, .ref 0] (ev_up σ 0 5 v6)
            refine ⟨trivial, ?_⟩
            rintro _ _ ⟨rfl, rfl⟩
            change ev_wp pg_F pg_lay none [] (ev_lu pg_c132) (fun _ => false) _ 1967 82 [some (.ref 0), some (.int c), some (.int v4)] [.int (sp_at (ev_up σ 0 5 v6) v4 2), .int (v11 + c), .ref 0] (ev_up σ 0 5 v6)
            refine ⟨trivial, ?_⟩
            rintro _ _ ⟨rfl, rfl⟩
            change ev_wp pg_F pg_lay none [] (ev_lu pg_c132) (fun _ => false) _ 1962 91 [some (.ref 0), some (.int c), some (.int v4)] [.int (sp_at (ev_up σ 0 5 v6) v4 3), .int (sp_at (ev_up σ 0 5 v6) v4 2), .int (v11 + c), .ref 0] (ev_up σ 0 5 v6)
            refine ⟨trivial, ?_⟩
            rintro _ s14 ⟨k13, rfl⟩
            have r15 := r8.tr k13.t
            have i16 := k13.inv i9
            change ev_wp pg_F pg_lay none [] (ev_lu pg_c132) (fun _ => false) _ 1961 94 [some (.ref 0), some (.int c), some (.int v4)] [] s14
            refine ⟨trivial, ?_⟩
            rintro _ s19 ⟨v17, k18, rfl⟩
            have r20 := r15.tr k18.2.t
            have i21 := k18.2.inv i16
            change ev_wp pg_F pg_lay none [] (ev_lu pg_c132) (fun _ => false) _ 1957 102 [some (.ref 0), some (.int c), some (.int v4)] [.int v17] s19
            refine ⟨fun (h22 : v17 = 0) => ?_, fun (h22 : ¬ v17 = 0) => ?_⟩
            · skip
              change ev_wp pg_F pg_lay none [] (ev_lu pg_c132) (fun _ => false) _ 1956 109 [some (.ref 0), some (.int c), some (.int v4)] [] s19
              exact ⟨_, rfl, Nat.le_of_eq (congrArg Prod.snd r20.2.1), Or.inr ⟨_, ⟨_, rfl, r20, (by unfold sp_top; rw [if_neg h1, if_pos h2]; decide), h3⟩, rfl⟩⟩
            · skip
              change ev_wp pg_F pg_lay none [] (ev_lu pg_c132) (fun _ => false) _ 1956 105 [some (.ref 0), some (.int c), some (.int v4)] [] s19
              exact ⟨_, rfl, Nat.le_of_eq (congrArg Prod.snd r20.2.1), Or.inr ⟨_, ⟨_, rfl, r20, (by unfold sp_top; rw [if_neg h1, if_pos h2]; decide), h3⟩, rfl⟩⟩
          · skip
            change ev_wp pg_F pg_lay none [] (ev_lu pg_c132) (fun _ => false) _ 1978 63 [some (.ref 0), some (.int c), some (.int v4)] [] (ev_up σ 0 5 v6)
            exact ⟨_, rfl, Nat.le_of_eq (congrArg Prod.snd r8.2.1), Or.inr ⟨_, ⟨_, rfl, r8, (by unfold sp_top; rw [if_neg h1, if_pos h2]; decide), h3⟩, rfl⟩⟩
      · skip
        exact ⟨rfl, bud, hb, Nat.le_of_eq hb.symm, Or.inl ⟨_, Or.inl ⟨rfl, (by unfold sp_top; rw [if_neg h1, if_neg h2])⟩, rfl, rfl, rfl, hb.symm⟩⟩
  · cases h
theorem pr_127 : pg_Rn pg_F 127 pg_y127 [] pg_t127 := by
  intro vs σ P h hp
  replace h : pf_127 vs σ = some P := h
  unfold pf_127 at h
  split at h
  · rename_i d m z
    cases h
    obtain ⟨bud, hb⟩ := sp_pos hp.2
    refine ⟨by simp [Value.category], Nat.le_of_ble_eq_true rfl, ev_go pg_hhs pg_cd pg_o127 (fun _ => false) 2000 (Q1 := ev_at (ev_tl pg_t127) σ.2.2 (sp_x (sp_inv σ) (fun κ => κ = 0 ∧ sp_ins d m z = 0) (fun v σ' => ∃ x : Int32, v = some (.int x) ∧ sp_t σ σ' ∧ ¬ sp_ins d m z = 0 ∧ (sp_at σ 0 0 = 0 → x = 2)) σ).2) ?_ (fun _ _ _ _ h => ev_fin h)⟩
    change ev_wp pg_F pg_lay none [] (ev_lu pg_c127) (fun _ => false) _ 2000 0 [some (.ref 0), some (.int d), some (.int m), some (.int z), none, none] [] σ
    refine ⟨trivial, ?_⟩
    rintro _ _ ⟨rfl, rfl⟩
    change ev_wp pg_F pg_lay none [] (ev_lu pg_c127) (fun _ => false) _ 1997 5 [some (.ref 0), some (.int d), some (.int m), some (.int z), none, none] [.int (sp_time d m)] σ
    refine ⟨fun (h1 : (sp_time d m) = 0) => ?_, fun (h1 : ¬ (sp_time d m) = 0) => ?_⟩
    · skip
      exact ⟨rfl, bud, hb, Nat.le_of_eq hb.symm, Or.inl ⟨_, ⟨rfl, (by unfold sp_ins; rw [if_pos h1])⟩, rfl, rfl, rfl, hb.symm⟩⟩
    · skip
      change ev_wp pg_F pg_lay none [] (ev_lu pg_c127) (fun _ => false) _ 1996 8 [some (.ref 0), some (.int d), some (.int m), some (.int z), none, none] [] σ
      refine ⟨trivial, ?_⟩
      rintro _ _ ⟨rfl, rfl⟩
      change ev_wp pg_F pg_lay none [] (ev_lu pg_c127) (fun _ => false) _ 1993 14 [some (.ref 0), some (.int d), some (.int m), some (.int z), none, none] [.int (sp_upto z 15)] σ
      refine ⟨fun (h2 : (sp_upto z 15) = 0) => ?_, fun (h2 : ¬ (sp_upto z 15) = 0) => ?_⟩
      · skip
        exact ⟨rfl, bud, hb, Nat.le_of_eq hb.symm, Or.inl ⟨_, ⟨rfl, (by unfold sp_ins; rw [if_neg h1, if_pos h2])⟩, rfl, rfl, rfl, hb.symm⟩⟩
      · skip
        change ev_wp pg_F pg_lay none [] (ev_lu pg_c127) (fun _ => false) _ 1992 27 [some (.ref 0), some (.int d), some (.int m), some (.int z), none, none] [] σ
        refine ⟨trivial, ?_⟩
        rintro _ _ ⟨rfl, rfl⟩
        change ev_wp pg_F pg_lay none [] (ev_lu pg_c127) (fun _ => false) _ 1990 31 [some (.ref 0), some (.int d), some (.int m), some (.int z), none, none] [.int (sp_at σ 0 0)] σ
        refine ⟨fun (h3 : (sp_at σ 0 0) = 0) => ?_, fun (h3 : ¬ (sp_at σ 0 0) = 0) => ?_⟩
        · skip
          change ev_wp pg_F pg_lay none [] (ev_lu pg_c127) (fun _ => false) _ 1987 38 [some (.ref 0), some (.int d), some (.int m), some (.int z), some (.int (sp_at σ 0 0)), none] [] σ
          exact ⟨_, rfl, Nat.le_of_eq (congrArg Prod.snd (sp_t.rf σ).2.1), Or.inr ⟨_, ⟨_, rfl, (sp_t.rf σ), (by unfold sp_ins; rw [if_neg h1, if_neg h2]; decide), fun hz => by first | rfl | exact absurd hz h3⟩, rfl⟩⟩
        · skip
          change ev_wp pg_F pg_lay none [] (ev_lu pg_c127) (fun _ => false) _ 1987 40 [some (.ref 0), some (.int d), some (.int m), some (.int z), some (.int (sp_at σ 0 0)), none] [] σ
          refine ⟨fun (h4 : (sp_at σ 0 0) = 2) => ?_, fun (h4 : ¬ (sp_at σ 0 0) = 2) => ?_⟩
          · skip
            change ev_wp pg_F pg_lay none [] (ev_lu pg_c127) (fun _ => false) _ 1984 46 [some (.ref 0), some (.int d), some (.int m), some (.int z), some (.int (sp_at σ 0 0)), none] [] σ
            refine ⟨trivial, ?_⟩
            rintro _ _ ⟨v5, k6, rfl, rfl⟩
            exact ⟨_, rfl, Nat.le_of_eq (congrArg Prod.snd (sp_t.rf σ).2.1), Or.inr ⟨_, ⟨_, rfl, (sp_t.rf σ), (by unfold sp_ins; rw [if_neg h1, if_neg h2]; decide), fun hz => by first | rfl | exact absurd hz h3⟩, rfl⟩⟩
          · skip
            change ev_wp pg_F pg_lay none [] (ev_lu pg_c127) (fun _ => false) _ 1984 53 [some (.ref 0), some (.int d), some (.int m), some (.int z), some (.int (sp_at σ 0 0)), none] [] σ
            refine ⟨trivial, ?_⟩
            rintro _ _ ⟨v7, k8, rfl, rfl⟩
            change ev_wp pg_F pg_lay none [] (ev_lu pg_c127) (fun _ => false) _ 1975 67 [some (.ref 0), some (.int d), some (.int m), some (.int z), some (.int (sp_at σ 0 0)), some (.int ((d * 1440) + m))] [.int v7, .ref 0] σ
            refine ⟨trivial, ?_⟩
            rintro _ _ ⟨v9, k10, rfl, rfl⟩
            change ev_wp pg_F pg_lay none [] (ev_lu pg_c127) (fun _ => false) _ 1972 74 [some (.ref 0), some (.int d), some (.int m), some (.int z), some (.int (sp_at σ 0 0)), some (.int ((d * 1440) + m))] [.int v9] σ
            refine ⟨fun (h11 : v9 = 0) => ?_, fun (h11 : ¬ v9 = 0) => ?_⟩
            · skip
              change ev_wp pg_F pg_lay none [] (ev_lu pg_c127) (fun _ => false) _ 1971 81 [some (.ref 0), some (.int d), some (.int m), some (.int z), some (.int (sp_at σ 0 0)), some (.int ((d * 1440) + m))] [] σ
              exact ⟨_, rfl, Nat.le_of_eq (congrArg Prod.snd (sp_t.rf σ).2.1), Or.inr ⟨_, ⟨_, rfl, (sp_t.rf σ), (by unfold sp_ins; rw [if_neg h1, if_neg h2]; decide), fun hz => by first | rfl | exact absurd hz h3⟩, rfl⟩⟩
            · skip
              change ev_wp pg_F pg_lay none [] (ev_lu pg_c127) (fun _ => false) _ 1971 77 [some (.ref 0), some (.int d), some (.int m), some (.int z), some (.int (sp_at σ 0 0)), some (.int ((d * 1440) + m))] [] σ
              exact ⟨_, rfl, Nat.le_of_eq (congrArg Prod.snd (sp_t.rf σ).2.1), Or.inr ⟨_, ⟨_, rfl, (sp_t.rf σ), (by unfold sp_ins; rw [if_neg h1, if_neg h2]; decide), fun hz => by first | rfl | exact absurd hz h3⟩, rfl⟩⟩
  · cases h
theorem pr_134 : pg_Rn pg_F 134 pg_y134 [] pg_t134 := by
  intro vs σ P h hp
  replace h : pf_134 vs σ = some P := h
  unfold pf_134 at h
  split at h
  · rename_i b w
    cases h
    obtain ⟨bud, hb⟩ := sp_pos hp.2
    refine ⟨by simp [Value.category], Nat.le_of_ble_eq_true rfl, ev_go pg_hhs pg_cd pg_o134 (fun _ => false) 2000 (Q1 := ev_at (ev_tl pg_t134) σ.2.2 (sp_x (sp_inv σ) (fun κ => κ = 2 ∧ sp_wd b w = 0) (fun v σ' => ∃ x : Int32, v = some (.int x) ∧ sp_t σ σ' ∧ ¬ sp_wd b w = 0 ∧ x = sp_at σ b w) σ).2) ?_ (fun _ _ _ _ h => ev_fin h)⟩
    change ev_wp pg_F pg_lay none [] (ev_lu pg_c134) (fun _ => false) _ 2000 0 [some (.ref 0), some (.int b), some (.int w)] [] σ
    refine ⟨trivial, ?_⟩
    rintro _ _ ⟨rfl, rfl⟩
    change ev_wp pg_F pg_lay none [] (ev_lu pg_c134) (fun _ => false) _ 1997 6 [some (.ref 0), some (.int b), some (.int w)] [.int (sp_upto b 63)] σ
    refine ⟨fun (h1 : (sp_upto b 63) = 0) => ?_, fun (h1 : ¬ (sp_upto b 63) = 0) => ?_⟩
    · skip
      exact ⟨rfl, bud, hb, Nat.le_of_eq hb.symm, Or.inl ⟨_, ⟨rfl, (by unfold sp_wd; rw [if_pos h1])⟩, rfl, rfl, rfl, hb.symm⟩⟩
    · skip
      change ev_wp pg_F pg_lay none [] (ev_lu pg_c134) (fun _ => false) _ 1996 9 [some (.ref 0), some (.int b), some (.int w)] [] σ
      refine ⟨trivial, ?_⟩
      rintro _ _ ⟨rfl, rfl⟩
      change ev_wp pg_F pg_lay none [] (ev_lu pg_c134) (fun _ => false) _ 1993 14 [some (.ref 0), some (.int b), some (.int w)] [.int (sp_upto w 3)] σ
      refine ⟨fun (h2 : (sp_upto w 3) = 0) => ?_, fun (h2 : ¬ (sp_upto w 3) = 0) => ?_⟩
      · skip
        exact ⟨rfl, bud, hb, Nat.le_of_eq hb.symm, Or.inl ⟨_, ⟨rfl, (by unfold sp_wd; rw [if_neg h1, if_pos h2])⟩, rfl, rfl, rfl, hb.symm⟩⟩
      · skip
        change ev_wp pg_F pg_lay none [] (ev_lu pg_c134) (fun _ => false) _ 1992 27 [some (.ref 0), some (.int b), some (.int w)] [] σ
        refine ⟨trivial, ?_⟩
        rintro _ _ ⟨rfl, rfl⟩
        exact ⟨_, rfl, Nat.le_of_eq (congrArg Prod.snd (sp_t.rf σ).2.1), Or.inr ⟨_, ⟨_, rfl, (sp_t.rf σ), (by unfold sp_wd; rw [if_neg h1, if_neg h2]; decide), rfl⟩, rfl⟩⟩
  · cases h
theorem pr_140 : pg_Rn pg_F 140 pg_y140 [(4, 0, 12, 4)] pg_t140 := by
  intro vs σ P h hp
  replace h : pf_140 vs σ = some P := h
  unfold pf_140 at h
  split at h
  · rename_i g d m
    cases h
    refine ⟨by simp [Value.category], Nat.le_of_ble_eq_true rfl, ev_go pg_hhs pg_cd pg_o140 (fun _ => false) 2000 (Q1 := ev_at (ev_tl pg_t140) σ.2.2 (sp_m (sp_inv σ ∧ 0 < σ.2.2) (fun v σ' => sp_T σ σ' ∧ ((v = 1 ∧ sp_clk g d m = 0) ∨ (v = 0 ∧ ¬ sp_clk g d m = 0)))).2) ?_ (fun _ _ _ _ h => ev_fin h)⟩
    change ev_wp pg_F pg_lay none [(4, 0, 12, 4)] (ev_lu pg_c140) (fun _ => false) _ 2000 0 [some (.ref 0), some (.int g), some (.int d), some (.int m), none] [] σ
    refine ⟨hp, ?_⟩
    rintro _ s1 (⟨_, ⟨rfl, c2⟩, rfl, e5, e6, e7⟩ | ⟨_, ⟨rfl, n4⟩, rfl⟩)
    · skip
      change ev_wp pg_F pg_lay none [(4, 0, 12, 4)] (ev_lu pg_c140) (fun _ => false) _ 1995 12 [some (.ref 0), some (.int g), some (.int d), some (.int m), none] [] s1
      have q1 := sp_T_x hp.1 e5 e7
      exact ⟨_, rfl, q1.2.2.1, _, ⟨q1, Or.inl ⟨rfl, c2⟩⟩, rfl⟩
    · skip
      change ev_wp pg_F pg_lay none [(4, 0, 12, 4)] (ev_lu pg_c140) (fun _ => false) _ 1995 7 [some (.ref 0), some (.int g), some (.int d), some (.int m), none] [] s1
      have q1 := sp_T_n hp.1 n4.1
      exact ⟨_, rfl, q1.2.2.1, _, ⟨q1, Or.inr (⟨rfl, n4.2⟩)⟩, rfl⟩
  · cases h
theorem pr_136 : pg_Rn pg_F 136 pg_y136 [(3, 0, 10, 3)] pg_t136 := by
  intro vs σ P h hp
  replace h : pf_136 vs σ = some P := h
  unfold pf_136 at h
  split at h
  · rename_i g x
    cases h
    refine ⟨by simp [Value.category], Nat.le_of_ble_eq_true rfl, ev_go pg_hhs pg_cd pg_o136 (fun _ => false) 2000 (Q1 := ev_at (ev_tl pg_t136) σ.2.2 (sp_m (sp_inv σ ∧ 0 < σ.2.2) (fun v σ' => sp_T σ σ' ∧ ((v = 1 ∧ sp_upto g 11 = 0) ∨ (v = 0 ∧ ¬ sp_upto g 11 = 0)))).2) ?_ (fun _ _ _ _ h => ev_fin h)⟩
    change ev_wp pg_F pg_lay none [(3, 0, 10, 3)] (ev_lu pg_c136) (fun _ => false) _ 2000 0 [some (.ref 0), some (.int g), some (.int x), none] [] σ
    refine ⟨hp, ?_⟩
    rintro _ s1 (⟨_, ⟨rfl, c2⟩, rfl, e5, e6, e7⟩ | ⟨_, ⟨rfl, n4⟩, rfl⟩)
    · skip
      change ev_wp pg_F pg_lay none [(3, 0, 10, 3)] (ev_lu pg_c136) (fun _ => false) _ 1996 10 [some (.ref 0), some (.int g), some (.int x), none] [] s1
      have q1 := sp_T_x hp.1 e5 e7
      exact ⟨_, rfl, q1.2.2.1, _, ⟨q1, Or.inl ⟨rfl, c2⟩⟩, rfl⟩
    · skip
      change ev_wp pg_F pg_lay none [(3, 0, 10, 3)] (ev_lu pg_c136) (fun _ => false) _ 1996 6 [some (.ref 0), some (.int g), some (.int x), none] [] s1
      have q1 := sp_T_n hp.1 n4.1
      exact ⟨_, rfl, q1.2.2.1, _, ⟨q1, Or.inr (⟨rfl, n4.2⟩)⟩, rfl⟩
  · cases h
theorem pr_141 : pg_Rn pg_F 141 pg_y141 [(3, 0, 10, 3)] pg_t141 := by
  intro vs σ P h hp
  replace h : pf_141 vs σ = some P := h
  unfold pf_141 at h
  split at h
  · rename_i n j
    cases h
    refine ⟨by simp [Value.category], Nat.le_of_ble_eq_true rfl, ev_go pg_hhs pg_cd pg_o141 (fun _ => false) 2000 (Q1 := ev_at (ev_tl pg_t141) σ.2.2 (sp_m (sp_inv σ ∧ 0 < σ.2.2) (fun v σ' => sp_T σ σ' ∧ ((v = 1 ∧ sp_tr n j = 0) ∨ (v = 0 ∧ ¬ sp_tr n j = 0)))).2) ?_ (fun _ _ _ _ h => ev_fin h)⟩
    change ev_wp pg_F pg_lay none [(3, 0, 10, 3)] (ev_lu pg_c141) (fun _ => false) _ 2000 0 [some (.ref 0), some (.int n), some (.int j), none] [] σ
    refine ⟨hp, ?_⟩
    rintro _ s1 (⟨_, ⟨rfl, c2⟩, rfl, e5, e6, e7⟩ | ⟨_, ⟨rfl, n4⟩, rfl⟩)
    · skip
      change ev_wp pg_F pg_lay none [(3, 0, 10, 3)] (ev_lu pg_c141) (fun _ => false) _ 1996 10 [some (.ref 0), some (.int n), some (.int j), none] [] s1
      have q1 := sp_T_x hp.1 e5 e7
      exact ⟨_, rfl, q1.2.2.1, _, ⟨q1, Or.inl ⟨rfl, c2⟩⟩, rfl⟩
    · skip
      change ev_wp pg_F pg_lay none [(3, 0, 10, 3)] (ev_lu pg_c141) (fun _ => false) _ 1996 6 [some (.ref 0), some (.int n), some (.int j), none] [] s1
      have q1 := sp_T_n hp.1 n4.1
      exact ⟨_, rfl, q1.2.2.1, _, ⟨q1, Or.inr (⟨rfl, n4.2⟩)⟩, rfl⟩
  · cases h
theorem pr_139 : pg_Rn pg_F 139 pg_y139 [(4, 0, 13, 3), (4, 1, 16, 3)] pg_t139 := by
  intro vs σ P h hp
  replace h : pf_139 vs σ = some P := h
  unfold pf_139 at h
  split at h
  · rename_i g
    cases h
    refine ⟨by simp [Value.category], Nat.le_of_ble_eq_true rfl, ev_go pg_hhs pg_cd pg_o139 (fun _ => false) 2000 (Q1 := ev_at (ev_tl pg_t139) σ.2.2 (sp_m (sp_inv σ ∧ 0 < σ.2.2) (fun v σ' => sp_T σ σ' ∧ ((v = 1 ∧ sp_upto g 11 = 0) ∨ (v = 2 ∧ ¬ sp_upto g 11 = 0 ∧ ¬ σ.1 1 4 = 0) ∨ (v = 0 ∧ ¬ sp_upto g 11 = 0 ∧ σ.1 1 4 = 0 ∧ (sp_zero σ → σ'.2.1 12 0 = Int32.toInt64 0))))).2) ?_ (fun _ _ _ _ h => ev_fin h)⟩
    change ev_wp pg_F pg_lay none [(4, 0, 13, 3), (4, 1, 16, 3)] (ev_lu pg_c139) (fun _ => false) _ 2000 0 [some (.ref 0), some (.int g), some (.ref 12), none] [] σ
    refine ⟨hp, ?_⟩
    rintro _ s1 (⟨_, (⟨rfl, c2⟩ | ⟨rfl, c3⟩), rfl, e5, e6, e7⟩ | ⟨_, ⟨vn4, rfl, n4⟩, rfl⟩)
    · skip
      change ev_wp pg_F pg_lay none [(4, 0, 13, 3), (4, 1, 16, 3)] (ev_lu pg_c139) (fun _ => false) _ 1995 13 [some (.ref 0), some (.int g), some (.ref 12), none] [] s1
      have q1 := sp_T_x hp.1 e5 e7
      exact ⟨_, rfl, q1.2.2.1, _, ⟨q1, Or.inl ⟨rfl, c2⟩⟩, rfl⟩
    · skip
      change ev_wp pg_F pg_lay none [(4, 0, 13, 3), (4, 1, 16, 3)] (ev_lu pg_c139) (fun _ => false) _ 1995 16 [some (.ref 0), some (.int g), some (.ref 12), none] [] s1
      have q1 := sp_T_x hp.1 e5 e7
      exact ⟨_, rfl, q1.2.2.1, _, ⟨q1, Or.inr (Or.inl ⟨rfl, c3⟩)⟩, rfl⟩
    · skip
      change ev_wp pg_F pg_lay none [(4, 0, 13, 3), (4, 1, 16, 3)] (ev_lu pg_c139) (fun _ => false) _ 1995 7 [some (.ref 0), some (.int g), some (.ref 12), none] [.int vn4, .int 0, .ref 12] s1
      refine ⟨sp_in rfl rfl, ?_⟩
      change ev_wp pg_F pg_lay none [(4, 0, 13, 3), (4, 1, 16, 3)] (ev_lu pg_c139) (fun _ => false) _ 1993 9 [some (.ref 0), some (.int g), some (.ref 12), none] [] (ev_uL s1 12 (Int32.toNatClampNeg 0) (Int32.toInt64 vn4))
      have q1 := sp_T_n hp.1 n4.1
      exact ⟨_, rfl, q1.2.2.1, _, ⟨q1, Or.inr (Or.inr (⟨rfl, n4.2.1, n4.2.2.1, fun hz => congrArg Int32.toInt64 (n4.2.2.2 hz)⟩))⟩, rfl⟩
  · cases h
theorem pr_143 : pg_Rn pg_F 143 pg_y143 [(7, 0, 17, 5), (7, 1, 21, 5)] pg_t143 := by
  intro vs σ P h hp
  replace h : pf_143 vs σ = some P := h
  unfold pf_143 at h
  split at h
  · rename_i l z d
    cases h
    refine ⟨by simp [Value.category], Nat.le_of_ble_eq_true rfl, ev_go pg_hhs pg_cd pg_o143 (fun _ => false) 2000 (Q1 := ev_at (ev_tl pg_t143) σ.2.2 (sp_m (sp_inv σ ∧ 0 < σ.2.2) (fun v σ' => sp_T σ σ' ∧ ((v = 1 ∧ sp_val l z d = 0) ∨ (v = 2 ∧ ¬ sp_val l z d = 0 ∧ σ.1 1 4 = 0) ∨ (v = 0 ∧ ¬ sp_val l z d = 0 ∧ ¬ σ.1 1 4 = 0)))).2) ?_ (fun _ _ _ _ h => ev_fin h)⟩
    change ev_wp pg_F pg_lay none [(7, 0, 17, 5), (7, 1, 21, 5)] (ev_lu pg_c143) (fun _ => false) _ 2000 0 [some (.ref 0), some (.int l), some (.int z), some (.int d), some (.ref 12), none] [] σ
    refine ⟨hp, ?_⟩
    rintro _ s1 (⟨_, (⟨rfl, c2⟩ | ⟨rfl, c3⟩), rfl, e5, e6, e7⟩ | ⟨_, ⟨vn4, rfl, n4⟩, rfl⟩)
    · skip
      change ev_wp pg_F pg_lay none [(7, 0, 17, 5), (7, 1, 21, 5)] (ev_lu pg_c143) (fun _ => false) _ 1993 17 [some (.ref 0), some (.int l), some (.int z), some (.int d), some (.ref 12), none] [] s1
      have q1 := sp_T_x hp.1 e5 e7
      exact ⟨_, rfl, q1.2.2.1, _, ⟨q1, Or.inl ⟨rfl, c2⟩⟩, rfl⟩
    · skip
      change ev_wp pg_F pg_lay none [(7, 0, 17, 5), (7, 1, 21, 5)] (ev_lu pg_c143) (fun _ => false) _ 1993 21 [some (.ref 0), some (.int l), some (.int z), some (.int d), some (.ref 12), none] [] s1
      have q1 := sp_T_x hp.1 e5 e7
      exact ⟨_, rfl, q1.2.2.1, _, ⟨q1, Or.inr (Or.inl ⟨rfl, c3⟩)⟩, rfl⟩
    · skip
      change ev_wp pg_F pg_lay none [(7, 0, 17, 5), (7, 1, 21, 5)] (ev_lu pg_c143) (fun _ => false) _ 1993 10 [some (.ref 0), some (.int l), some (.int z), some (.int d), some (.ref 12), none] [.int vn4, .int 0, .ref 12] s1
      refine ⟨sp_in rfl rfl, ?_⟩
      change ev_wp pg_F pg_lay none [(7, 0, 17, 5), (7, 1, 21, 5)] (ev_lu pg_c143) (fun _ => false) _ 1991 12 [some (.ref 0), some (.int l), some (.int z), some (.int d), some (.ref 12), none] [] (ev_uL s1 12 (Int32.toNatClampNeg 0) (Int32.toInt64 vn4))
      have q1 := sp_T_n hp.1 n4.1
      exact ⟨_, rfl, q1.2.2.1, _, ⟨q1, Or.inr (Or.inr (⟨rfl, n4.2⟩))⟩, rfl⟩
  · cases h
theorem pr_142 : pg_Rn pg_F 142 pg_y142 [(4, 0, 13, 3), (4, 1, 16, 3)] pg_t142 := by
  intro vs σ P h hp
  replace h : pf_142 vs σ = some P := h
  unfold pf_142 at h
  split at h
  · rename_i c
    cases h
    refine ⟨by simp [Value.category], Nat.le_of_ble_eq_true rfl, ev_go pg_hhs pg_cd pg_o142 (fun _ => false) 2000 (Q1 := ev_at (ev_tl pg_t142) σ.2.2 (sp_m (sp_inv σ ∧ 0 < σ.2.2) (fun v σ' => sp_T σ σ' ∧ ((v = 1 ∧ sp_top c = 0) ∨ (v = 2 ∧ ¬ sp_top c = 0 ∧ σ.1 1 4 = 0) ∨ (v = 0 ∧ ¬ sp_top c = 0 ∧ ¬ σ.1 1 4 = 0)))).2) ?_ (fun _ _ _ _ h => ev_fin h)⟩
    change ev_wp pg_F pg_lay none [(4, 0, 13, 3), (4, 1, 16, 3)] (ev_lu pg_c142) (fun _ => false) _ 2000 0 [some (.ref 0), some (.int c), some (.ref 12), none] [] σ
    refine ⟨hp, ?_⟩
    rintro _ s1 (⟨_, (⟨rfl, c2⟩ | ⟨rfl, c3⟩), rfl, e5, e6, e7⟩ | ⟨_, ⟨vn4, rfl, n4⟩, rfl⟩)
    · skip
      change ev_wp pg_F pg_lay none [(4, 0, 13, 3), (4, 1, 16, 3)] (ev_lu pg_c142) (fun _ => false) _ 1995 13 [some (.ref 0), some (.int c), some (.ref 12), none] [] s1
      have q1 := sp_T_x hp.1 e5 e7
      exact ⟨_, rfl, q1.2.2.1, _, ⟨q1, Or.inl ⟨rfl, c2⟩⟩, rfl⟩
    · skip
      change ev_wp pg_F pg_lay none [(4, 0, 13, 3), (4, 1, 16, 3)] (ev_lu pg_c142) (fun _ => false) _ 1995 16 [some (.ref 0), some (.int c), some (.ref 12), none] [] s1
      have q1 := sp_T_x hp.1 e5 e7
      exact ⟨_, rfl, q1.2.2.1, _, ⟨q1, Or.inr (Or.inl ⟨rfl, c3⟩)⟩, rfl⟩
    · skip
      change ev_wp pg_F pg_lay none [(4, 0, 13, 3), (4, 1, 16, 3)] (ev_lu pg_c142) (fun _ => false) _ 1995 7 [some (.ref 0), some (.int c), some (.ref 12), none] [.int vn4, .int 0, .ref 12] s1
      refine ⟨sp_in rfl rfl, ?_⟩
      change ev_wp pg_F pg_lay none [(4, 0, 13, 3), (4, 1, 16, 3)] (ev_lu pg_c142) (fun _ => false) _ 1993 9 [some (.ref 0), some (.int c), some (.ref 12), none] [] (ev_uL s1 12 (Int32.toNatClampNeg 0) (Int32.toInt64 vn4))
      have q1 := sp_T_n hp.1 n4.1
      exact ⟨_, rfl, q1.2.2.1, _, ⟨q1, Or.inr (Or.inr (⟨rfl, n4.2⟩))⟩, rfl⟩
  · cases h
theorem pr_137 : pg_Rn pg_F 137 pg_y137 [(7, 0, 17, 5)] pg_t137 := by
  intro vs σ P h hp
  replace h : pf_137 vs σ = some P := h
  unfold pf_137 at h
  split at h
  · rename_i d m z
    cases h
    refine ⟨by simp [Value.category], Nat.le_of_ble_eq_true rfl, ev_go pg_hhs pg_cd pg_o137 (fun _ => false) 2000 (Q1 := ev_at (ev_tl pg_t137) σ.2.2 (sp_m (sp_inv σ ∧ 0 < σ.2.2) (fun v σ' => sp_T σ σ' ∧ ((v = 1 ∧ sp_ins d m z = 0) ∨ (v = 0 ∧ ¬ sp_ins d m z = 0 ∧ (sp_at σ 0 0 = 0 → σ'.2.1 12 0 = Int32.toInt64 2))))).2) ?_ (fun _ _ _ _ h => ev_fin h)⟩
    change ev_wp pg_F pg_lay none [(7, 0, 17, 5)] (ev_lu pg_c137) (fun _ => false) _ 2000 0 [some (.ref 0), some (.int d), some (.int m), some (.int z), some (.ref 12), none] [] σ
    refine ⟨hp, ?_⟩
    rintro _ s1 (⟨_, ⟨rfl, c2⟩, rfl, e5, e6, e7⟩ | ⟨_, ⟨vn4, rfl, n4⟩, rfl⟩)
    · skip
      change ev_wp pg_F pg_lay none [(7, 0, 17, 5)] (ev_lu pg_c137) (fun _ => false) _ 1993 17 [some (.ref 0), some (.int d), some (.int m), some (.int z), some (.ref 12), none] [] s1
      have q1 := sp_T_x hp.1 e5 e7
      exact ⟨_, rfl, q1.2.2.1, _, ⟨q1, Or.inl ⟨rfl, c2⟩⟩, rfl⟩
    · skip
      change ev_wp pg_F pg_lay none [(7, 0, 17, 5)] (ev_lu pg_c137) (fun _ => false) _ 1993 10 [some (.ref 0), some (.int d), some (.int m), some (.int z), some (.ref 12), none] [.int vn4, .int 0, .ref 12] s1
      refine ⟨sp_in rfl rfl, ?_⟩
      change ev_wp pg_F pg_lay none [(7, 0, 17, 5)] (ev_lu pg_c137) (fun _ => false) _ 1991 12 [some (.ref 0), some (.int d), some (.int m), some (.int z), some (.ref 12), none] [] (ev_uL s1 12 (Int32.toNatClampNeg 0) (Int32.toInt64 vn4))
      have q1 := sp_T_n hp.1 n4.1
      exact ⟨_, rfl, q1.2.2.1, _, ⟨q1, Or.inr (⟨rfl, n4.2.1, fun hz => congrArg Int32.toInt64 (n4.2.2 hz)⟩)⟩, rfl⟩
  · cases h
theorem pr_144 : pg_Rn pg_F 144 pg_y144 [(5, 2, 15, 4)] pg_t144 := by
  intro vs σ P h hp
  replace h : pf_144 vs σ = some P := h
  unfold pf_144 at h
  split at h
  · rename_i b w
    cases h
    refine ⟨by simp [Value.category], Nat.le_of_ble_eq_true rfl, ev_go pg_hhs pg_cd pg_o144 (fun _ => false) 2000 (Q1 := ev_at (ev_tl pg_t144) σ.2.2 (sp_m (sp_inv σ ∧ 0 < σ.2.2) (fun v σ' => sp_T σ σ' ∧ ((v = 1 ∧ sp_wd b w = 0) ∨ (v = 0 ∧ ¬ sp_wd b w = 0 ∧ σ'.2.1 12 0 = Int32.toInt64 (sp_at σ b w))))).2) ?_ (fun _ _ _ _ h => ev_fin h)⟩
    change ev_wp pg_F pg_lay none [(5, 2, 15, 4)] (ev_lu pg_c144) (fun _ => false) _ 2000 0 [some (.ref 0), some (.int b), some (.int w), some (.ref 12), none] [] σ
    refine ⟨hp, ?_⟩
    rintro _ s1 (⟨_, ⟨rfl, c2⟩, rfl, e5, e6, e7⟩ | ⟨_, ⟨vn4, rfl, n4⟩, rfl⟩)
    · skip
      change ev_wp pg_F pg_lay none [(5, 2, 15, 4)] (ev_lu pg_c144) (fun _ => false) _ 1994 15 [some (.ref 0), some (.int b), some (.int w), some (.ref 12), none] [] s1
      have q1 := sp_T_x hp.1 e5 e7
      exact ⟨_, rfl, q1.2.2.1, _, ⟨q1, Or.inl ⟨rfl, c2⟩⟩, rfl⟩
    · skip
      change ev_wp pg_F pg_lay none [(5, 2, 15, 4)] (ev_lu pg_c144) (fun _ => false) _ 1994 8 [some (.ref 0), some (.int b), some (.int w), some (.ref 12), none] [.int vn4, .int 0, .ref 12] s1
      refine ⟨sp_in rfl rfl, ?_⟩
      change ev_wp pg_F pg_lay none [(5, 2, 15, 4)] (ev_lu pg_c144) (fun _ => false) _ 1992 10 [some (.ref 0), some (.int b), some (.int w), some (.ref 12), none] [] (ev_uL s1 12 (Int32.toNatClampNeg 0) (Int32.toInt64 vn4))
      have q1 := sp_T_n hp.1 n4.1
      exact ⟨_, rfl, q1.2.2.1, _, ⟨q1, Or.inr (⟨rfl, n4.2.1, congrArg Int32.toInt64 n4.2.2⟩)⟩, rfl⟩
  · cases h
theorem pr_138 : pg_Rn pg_F 138 pg_y138 [(9, 0, 26, 6), (9, 1, 30, 6)] pg_t138 := by
  intro vs σ P h hp
  replace h : pf_138 vs σ = some P := h
  unfold pf_138 at h
  split at h
  · rename_i k a b c
    cases h
    refine ⟨by simp [Value.category], Nat.le_of_ble_eq_true rfl, ev_go pg_hhs pg_cd pg_o138 (fun _ => false) 2000 (Q1 := ev_at (ev_tl pg_t138) σ.2.2 (sp_m (sp_inv σ ∧ 0 < σ.2.2) (fun v σ' => sp_T σ σ' ∧ ((v = 1 ∧ sp_prod k a b c = 0) ∨ (v = 2 ∧ ¬ sp_prod k a b c = 0 ∧ ¬ σ.1 1 4 = 0) ∨ (v = 0 ∧ ¬ sp_prod k a b c = 0 ∧ σ.1 1 4 = 0 ∧ (sp_at σ 0 0 = 0 → σ'.2.1 12 0 = Int64.ofNat 1))))).2) ?_ (fun _ _ _ _ h => ev_fin h)⟩
    change ev_wp pg_F pg_lay none [(9, 0, 26, 6), (9, 1, 30, 6)] (ev_lu pg_c138) (fun _ => false) _ 2000 0 [some (.ref 0), some (.int k), some (.int a), some (.int b), some (.int c), some (.ref 12), none] [] σ
    refine ⟨hp, ?_⟩
    rintro _ s1 (⟨_, (⟨rfl, c2⟩ | ⟨rfl, c3⟩), rfl, e5, e6, e7⟩ | ⟨_, ⟨vn4, rfl, n4⟩, rfl⟩)
    · skip
      change ev_wp pg_F pg_lay none [(9, 0, 26, 6), (9, 1, 30, 6)] (ev_lu pg_c138) (fun _ => false) _ 1992 26 [some (.ref 0), some (.int k), some (.int a), some (.int b), some (.int c), some (.ref 12), none] [] s1
      have q1 := sp_T_x hp.1 e5 e7
      exact ⟨_, rfl, q1.2.2.1, _, ⟨q1, Or.inl ⟨rfl, c2⟩⟩, rfl⟩
    · skip
      change ev_wp pg_F pg_lay none [(9, 0, 26, 6), (9, 1, 30, 6)] (ev_lu pg_c138) (fun _ => false) _ 1992 30 [some (.ref 0), some (.int k), some (.int a), some (.int b), some (.int c), some (.ref 12), none] [] s1
      have q1 := sp_T_x hp.1 e5 e7
      exact ⟨_, rfl, q1.2.2.1, _, ⟨q1, Or.inr (Or.inl ⟨rfl, c3⟩)⟩, rfl⟩
    · skip
      change ev_wp pg_F pg_lay none [(9, 0, 26, 6), (9, 1, 30, 6)] (ev_lu pg_c138) (fun _ => false) _ 1992 12 [some (.ref 0), some (.int k), some (.int a), some (.int b), some (.int c), some (.ref 12), none] [.int vn4, .int 0, .ref 12] s1
      refine ⟨fun (h8 : vn4 = 0) => ?_, fun (h8 : ¬ vn4 = 0) => ?_⟩
      · skip
        change ev_wp pg_F pg_lay none [(9, 0, 26, 6), (9, 1, 30, 6)] (ev_lu pg_c138) (fun _ => false) _ 1991 19 [some (.ref 0), some (.int k), some (.int a), some (.int b), some (.int c), some (.ref 12), none] [.int 0, .ref 12] s1
        refine ⟨sp_in rfl rfl, ?_⟩
        change ev_wp pg_F pg_lay none [(9, 0, 26, 6), (9, 1, 30, 6)] (ev_lu pg_c138) (fun _ => false) _ 1989 21 [some (.ref 0), some (.int k), some (.int a), some (.int b), some (.int c), some (.ref 12), none] [] (ev_uL s1 12 (Int32.toNatClampNeg 0) (Int64.ofNat 0))
        have q1 := sp_T_n hp.1 n4.1
        exact ⟨_, rfl, q1.2.2.1, _, ⟨q1, Or.inr (Or.inr (⟨rfl, n4.2.1, n4.2.2.1, fun hz => by first | rfl | exact absurd ((n4.2.2.2.2 hz).symm.trans h8) (by decide)⟩))⟩, rfl⟩
      · skip
        change ev_wp pg_F pg_lay none [(9, 0, 26, 6), (9, 1, 30, 6)] (ev_lu pg_c138) (fun _ => false) _ 1991 15 [some (.ref 0), some (.int k), some (.int a), some (.int b), some (.int c), some (.ref 12), none] [.int 0, .ref 12] s1
        refine ⟨sp_in rfl rfl, ?_⟩
        change ev_wp pg_F pg_lay none [(9, 0, 26, 6), (9, 1, 30, 6)] (ev_lu pg_c138) (fun _ => false) _ 1988 21 [some (.ref 0), some (.int k), some (.int a), some (.int b), some (.int c), some (.ref 12), none] [] (ev_uL s1 12 (Int32.toNatClampNeg 0) (Int64.ofNat 1))
        have q1 := sp_T_n hp.1 n4.1
        exact ⟨_, rfl, q1.2.2.1, _, ⟨q1, Or.inr (Or.inr (⟨rfl, n4.2.1, n4.2.2.1, fun hz => by first | rfl | exact absurd ((n4.2.2.2.2 hz).symm.trans h8) (by decide)⟩))⟩, rfl⟩
  · cases h
