/-! THE RUNS OF THE BODIES (laid by wip/gen/spec.py) -/
theorem pr_125 : pg_Rn pg_F 125 pg_y125 [] pg_t125 := by
  intro vs σ P h hp
  replace h : pf_125 vs σ = some P := h
  unfold pf_125 at h
  split at h
  · rename_i l z d v
    cases h
    refine ⟨by simp [Value.category], Nat.le_of_ble_eq_true rfl, ev_go pg_hhs pg_cd pg_o125 (fun _ => false) 2000 (Q1 := ev_at (ev_tl pg_t125) σ.2.2 (sp_m (md_ok σ ∧ vp_in (σ.1 6 5) 12 ∧ (v = -1 ∨ v = 5 ∨ v = 7)) (fun _ σ' => md_m σ σ')).2) ?_ (fun _ _ _ _ h => ev_fin h)⟩
    change ev_wp pg_F pg_lay none [] (ev_lu pg_c125) (fun _ => false) _ 2000 0 [some (.ref 6), some (.int l), some (.int z), some (.int d), some (.int v), none, none, none, none, none] [] σ
    refine ⟨fun (h1 : 0 ≤ v) => ?_, fun (h1 : ¬ 0 ≤ v) => ?_⟩
    · skip
      change ev_wp pg_F pg_lay none [] (ev_lu pg_c125) (fun _ => false) _ 1998 11 [some (.ref 6), some (.int l), some (.int z), some (.int d), some (.int v), none, none, none, none, none] [] σ
      refine ⟨hp.2.1, ?_⟩
      change ev_wp pg_F pg_lay none [] (ev_lu pg_c125) (fun _ => false) _ 1993 20 [some (.ref 6), some (.int l), some (.int z), some (.int d), some (.int v), none, none, none, none, none] [.int (σ.1 8 (Int32.toNatClampNeg (σ.1 6 5)))] σ
      refine ⟨md_vp (md_j5 (md_l5 hp.2.2 (md_nlt h1))) 2 (by decide) rfl, ?_⟩
      rintro _ _ ⟨rfl, rfl⟩
      change ev_wp pg_F pg_lay none [] (ev_lu pg_c125) (fun _ => false) _ 1988 29 [some (.ref 6), some (.int l), some (.int z), some (.int d), some (.int v), some (.int (σ.1 8 (Int32.toNatClampNeg (σ.1 6 5)))), none, none, none, none] [.int (σ.1 7 (Int32.toNatClampNeg (4 * v + 2)))] σ
      refine ⟨fun (h2 : (σ.1 7 (Int32.toNatClampNeg (4 * v + 2))) = (σ.1 8 (Int32.toNatClampNeg (σ.1 6 5)))) => ?_, fun (h2 : ¬ (σ.1 7 (Int32.toNatClampNeg (4 * v + 2))) = (σ.1 8 (Int32.toNatClampNeg (σ.1 6 5)))) => ?_⟩
      · skip
        change ev_wp pg_F pg_lay none [] (ev_lu pg_c125) (fun _ => false) _ 1986 34 [some (.ref 6), some (.int l), some (.int z), some (.int d), some (.int v), some (.int (σ.1 8 (Int32.toNatClampNeg (σ.1 6 5)))), none, none, none, none] [] σ
        refine ⟨md_vp (md_j5 (md_l5 hp.2.2 (md_nlt h1))) 3 (by decide) rfl, ?_⟩
        rintro _ _ ⟨rfl, rfl⟩
        change ev_wp pg_F pg_lay none [] (ev_lu pg_c125) (fun _ => false) _ 1982 41 [some (.ref 6), some (.int l), some (.int z), some (.int d), some (.int v), some (.int (σ.1 8 (Int32.toNatClampNeg (σ.1 6 5)))), none, none, none, none] [.int (σ.1 7 (Int32.toNatClampNeg (4 * v + 3)))] σ
        refine ⟨sp_in rfl rfl, ?_⟩
        rintro _ _ ⟨rfl, rfl⟩
        change ev_wp pg_F pg_lay none [] (ev_lu pg_c125) (fun _ => false) _ 1964 70 [some (.ref 6), some (.int l), some (.int z), some (.int d), some (.int v), some (.int (σ.1 8 (Int32.toNatClampNeg (σ.1 6 5)))), some (.int (σ.1 7 (Int32.toNatClampNeg (4 * v + 3)))), some (.int ((150 + (20 * z)) + (35 * (l - l / 4 * 4)))), none, none] [.int (σ.1 7 1)] σ
        refine ⟨fun (h3 : (σ.1 7 1) ≤ 0) => ?_, fun (h3 : ¬ (σ.1 7 1) ≤ 0) => ?_⟩
        · skip
          change ev_wp pg_F pg_lay none [] (ev_lu pg_c125) (fun _ => false) _ 1961 91 [some (.ref 6), some (.int l), some (.int z), some (.int d), some (.int v), some (.int (σ.1 8 (Int32.toNatClampNeg (σ.1 6 5)))), some (.int (σ.1 7 (Int32.toNatClampNeg (4 * v + 3)))), some (.int ((150 + (20 * z)) + (35 * (l - l / 4 * 4)))), some (.int (σ.1 7 1)), none] [] σ
          refine ⟨md_vp (md_j5 (md_l5 hp.2.2 (md_nlt h1))) 1 (by decide) rfl, ?_⟩
          rintro _ _ ⟨rfl, rfl⟩
          change ev_wp pg_F pg_lay none [] (ev_lu pg_c125) (fun _ => false) _ 1957 98 [some (.ref 6), some (.int l), some (.int z), some (.int d), some (.int v), some (.int (σ.1 8 (Int32.toNatClampNeg (σ.1 6 5)))), some (.int (σ.1 7 (Int32.toNatClampNeg (4 * v + 3)))), some (.int ((150 + (20 * z)) + (35 * (l - l / 4 * 4)))), some (.int (σ.1 7 1)), none] [.int (σ.1 7 (Int32.toNatClampNeg (4 * v + 1)))] σ
          refine ⟨fun (h4 : ((150 + (20 * z)) + (35 * (l - l / 4 * 4))) ≤ (σ.1 7 (Int32.toNatClampNeg (4 * v + 1)))) => ?_, fun (h4 : ¬ ((150 + (20 * z)) + (35 * (l - l / 4 * 4))) ≤ (σ.1 7 (Int32.toNatClampNeg (4 * v + 1)))) => ?_⟩
          · skip
            change ev_wp pg_F pg_lay none [] (ev_lu pg_c125) (fun _ => false) _ 1955 109 [some (.ref 6), some (.int l), some (.int z), some (.int d), some (.int v), some (.int (σ.1 8 (Int32.toNatClampNeg (σ.1 6 5)))), some (.int (σ.1 7 (Int32.toNatClampNeg (4 * v + 3)))), some (.int ((150 + (20 * z)) + (35 * (l - l / 4 * 4)))), some (.int (σ.1 7 1)), none] [] σ
            refine ⟨md_vp (md_j5 (md_l5 hp.2.2 (md_nlt h1))) 1 (by decide) rfl, ?_⟩
            rintro _ _ ⟨rfl, rfl⟩
            change ev_wp pg_F pg_lay none [] (ev_lu pg_c125) (fun _ => false) _ 1951 116 [some (.ref 6), some (.int l), some (.int z), some (.int d), some (.int v), some (.int (σ.1 8 (Int32.toNatClampNeg (σ.1 6 5)))), some (.int (σ.1 7 (Int32.toNatClampNeg (4 * v + 3)))), some (.int ((150 + (20 * z)) + (35 * (l - l / 4 * 4)))), some (.int (σ.1 7 1)), none] [.int (σ.1 7 (Int32.toNatClampNeg (4 * v + 1)))] σ
            refine ⟨hp.2.1, ?_⟩
            rintro _ _ ⟨v5, k6, rfl, rfl⟩
            change ev_wp pg_F pg_lay none [] (ev_lu pg_c125) (fun _ => false) _ 1941 130 [some (.ref 6), some (.int l), some (.int z), some (.int d), some (.int v), some (.int (σ.1 8 (Int32.toNatClampNeg (σ.1 6 5)))), some (.int (σ.1 7 (Int32.toNatClampNeg (4 * v + 3)))), some (.int ((150 + (20 * z)) + (35 * (l - l / 4 * 4)))), some (.int (σ.1 7 1)), some (.int ((σ.1 7 (Int32.toNatClampNeg (4 * v + 1))) - ((150 + (20 * z)) + (35 * (l - l / 4 * 4)))))] [.int v5, .int 0, .int d, .int z, .int l, .ref 6] σ
            refine ⟨md_vp (md_j5 (md_l5 hp.2.2 (md_nlt h1))) 0 (by decide) rfl, ?_⟩
            rintro _ _ ⟨rfl, rfl⟩
            change ev_wp pg_F pg_lay none [] (ev_lu pg_c125) (fun _ => false) _ 1936 138 [some (.ref 6), some (.int l), some (.int z), some (.int d), some (.int v), some (.int (σ.1 8 (Int32.toNatClampNeg (σ.1 6 5)))), some (.int (σ.1 7 (Int32.toNatClampNeg (4 * v + 3)))), some (.int ((150 + (20 * z)) + (35 * (l - l / 4 * 4)))), some (.int (σ.1 7 1)), some (.int ((σ.1 7 (Int32.toNatClampNeg (4 * v + 1))) - ((150 + (20 * z)) + (35 * (l - l / 4 * 4)))))] [.int (σ.1 7 (Int32.toNatClampNeg (4 * v + 0))), .int 0, .int v5, .int 0, .int d, .int z, .int l, .ref 6] σ
            refine ⟨⟨hp.1, hp.2.1⟩, ?_⟩
            rintro _ s8 ⟨k7, rfl⟩
            have r9 := (md_m.rf σ).tr k7.1
            have i10 := k7.1.2.2 hp.1
            change ev_wp pg_F pg_lay none [] (ev_lu pg_c125) (fun _ => false) _ 1930 149 [some (.ref 6), some (.int l), some (.int z), some (.int d), some (.int v), some (.int (σ.1 8 (Int32.toNatClampNeg (σ.1 6 5)))), some (.int (σ.1 7 (Int32.toNatClampNeg (4 * v + 3)))), some (.int ((150 + (20 * z)) + (35 * (l - l / 4 * 4)))), some (.int (σ.1 7 1)), some (.int ((σ.1 7 (Int32.toNatClampNeg (4 * v + 1))) - ((150 + (20 * z)) + (35 * (l - l / 4 * 4)))))] [] s8
            refine ⟨trivial, ?_⟩
            rintro _ s12 ⟨k11, rfl⟩
            have r13 := r9.tr k11.m
            have i14 := k11.m.2.2 i10
            have rtk11 : s12.1 6 10 = 0 → md_right s12 41 ∨ md_right s12 43 := fun h => ((fun h => (k7.2.2.1 h).2) (by rw [← k11.1 6 (by decide)]; exact h)).imp (md_right_of (fun i _ _ => by rw [k11.1 7 (by decide)])) (md_right_of (fun i _ _ => by rw [k11.1 7 (by decide)]))
            change ev_wp pg_F pg_lay none [] (ev_lu pg_c125) (fun _ => false) _ 1928 153 [some (.ref 6), some (.int l), some (.int z), some (.int d), some (.int v), some (.int (σ.1 8 (Int32.toNatClampNeg (σ.1 6 5)))), some (.int (σ.1 7 (Int32.toNatClampNeg (4 * v + 3)))), some (.int ((150 + (20 * z)) + (35 * (l - l / 4 * 4)))), some (.int (σ.1 7 1)), some (.int ((σ.1 7 (Int32.toNatClampNeg (4 * v + 1))) - ((150 + (20 * z)) + (35 * (l - l / 4 * 4)))))] [] s12
            refine ⟨sp_in rfl rfl, ?_⟩
            have r15 := r13.tr (md_upA s12 11 (by decide) (by decide) (Int32.toNatClampNeg 1) ((σ.1 7 (Int32.toNatClampNeg (4 * v + 1))) - ((150 + (20 * z)) + (35 * (l - l / 4 * 4)))))
            have i16 := (md_upA s12 11 (by decide) (by decide) (Int32.toNatClampNeg 1) ((σ.1 7 (Int32.toNatClampNeg (4 * v + 1))) - ((150 + (20 * z)) + (35 * (l - l / 4 * 4))))).2.2 i14
            change ev_wp pg_F pg_lay none [] (ev_lu pg_c125) (fun _ => false) _ 1923 161 [some (.ref 6), some (.int l), some (.int z), some (.int d), some (.int v), some (.int (σ.1 8 (Int32.toNatClampNeg (σ.1 6 5)))), some (.int (σ.1 7 (Int32.toNatClampNeg (4 * v + 3)))), some (.int ((150 + (20 * z)) + (35 * (l - l / 4 * 4)))), some (.int (σ.1 7 1)), some (.int ((σ.1 7 (Int32.toNatClampNeg (4 * v + 1))) - ((150 + (20 * z)) + (35 * (l - l / 4 * 4)))))] [] (ev_up s12 11 (Int32.toNatClampNeg 1) ((σ.1 7 (Int32.toNatClampNeg (4 * v + 1))) - ((150 + (20 * z)) + (35 * (l - l / 4 * 4)))))
            refine ⟨sp_in rfl rfl, ?_⟩
            have r17 := r15.tr (md_upA (ev_up s12 11 (Int32.toNatClampNeg 1) ((σ.1 7 (Int32.toNatClampNeg (4 * v + 1))) - ((150 + (20 * z)) + (35 * (l - l / 4 * 4))))) 11 (by decide) (by decide) (Int32.toNatClampNeg 2) (σ.1 8 (Int32.toNatClampNeg (σ.1 6 5))))
            have i18 := (md_upA (ev_up s12 11 (Int32.toNatClampNeg 1) ((σ.1 7 (Int32.toNatClampNeg (4 * v + 1))) - ((150 + (20 * z)) + (35 * (l - l / 4 * 4))))) 11 (by decide) (by decide) (Int32.toNatClampNeg 2) (σ.1 8 (Int32.toNatClampNeg (σ.1 6 5)))).2.2 i16
            change ev_wp pg_F pg_lay none [] (ev_lu pg_c125) (fun _ => false) _ 1918 169 [some (.ref 6), some (.int l), some (.int z), some (.int d), some (.int v), some (.int (σ.1 8 (Int32.toNatClampNeg (σ.1 6 5)))), some (.int (σ.1 7 (Int32.toNatClampNeg (4 * v + 3)))), some (.int ((150 + (20 * z)) + (35 * (l - l / 4 * 4)))), some (.int (σ.1 7 1)), some (.int ((σ.1 7 (Int32.toNatClampNeg (4 * v + 1))) - ((150 + (20 * z)) + (35 * (l - l / 4 * 4)))))] [] (ev_up (ev_up s12 11 (Int32.toNatClampNeg 1) ((σ.1 7 (Int32.toNatClampNeg (4 * v + 1))) - ((150 + (20 * z)) + (35 * (l - l / 4 * 4))))) 11 (Int32.toNatClampNeg 2) (σ.1 8 (Int32.toNatClampNeg (σ.1 6 5))))
            refine ⟨trivial, ?_⟩
            rintro _ _ ⟨v19, k20, rfl, rfl⟩
            change ev_wp pg_F pg_lay none [] (ev_lu pg_c125) (fun _ => false) _ 1910 184 [some (.ref 6), some (.int l), some (.int z), some (.int d), some (.int v), some (.int (σ.1 8 (Int32.toNatClampNeg (σ.1 6 5)))), some (.int (σ.1 7 (Int32.toNatClampNeg (4 * v + 3)))), some (.int ((150 + (20 * z)) + (35 * (l - l / 4 * 4)))), some (.int (σ.1 7 1)), some (.int ((σ.1 7 (Int32.toNatClampNeg (4 * v + 1))) - ((150 + (20 * z)) + (35 * (l - l / 4 * 4)))))] [.int v19, .int 3, .ref 11] (ev_up (ev_up s12 11 (Int32.toNatClampNeg 1) ((σ.1 7 (Int32.toNatClampNeg (4 * v + 1))) - ((150 + (20 * z)) + (35 * (l - l / 4 * 4))))) 11 (Int32.toNatClampNeg 2) (σ.1 8 (Int32.toNatClampNeg (σ.1 6 5))))
            refine ⟨sp_in rfl rfl, ?_⟩
            have r21 := r17.tr (md_upA (ev_up (ev_up s12 11 (Int32.toNatClampNeg 1) ((σ.1 7 (Int32.toNatClampNeg (4 * v + 1))) - ((150 + (20 * z)) + (35 * (l - l / 4 * 4))))) 11 (Int32.toNatClampNeg 2) (σ.1 8 (Int32.toNatClampNeg (σ.1 6 5)))) 11 (by decide) (by decide) (Int32.toNatClampNeg 3) v19)
            have i22 := (md_upA (ev_up (ev_up s12 11 (Int32.toNatClampNeg 1) ((σ.1 7 (Int32.toNatClampNeg (4 * v + 1))) - ((150 + (20 * z)) + (35 * (l - l / 4 * 4))))) 11 (Int32.toNatClampNeg 2) (σ.1 8 (Int32.toNatClampNeg (σ.1 6 5)))) 11 (by decide) (by decide) (Int32.toNatClampNeg 3) v19).2.2 i18
            change ev_wp pg_F pg_lay none [] (ev_lu pg_c125) (fun _ => false) _ 1909 185 [some (.ref 6), some (.int l), some (.int z), some (.int d), some (.int v), some (.int (σ.1 8 (Int32.toNatClampNeg (σ.1 6 5)))), some (.int (σ.1 7 (Int32.toNatClampNeg (4 * v + 3)))), some (.int ((150 + (20 * z)) + (35 * (l - l / 4 * 4)))), some (.int (σ.1 7 1)), some (.int ((σ.1 7 (Int32.toNatClampNeg (4 * v + 1))) - ((150 + (20 * z)) + (35 * (l - l / 4 * 4)))))] [] (ev_up (ev_up (ev_up s12 11 (Int32.toNatClampNeg 1) ((σ.1 7 (Int32.toNatClampNeg (4 * v + 1))) - ((150 + (20 * z)) + (35 * (l - l / 4 * 4))))) 11 (Int32.toNatClampNeg 2) (σ.1 8 (Int32.toNatClampNeg (σ.1 6 5)))) 11 (Int32.toNatClampNeg 3) v19)
            refine ⟨⟨Or.inl rfl, i22⟩, ?_⟩
            rintro _ s24 ⟨k23, rfl⟩
            have r25 := r21.tr k23.1
            have i26 := k23.1.2.2 i22
            have wk23 : md_tw 5 (ev_up (ev_up (ev_up s12 11 (Int32.toNatClampNeg 1) ((σ.1 7 (Int32.toNatClampNeg (4 * v + 1))) - ((150 + (20 * z)) + (35 * (l - l / 4 * 4))))) 11 (Int32.toNatClampNeg 2) (σ.1 8 (Int32.toNatClampNeg (σ.1 6 5)))) 11 (Int32.toNatClampNeg 3) v19) s24 := k23.2
            have rtk23 : s24.1 6 10 = 0 → md_right s24 41 ∨ md_right s24 43 := fun h => (rtk11 (wk23.2.1 h).1).imp (md_right_of (fun i _ _ => wk23.1 i (by omega))) (md_right_of (fun i _ _ => wk23.1 i (by omega)))
            change ev_wp pg_F pg_lay none [] (ev_lu pg_c125) (fun _ => false) _ 1906 190 [some (.ref 6), some (.int l), some (.int z), some (.int d), some (.int v), some (.int (σ.1 8 (Int32.toNatClampNeg (σ.1 6 5)))), some (.int (σ.1 7 (Int32.toNatClampNeg (4 * v + 3)))), some (.int ((150 + (20 * z)) + (35 * (l - l / 4 * 4)))), some (.int (σ.1 7 1)), some (.int ((σ.1 7 (Int32.toNatClampNeg (4 * v + 1))) - ((150 + (20 * z)) + (35 * (l - l / 4 * 4)))))] [] s24
            refine ⟨⟨i26, rtk23⟩, ?_⟩
            rintro _ s29 ⟨v27, k28, rfl⟩
            have r30 := r25.tr k28
            have i31 := k28.2.2 i26
            exact ⟨_, rfl, Nat.le_of_eq (congrArg Prod.snd r30.2.1), _, r30, rfl⟩
          · skip
            change ev_wp pg_F pg_lay none [] (ev_lu pg_c125) (fun _ => false) _ 1955 103 [some (.ref 6), some (.int l), some (.int z), some (.int d), some (.int v), some (.int (σ.1 8 (Int32.toNatClampNeg (σ.1 6 5)))), some (.int (σ.1 7 (Int32.toNatClampNeg (4 * v + 3)))), some (.int ((150 + (20 * z)) + (35 * (l - l / 4 * 4)))), some (.int (σ.1 7 1)), none] [] σ
            refine ⟨trivial, ?_⟩
            rintro _ _ ⟨_, ⟨rfl, rfl⟩, rfl⟩
            have r32 := (md_m.rf σ).tr (md_up6 σ 7 5 (by decide) (by decide))
            have i33 := (md_up6 σ 7 5 (by decide) (by decide)).2.2 hp.1
            exact ⟨_, rfl, Nat.le_of_eq (congrArg Prod.snd r32.2.1), _, r32, rfl⟩
        · skip
          change ev_wp pg_F pg_lay none [] (ev_lu pg_c125) (fun _ => false) _ 1961 77 [some (.ref 6), some (.int l), some (.int z), some (.int d), some (.int v), some (.int (σ.1 8 (Int32.toNatClampNeg (σ.1 6 5)))), some (.int (σ.1 7 (Int32.toNatClampNeg (4 * v + 3)))), some (.int ((150 + (20 * z)) + (35 * (l - l / 4 * 4)))), some (.int (σ.1 7 1)), none] [] σ
          refine ⟨trivial, ?_⟩
          rintro _ _ ⟨v34, k35, rfl, rfl⟩
          change ev_wp pg_F pg_lay none [] (ev_lu pg_c125) (fun _ => false) _ 1957 86 [some (.ref 6), some (.int l), some (.int z), some (.int d), some (.int v), some (.int (σ.1 8 (Int32.toNatClampNeg (σ.1 6 5)))), some (.int (σ.1 7 (Int32.toNatClampNeg (4 * v + 3)))), some (.int ((150 + (20 * z)) + (35 * (l - l / 4 * 4)))), some (.int (σ.1 7 1)), none] [.int v34, .int ((150 + (20 * z)) + (35 * (l - l / 4 * 4)))] σ
          refine ⟨trivial, ?_⟩
          rintro _ _ ⟨v36, k37, rfl, rfl⟩
          change ev_wp pg_F pg_lay none [] (ev_lu pg_c125) (fun _ => false) _ 1956 89 [some (.ref 6), some (.int l), some (.int z), some (.int d), some (.int v), some (.int (σ.1 8 (Int32.toNatClampNeg (σ.1 6 5)))), some (.int (σ.1 7 (Int32.toNatClampNeg (4 * v + 3)))), some (.int ((150 + (20 * z)) + (35 * (l - l / 4 * 4)))), some (.int (σ.1 7 1)), none] [.int v36] σ
          refine ⟨md_vp (md_j5 (md_l5 hp.2.2 (md_nlt h1))) 1 (by decide) rfl, ?_⟩
          rintro _ _ ⟨rfl, rfl⟩
          change ev_wp pg_F pg_lay none [] (ev_lu pg_c125) (fun _ => false) _ 1951 98 [some (.ref 6), some (.int l), some (.int z), some (.int d), some (.int v), some (.int (σ.1 8 (Int32.toNatClampNeg (σ.1 6 5)))), some (.int (σ.1 7 (Int32.toNatClampNeg (4 * v + 3)))), some (.int v36), some (.int (σ.1 7 1)), none] [.int (σ.1 7 (Int32.toNatClampNeg (4 * v + 1)))] σ
          refine ⟨fun (h38 : v36 ≤ (σ.1 7 (Int32.toNatClampNeg (4 * v + 1)))) => ?_, fun (h38 : ¬ v36 ≤ (σ.1 7 (Int32.toNatClampNeg (4 * v + 1)))) => ?_⟩
          · skip
            change ev_wp pg_F pg_lay none [] (ev_lu pg_c125) (fun _ => false) _ 1949 109 [some (.ref 6), some (.int l), some (.int z), some (.int d), some (.int v), some (.int (σ.1 8 (Int32.toNatClampNeg (σ.1 6 5)))), some (.int (σ.1 7 (Int32.toNatClampNeg (4 * v + 3)))), some (.int v36), some (.int (σ.1 7 1)), none] [] σ
            refine ⟨md_vp (md_j5 (md_l5 hp.2.2 (md_nlt h1))) 1 (by decide) rfl, ?_⟩
            rintro _ _ ⟨rfl, rfl⟩
            change ev_wp pg_F pg_lay none [] (ev_lu pg_c125) (fun _ => false) _ 1945 116 [some (.ref 6), some (.int l), some (.int z), some (.int d), some (.int v), some (.int (σ.1 8 (Int32.toNatClampNeg (σ.1 6 5)))), some (.int (σ.1 7 (Int32.toNatClampNeg (4 * v + 3)))), some (.int v36), some (.int (σ.1 7 1)), none] [.int (σ.1 7 (Int32.toNatClampNeg (4 * v + 1)))] σ
            refine ⟨hp.2.1, ?_⟩
            rintro _ _ ⟨v39, k40, rfl, rfl⟩
            change ev_wp pg_F pg_lay none [] (ev_lu pg_c125) (fun _ => false) _ 1935 130 [some (.ref 6), some (.int l), some (.int z), some (.int d), some (.int v), some (.int (σ.1 8 (Int32.toNatClampNeg (σ.1 6 5)))), some (.int (σ.1 7 (Int32.toNatClampNeg (4 * v + 3)))), some (.int v36), some (.int (σ.1 7 1)), some (.int ((σ.1 7 (Int32.toNatClampNeg (4 * v + 1))) - v36))] [.int v39, .int 0, .int d, .int z, .int l, .ref 6] σ
            refine ⟨md_vp (md_j5 (md_l5 hp.2.2 (md_nlt h1))) 0 (by decide) rfl, ?_⟩
            rintro _ _ ⟨rfl, rfl⟩
            change ev_wp pg_F pg_lay none [] (ev_lu pg_c125) (fun _ => false) _ 1930 138 [some (.ref 6), some (.int l), some (.int z), some (.int d), some (.int v), some (.int (σ.1 8 (Int32.toNatClampNeg (σ.1 6 5)))), some (.int (σ.1 7 (Int32.toNatClampNeg (4 * v + 3)))), some (.int v36), some (.int (σ.1 7 1)), some (.int ((σ.1 7 (Int32.toNatClampNeg (4 * v + 1))) - v36))] [.int (σ.1 7 (Int32.toNatClampNeg (4 * v + 0))), .int 0, .int v39, .int 0, .int d, .int z, .int l, .ref 6] σ
            refine ⟨⟨hp.1, hp.2.1⟩, ?_⟩
            rintro _ s42 ⟨k41, rfl⟩
            have r43 := (md_m.rf σ).tr k41.1
            have i44 := k41.1.2.2 hp.1
            change ev_wp pg_F pg_lay none [] (ev_lu pg_c125) (fun _ => false) _ 1924 149 [some (.ref 6), some (.int l), some (.int z), some (.int d), some (.int v), some (.int (σ.1 8 (Int32.toNatClampNeg (σ.1 6 5)))), some (.int (σ.1 7 (Int32.toNatClampNeg (4 * v + 3)))), some (.int v36), some (.int (σ.1 7 1)), some (.int ((σ.1 7 (Int32.toNatClampNeg (4 * v + 1))) - v36))] [] s42
            refine ⟨trivial, ?_⟩
            rintro _ s46 ⟨k45, rfl⟩
            have r47 := r43.tr k45.m
            have i48 := k45.m.2.2 i44
            have rtk45 : s46.1 6 10 = 0 → md_right s46 41 ∨ md_right s46 43 := fun h => ((fun h => (k41.2.2.1 h).2) (by rw [← k45.1 6 (by decide)]; exact h)).imp (md_right_of (fun i _ _ => by rw [k45.1 7 (by decide)])) (md_right_of (fun i _ _ => by rw [k45.1 7 (by decide)]))
            change ev_wp pg_F pg_lay none [] (ev_lu pg_c125) (fun _ => false) _ 1922 153 [some (.ref 6), some (.int l), some (.int z), some (.int d), some (.int v), some (.int (σ.1 8 (Int32.toNatClampNeg (σ.1 6 5)))), some (.int (σ.1 7 (Int32.toNatClampNeg (4 * v + 3)))), some (.int v36), some (.int (σ.1 7 1)), some (.int ((σ.1 7 (Int32.toNatClampNeg (4 * v + 1))) - v36))] [] s46
            refine ⟨sp_in rfl rfl, ?_⟩
            have r49 := r47.tr (md_upA s46 11 (by decide) (by decide) (Int32.toNatClampNeg 1) ((σ.1 7 (Int32.toNatClampNeg (4 * v + 1))) - v36))
            have i50 := (md_upA s46 11 (by decide) (by decide) (Int32.toNatClampNeg 1) ((σ.1 7 (Int32.toNatClampNeg (4 * v + 1))) - v36)).2.2 i48
            change ev_wp pg_F pg_lay none [] (ev_lu pg_c125) (fun _ => false) _ 1917 161 [some (.ref 6), some (.int l), some (.int z), some (.int d), some (.int v), some (.int (σ.1 8 (Int32.toNatClampNeg (σ.1 6 5)))), some (.int (σ.1 7 (Int32.toNatClampNeg (4 * v + 3)))), some (.int v36), some (.int (σ.1 7 1)), some (.int ((σ.1 7 (Int32.toNatClampNeg (4 * v + 1))) - v36))] [] (ev_up s46 11 (Int32.toNatClampNeg 1) ((σ.1 7 (Int32.toNatClampNeg (4 * v + 1))) - v36))
            refine ⟨sp_in rfl rfl, ?_⟩
            have r51 := r49.tr (md_upA (ev_up s46 11 (Int32.toNatClampNeg 1) ((σ.1 7 (Int32.toNatClampNeg (4 * v + 1))) - v36)) 11 (by decide) (by decide) (Int32.toNatClampNeg 2) (σ.1 8 (Int32.toNatClampNeg (σ.1 6 5))))
            have i52 := (md_upA (ev_up s46 11 (Int32.toNatClampNeg 1) ((σ.1 7 (Int32.toNatClampNeg (4 * v + 1))) - v36)) 11 (by decide) (by decide) (Int32.toNatClampNeg 2) (σ.1 8 (Int32.toNatClampNeg (σ.1 6 5)))).2.2 i50
            change ev_wp pg_F pg_lay none [] (ev_lu pg_c125) (fun _ => false) _ 1912 169 [some (.ref 6), some (.int l), some (.int z), some (.int d), some (.int v), some (.int (σ.1 8 (Int32.toNatClampNeg (σ.1 6 5)))), some (.int (σ.1 7 (Int32.toNatClampNeg (4 * v + 3)))), some (.int v36), some (.int (σ.1 7 1)), some (.int ((σ.1 7 (Int32.toNatClampNeg (4 * v + 1))) - v36))] [] (ev_up (ev_up s46 11 (Int32.toNatClampNeg 1) ((σ.1 7 (Int32.toNatClampNeg (4 * v + 1))) - v36)) 11 (Int32.toNatClampNeg 2) (σ.1 8 (Int32.toNatClampNeg (σ.1 6 5))))
            refine ⟨trivial, ?_⟩
            rintro _ _ ⟨v53, k54, rfl, rfl⟩
            change ev_wp pg_F pg_lay none [] (ev_lu pg_c125) (fun _ => false) _ 1904 184 [some (.ref 6), some (.int l), some (.int z), some (.int d), some (.int v), some (.int (σ.1 8 (Int32.toNatClampNeg (σ.1 6 5)))), some (.int (σ.1 7 (Int32.toNatClampNeg (4 * v + 3)))), some (.int v36), some (.int (σ.1 7 1)), some (.int ((σ.1 7 (Int32.toNatClampNeg (4 * v + 1))) - v36))] [.int v53, .int 3, .ref 11] (ev_up (ev_up s46 11 (Int32.toNatClampNeg 1) ((σ.1 7 (Int32.toNatClampNeg (4 * v + 1))) - v36)) 11 (Int32.toNatClampNeg 2) (σ.1 8 (Int32.toNatClampNeg (σ.1 6 5))))
            refine ⟨sp_in rfl rfl, ?_⟩
            have r55 := r51.tr (md_upA (ev_up (ev_up s46 11 (Int32.toNatClampNeg 1) ((σ.1 7 (Int32.toNatClampNeg (4 * v + 1))) - v36)) 11 (Int32.toNatClampNeg 2) (σ.1 8 (Int32.toNatClampNeg (σ.1 6 5)))) 11 (by decide) (by decide) (Int32.toNatClampNeg 3) v53)
            have i56 := (md_upA (ev_up (ev_up s46 11 (Int32.toNatClampNeg 1) ((σ.1 7 (Int32.toNatClampNeg (4 * v + 1))) - v36)) 11 (Int32.toNatClampNeg 2) (σ.1 8 (Int32.toNatClampNeg (σ.1 6 5)))) 11 (by decide) (by decide) (Int32.toNatClampNeg 3) v53).2.2 i52
            change ev_wp pg_F pg_lay none [] (ev_lu pg_c125) (fun _ => false) _ 1903 185 [some (.ref 6), some (.int l), some (.int z), some (.int d), some (.int v), some (.int (σ.1 8 (Int32.toNatClampNeg (σ.1 6 5)))), some (.int (σ.1 7 (Int32.toNatClampNeg (4 * v + 3)))), some (.int v36), some (.int (σ.1 7 1)), some (.int ((σ.1 7 (Int32.toNatClampNeg (4 * v + 1))) - v36))] [] (ev_up (ev_up (ev_up s46 11 (Int32.toNatClampNeg 1) ((σ.1 7 (Int32.toNatClampNeg (4 * v + 1))) - v36)) 11 (Int32.toNatClampNeg 2) (σ.1 8 (Int32.toNatClampNeg (σ.1 6 5)))) 11 (Int32.toNatClampNeg 3) v53)
            refine ⟨⟨Or.inl rfl, i56⟩, ?_⟩
            rintro _ s58 ⟨k57, rfl⟩
            have r59 := r55.tr k57.1
            have i60 := k57.1.2.2 i56
            have wk57 : md_tw 5 (ev_up (ev_up (ev_up s46 11 (Int32.toNatClampNeg 1) ((σ.1 7 (Int32.toNatClampNeg (4 * v + 1))) - v36)) 11 (Int32.toNatClampNeg 2) (σ.1 8 (Int32.toNatClampNeg (σ.1 6 5)))) 11 (Int32.toNatClampNeg 3) v53) s58 := k57.2
            have rtk57 : s58.1 6 10 = 0 → md_right s58 41 ∨ md_right s58 43 := fun h => (rtk45 (wk57.2.1 h).1).imp (md_right_of (fun i _ _ => wk57.1 i (by omega))) (md_right_of (fun i _ _ => wk57.1 i (by omega)))
            change ev_wp pg_F pg_lay none [] (ev_lu pg_c125) (fun _ => false) _ 1900 190 [some (.ref 6), some (.int l), some (.int z), some (.int d), some (.int v), some (.int (σ.1 8 (Int32.toNatClampNeg (σ.1 6 5)))), some (.int (σ.1 7 (Int32.toNatClampNeg (4 * v + 3)))), some (.int v36), some (.int (σ.1 7 1)), some (.int ((σ.1 7 (Int32.toNatClampNeg (4 * v + 1))) - v36))] [] s58
            refine ⟨⟨i60, rtk57⟩, ?_⟩
            rintro _ s63 ⟨v61, k62, rfl⟩
            have r64 := r59.tr k62
            have i65 := k62.2.2 i60
            exact ⟨_, rfl, Nat.le_of_eq (congrArg Prod.snd r64.2.1), _, r64, rfl⟩
          · skip
            change ev_wp pg_F pg_lay none [] (ev_lu pg_c125) (fun _ => false) _ 1949 103 [some (.ref 6), some (.int l), some (.int z), some (.int d), some (.int v), some (.int (σ.1 8 (Int32.toNatClampNeg (σ.1 6 5)))), some (.int (σ.1 7 (Int32.toNatClampNeg (4 * v + 3)))), some (.int v36), some (.int (σ.1 7 1)), none] [] σ
            refine ⟨trivial, ?_⟩
            rintro _ _ ⟨_, ⟨rfl, rfl⟩, rfl⟩
            have r66 := (md_m.rf σ).tr (md_up6 σ 7 5 (by decide) (by decide))
            have i67 := (md_up6 σ 7 5 (by decide) (by decide)).2.2 hp.1
            exact ⟨_, rfl, Nat.le_of_eq (congrArg Prod.snd r66.2.1), _, r66, rfl⟩
      · skip
        change ev_wp pg_F pg_lay none [] (ev_lu pg_c125) (fun _ => false) _ 1986 44 [some (.ref 6), some (.int l), some (.int z), some (.int d), some (.int v), some (.int (σ.1 8 (Int32.toNatClampNeg (σ.1 6 5)))), none, none, none, none] [] σ
        refine ⟨sp_in rfl rfl, ?_⟩
        rintro _ _ ⟨rfl, rfl⟩
        change ev_wp pg_F pg_lay none [] (ev_lu pg_c125) (fun _ => false) _ 1968 70 [some (.ref 6), some (.int l), some (.int z), some (.int d), some (.int v), some (.int (σ.1 8 (Int32.toNatClampNeg (σ.1 6 5)))), some (.int 0), some (.int ((150 + (20 * z)) + (35 * (l - l / 4 * 4)))), none, none] [.int (σ.1 7 1)] σ
        refine ⟨fun (h68 : (σ.1 7 1) ≤ 0) => ?_, fun (h68 : ¬ (σ.1 7 1) ≤ 0) => ?_⟩
        · skip
          change ev_wp pg_F pg_lay none [] (ev_lu pg_c125) (fun _ => false) _ 1965 91 [some (.ref 6), some (.int l), some (.int z), some (.int d), some (.int v), some (.int (σ.1 8 (Int32.toNatClampNeg (σ.1 6 5)))), some (.int 0), some (.int ((150 + (20 * z)) + (35 * (l - l / 4 * 4)))), some (.int (σ.1 7 1)), none] [] σ
          refine ⟨md_vp (md_j5 (md_l5 hp.2.2 (md_nlt h1))) 1 (by decide) rfl, ?_⟩
          rintro _ _ ⟨rfl, rfl⟩
          change ev_wp pg_F pg_lay none [] (ev_lu pg_c125) (fun _ => false) _ 1961 98 [some (.ref 6), some (.int l), some (.int z), some (.int d), some (.int v), some (.int (σ.1 8 (Int32.toNatClampNeg (σ.1 6 5)))), some (.int 0), some (.int ((150 + (20 * z)) + (35 * (l - l / 4 * 4)))), some (.int (σ.1 7 1)), none] [.int (σ.1 7 (Int32.toNatClampNeg (4 * v + 1)))] σ
          refine ⟨fun (h69 : ((150 + (20 * z)) + (35 * (l - l / 4 * 4))) ≤ (σ.1 7 (Int32.toNatClampNeg (4 * v + 1)))) => ?_, fun (h69 : ¬ ((150 + (20 * z)) + (35 * (l - l / 4 * 4))) ≤ (σ.1 7 (Int32.toNatClampNeg (4 * v + 1)))) => ?_⟩
          · skip
            change ev_wp pg_F pg_lay none [] (ev_lu pg_c125) (fun _ => false) _ 1959 109 [some (.ref 6), some (.int l), some (.int z), some (.int d), some (.int v), some (.int (σ.1 8 (Int32.toNatClampNeg (σ.1 6 5)))), some (.int 0), some (.int ((150 + (20 * z)) + (35 * (l - l / 4 * 4)))), some (.int (σ.1 7 1)), none] [] σ
            refine ⟨md_vp (md_j5 (md_l5 hp.2.2 (md_nlt h1))) 1 (by decide) rfl, ?_⟩
            rintro _ _ ⟨rfl, rfl⟩
            change ev_wp pg_F pg_lay none [] (ev_lu pg_c125) (fun _ => false) _ 1955 116 [some (.ref 6), some (.int l), some (.int z), some (.int d), some (.int v), some (.int (σ.1 8 (Int32.toNatClampNeg (σ.1 6 5)))), some (.int 0), some (.int ((150 + (20 * z)) + (35 * (l - l / 4 * 4)))), some (.int (σ.1 7 1)), none] [.int (σ.1 7 (Int32.toNatClampNeg (4 * v + 1)))] σ
            refine ⟨hp.2.1, ?_⟩
            rintro _ _ ⟨v70, k71, rfl, rfl⟩
            change ev_wp pg_F pg_lay none [] (ev_lu pg_c125) (fun _ => false) _ 1945 130 [some (.ref 6), some (.int l), some (.int z), some (.int d), some (.int v), some (.int (σ.1 8 (Int32.toNatClampNeg (σ.1 6 5)))), some (.int 0), some (.int ((150 + (20 * z)) + (35 * (l - l / 4 * 4)))), some (.int (σ.1 7 1)), some (.int ((σ.1 7 (Int32.toNatClampNeg (4 * v + 1))) - ((150 + (20 * z)) + (35 * (l - l / 4 * 4)))))] [.int v70, .int 0, .int d, .int z, .int l, .ref 6] σ
            refine ⟨md_vp (md_j5 (md_l5 hp.2.2 (md_nlt h1))) 0 (by decide) rfl, ?_⟩
            rintro _ _ ⟨rfl, rfl⟩
            change ev_wp pg_F pg_lay none [] (ev_lu pg_c125) (fun _ => false) _ 1940 138 [some (.ref 6), some (.int l), some (.int z), some (.int d), some (.int v), some (.int (σ.1 8 (Int32.toNatClampNeg (σ.1 6 5)))), some (.int 0), some (.int ((150 + (20 * z)) + (35 * (l - l / 4 * 4)))), some (.int (σ.1 7 1)), some (.int ((σ.1 7 (Int32.toNatClampNeg (4 * v + 1))) - ((150 + (20 * z)) + (35 * (l - l / 4 * 4)))))] [.int (σ.1 7 (Int32.toNatClampNeg (4 * v + 0))), .int 0, .int v70, .int 0, .int d, .int z, .int l, .ref 6] σ
            refine ⟨⟨hp.1, hp.2.1⟩, ?_⟩
            rintro _ s73 ⟨k72, rfl⟩
            have r74 := (md_m.rf σ).tr k72.1
            have i75 := k72.1.2.2 hp.1
            change ev_wp pg_F pg_lay none [] (ev_lu pg_c125) (fun _ => false) _ 1934 149 [some (.ref 6), some (.int l), some (.int z), some (.int d), some (.int v), some (.int (σ.1 8 (Int32.toNatClampNeg (σ.1 6 5)))), some (.int 0), some (.int ((150 + (20 * z)) + (35 * (l - l / 4 * 4)))), some (.int (σ.1 7 1)), some (.int ((σ.1 7 (Int32.toNatClampNeg (4 * v + 1))) - ((150 + (20 * z)) + (35 * (l - l / 4 * 4)))))] [] s73
            refine ⟨trivial, ?_⟩
            rintro _ s77 ⟨k76, rfl⟩
            have r78 := r74.tr k76.m
            have i79 := k76.m.2.2 i75
            have rtk76 : s77.1 6 10 = 0 → md_right s77 41 ∨ md_right s77 43 := fun h => ((fun h => (k72.2.2.1 h).2) (by rw [← k76.1 6 (by decide)]; exact h)).imp (md_right_of (fun i _ _ => by rw [k76.1 7 (by decide)])) (md_right_of (fun i _ _ => by rw [k76.1 7 (by decide)]))
            change ev_wp pg_F pg_lay none [] (ev_lu pg_c125) (fun _ => false) _ 1932 153 [some (.ref 6), some (.int l), some (.int z), some (.int d), some (.int v), some (.int (σ.1 8 (Int32.toNatClampNeg (σ.1 6 5)))), some (.int 0), some (.int ((150 + (20 * z)) + (35 * (l - l / 4 * 4)))), some (.int (σ.1 7 1)), some (.int ((σ.1 7 (Int32.toNatClampNeg (4 * v + 1))) - ((150 + (20 * z)) + (35 * (l - l / 4 * 4)))))] [] s77
            refine ⟨sp_in rfl rfl, ?_⟩
            have r80 := r78.tr (md_upA s77 11 (by decide) (by decide) (Int32.toNatClampNeg 1) ((σ.1 7 (Int32.toNatClampNeg (4 * v + 1))) - ((150 + (20 * z)) + (35 * (l - l / 4 * 4)))))
            have i81 := (md_upA s77 11 (by decide) (by decide) (Int32.toNatClampNeg 1) ((σ.1 7 (Int32.toNatClampNeg (4 * v + 1))) - ((150 + (20 * z)) + (35 * (l - l / 4 * 4))))).2.2 i79
            change ev_wp pg_F pg_lay none [] (ev_lu pg_c125) (fun _ => false) _ 1927 161 [some (.ref 6), some (.int l), some (.int z), some (.int d), some (.int v), some (.int (σ.1 8 (Int32.toNatClampNeg (σ.1 6 5)))), some (.int 0), some (.int ((150 + (20 * z)) + (35 * (l - l / 4 * 4)))), some (.int (σ.1 7 1)), some (.int ((σ.1 7 (Int32.toNatClampNeg (4 * v + 1))) - ((150 + (20 * z)) + (35 * (l - l / 4 * 4)))))] [] (ev_up s77 11 (Int32.toNatClampNeg 1) ((σ.1 7 (Int32.toNatClampNeg (4 * v + 1))) - ((150 + (20 * z)) + (35 * (l - l / 4 * 4)))))
            refine ⟨sp_in rfl rfl, ?_⟩
            have r82 := r80.tr (md_upA (ev_up s77 11 (Int32.toNatClampNeg 1) ((σ.1 7 (Int32.toNatClampNeg (4 * v + 1))) - ((150 + (20 * z)) + (35 * (l - l / 4 * 4))))) 11 (by decide) (by decide) (Int32.toNatClampNeg 2) (σ.1 8 (Int32.toNatClampNeg (σ.1 6 5))))
            have i83 := (md_upA (ev_up s77 11 (Int32.toNatClampNeg 1) ((σ.1 7 (Int32.toNatClampNeg (4 * v + 1))) - ((150 + (20 * z)) + (35 * (l - l / 4 * 4))))) 11 (by decide) (by decide) (Int32.toNatClampNeg 2) (σ.1 8 (Int32.toNatClampNeg (σ.1 6 5)))).2.2 i81
            change ev_wp pg_F pg_lay none [] (ev_lu pg_c125) (fun _ => false) _ 1922 169 [some (.ref 6), some (.int l), some (.int z), some (.int d), some (.int v), some (.int (σ.1 8 (Int32.toNatClampNeg (σ.1 6 5)))), some (.int 0), some (.int ((150 + (20 * z)) + (35 * (l - l / 4 * 4)))), some (.int (σ.1 7 1)), some (.int ((σ.1 7 (Int32.toNatClampNeg (4 * v + 1))) - ((150 + (20 * z)) + (35 * (l - l / 4 * 4)))))] [] (ev_up (ev_up s77 11 (Int32.toNatClampNeg 1) ((σ.1 7 (Int32.toNatClampNeg (4 * v + 1))) - ((150 + (20 * z)) + (35 * (l - l / 4 * 4))))) 11 (Int32.toNatClampNeg 2) (σ.1 8 (Int32.toNatClampNeg (σ.1 6 5))))
            refine ⟨trivial, ?_⟩
            rintro _ _ ⟨v84, k85, rfl, rfl⟩
            change ev_wp pg_F pg_lay none [] (ev_lu pg_c125) (fun _ => false) _ 1914 184 [some (.ref 6), some (.int l), some (.int z), some (.int d), some (.int v), some (.int (σ.1 8 (Int32.toNatClampNeg (σ.1 6 5)))), some (.int 0), some (.int ((150 + (20 * z)) + (35 * (l - l / 4 * 4)))), some (.int (σ.1 7 1)), some (.int ((σ.1 7 (Int32.toNatClampNeg (4 * v + 1))) - ((150 + (20 * z)) + (35 * (l - l / 4 * 4)))))] [.int v84, .int 3, .ref 11] (ev_up (ev_up s77 11 (Int32.toNatClampNeg 1) ((σ.1 7 (Int32.toNatClampNeg (4 * v + 1))) - ((150 + (20 * z)) + (35 * (l - l / 4 * 4))))) 11 (Int32.toNatClampNeg 2) (σ.1 8 (Int32.toNatClampNeg (σ.1 6 5))))
            refine ⟨sp_in rfl rfl, ?_⟩
            have r86 := r82.tr (md_upA (ev_up (ev_up s77 11 (Int32.toNatClampNeg 1) ((σ.1 7 (Int32.toNatClampNeg (4 * v + 1))) - ((150 + (20 * z)) + (35 * (l - l / 4 * 4))))) 11 (Int32.toNatClampNeg 2) (σ.1 8 (Int32.toNatClampNeg (σ.1 6 5)))) 11 (by decide) (by decide) (Int32.toNatClampNeg 3) v84)
            have i87 := (md_upA (ev_up (ev_up s77 11 (Int32.toNatClampNeg 1) ((σ.1 7 (Int32.toNatClampNeg (4 * v + 1))) - ((150 + (20 * z)) + (35 * (l - l / 4 * 4))))) 11 (Int32.toNatClampNeg 2) (σ.1 8 (Int32.toNatClampNeg (σ.1 6 5)))) 11 (by decide) (by decide) (Int32.toNatClampNeg 3) v84).2.2 i83
            change ev_wp pg_F pg_lay none [] (ev_lu pg_c125) (fun _ => false) _ 1913 185 [some (.ref 6), some (.int l), some (.int z), some (.int d), some (.int v), some (.int (σ.1 8 (Int32.toNatClampNeg (σ.1 6 5)))), some (.int 0), some (.int ((150 + (20 * z)) + (35 * (l - l / 4 * 4)))), some (.int (σ.1 7 1)), some (.int ((σ.1 7 (Int32.toNatClampNeg (4 * v + 1))) - ((150 + (20 * z)) + (35 * (l - l / 4 * 4)))))] [] (ev_up (ev_up (ev_up s77 11 (Int32.toNatClampNeg 1) ((σ.1 7 (Int32.toNatClampNeg (4 * v + 1))) - ((150 + (20 * z)) + (35 * (l - l / 4 * 4))))) 11 (Int32.toNatClampNeg 2) (σ.1 8 (Int32.toNatClampNeg (σ.1 6 5)))) 11 (Int32.toNatClampNeg 3) v84)
            refine ⟨⟨Or.inl rfl, i87⟩, ?_⟩
            rintro _ s89 ⟨k88, rfl⟩
            have r90 := r86.tr k88.1
            have i91 := k88.1.2.2 i87
            have wk88 : md_tw 5 (ev_up (ev_up (ev_up s77 11 (Int32.toNatClampNeg 1) ((σ.1 7 (Int32.toNatClampNeg (4 * v + 1))) - ((150 + (20 * z)) + (35 * (l - l / 4 * 4))))) 11 (Int32.toNatClampNeg 2) (σ.1 8 (Int32.toNatClampNeg (σ.1 6 5)))) 11 (Int32.toNatClampNeg 3) v84) s89 := k88.2
            have rtk88 : s89.1 6 10 = 0 → md_right s89 41 ∨ md_right s89 43 := fun h => (rtk76 (wk88.2.1 h).1).imp (md_right_of (fun i _ _ => wk88.1 i (by omega))) (md_right_of (fun i _ _ => wk88.1 i (by omega)))
            change ev_wp pg_F pg_lay none [] (ev_lu pg_c125) (fun _ => false) _ 1910 190 [some (.ref 6), some (.int l), some (.int z), some (.int d), some (.int v), some (.int (σ.1 8 (Int32.toNatClampNeg (σ.1 6 5)))), some (.int 0), some (.int ((150 + (20 * z)) + (35 * (l - l / 4 * 4)))), some (.int (σ.1 7 1)), some (.int ((σ.1 7 (Int32.toNatClampNeg (4 * v + 1))) - ((150 + (20 * z)) + (35 * (l - l / 4 * 4)))))] [] s89
            refine ⟨⟨i91, rtk88⟩, ?_⟩
            rintro _ s94 ⟨v92, k93, rfl⟩
            have r95 := r90.tr k93
            have i96 := k93.2.2 i91
            exact ⟨_, rfl, Nat.le_of_eq (congrArg Prod.snd r95.2.1), _, r95, rfl⟩
          · skip
            change ev_wp pg_F pg_lay none [] (ev_lu pg_c125) (fun _ => false) _ 1959 103 [some (.ref 6), some (.int l), some (.int z), some (.int d), some (.int v), some (.int (σ.1 8 (Int32.toNatClampNeg (σ.1 6 5)))), some (.int 0), some (.int ((150 + (20 * z)) + (35 * (l - l / 4 * 4)))), some (.int (σ.1 7 1)), none] [] σ
            refine ⟨trivial, ?_⟩
            rintro _ _ ⟨_, ⟨rfl, rfl⟩, rfl⟩
            have r97 := (md_m.rf σ).tr (md_up6 σ 7 5 (by decide) (by decide))
            have i98 := (md_up6 σ 7 5 (by decide) (by decide)).2.2 hp.1
            exact ⟨_, rfl, Nat.le_of_eq (congrArg Prod.snd r97.2.1), _, r97, rfl⟩
        · skip
          change ev_wp pg_F pg_lay none [] (ev_lu pg_c125) (fun _ => false) _ 1965 77 [some (.ref 6), some (.int l), some (.int z), some (.int d), some (.int v), some (.int (σ.1 8 (Int32.toNatClampNeg (σ.1 6 5)))), some (.int 0), some (.int ((150 + (20 * z)) + (35 * (l - l / 4 * 4)))), some (.int (σ.1 7 1)), none] [] σ
          refine ⟨trivial, ?_⟩
          rintro _ _ ⟨v99, k100, rfl, rfl⟩
          change ev_wp pg_F pg_lay none [] (ev_lu pg_c125) (fun _ => false) _ 1961 86 [some (.ref 6), some (.int l), some (.int z), some (.int d), some (.int v), some (.int (σ.1 8 (Int32.toNatClampNeg (σ.1 6 5)))), some (.int 0), some (.int ((150 + (20 * z)) + (35 * (l - l / 4 * 4)))), some (.int (σ.1 7 1)), none] [.int v99, .int ((150 + (20 * z)) + (35 * (l - l / 4 * 4)))] σ
          refine ⟨trivial, ?_⟩
          rintro _ _ ⟨v101, k102, rfl, rfl⟩
          change ev_wp pg_F pg_lay none [] (ev_lu pg_c125) (fun _ => false) _ 1960 89 [some (.ref 6), some (.int l), some (.int z), some (.int d), some (.int v), some (.int (σ.1 8 (Int32.toNatClampNeg (σ.1 6 5)))), some (.int 0), some (.int ((150 + (20 * z)) + (35 * (l - l / 4 * 4)))), some (.int (σ.1 7 1)), none] [.int v101] σ
          refine ⟨md_vp (md_j5 (md_l5 hp.2.2 (md_nlt h1))) 1 (by decide) rfl, ?_⟩
          rintro _ _ ⟨rfl, rfl⟩
          change ev_wp pg_F pg_lay none [] (ev_lu pg_c125) (fun _ => false) _ 1955 98 [some (.ref 6), some (.int l), some (.int z), some (.int d), some (.int v), some (.int (σ.1 8 (Int32.toNatClampNeg (σ.1 6 5)))), some (.int 0), some (.int v101), some (.int (σ.1 7 1)), none] [.int (σ.1 7 (Int32.toNatClampNeg (4 * v + 1)))] σ
          refine ⟨fun (h103 : v101 ≤ (σ.1 7 (Int32.toNatClampNeg (4 * v + 1)))) => ?_, fun (h103 : ¬ v101 ≤ (σ.1 7 (Int32.toNatClampNeg (4 * v + 1)))) => ?_⟩
          · skip
            change ev_wp pg_F pg_lay none [] (ev_lu pg_c125) (fun _ => false) _ 1953 109 [some (.ref 6), some (.int l), some (.int z), some (.int d), some (.int v), some (.int (σ.1 8 (Int32.toNatClampNeg (σ.1 6 5)))), some (.int 0), some (.int v101), some (.int (σ.1 7 1)), none] [] σ
            refine ⟨md_vp (md_j5 (md_l5 hp.2.2 (md_nlt h1))) 1 (by decide) rfl, ?_⟩
            rintro _ _ ⟨rfl, rfl⟩
            change ev_wp pg_F pg_lay none [] (ev_lu pg_c125) (fun _ => false) _ 1949 116 [some (.ref 6), some (.int l), some (.int z), some (.int d), some (.int v), some (.int (σ.1 8 (Int32.toNatClampNeg (σ.1 6 5)))), some (.int 0), some (.int v101), some (.int (σ.1 7 1)), none] [.int (σ.1 7 (Int32.toNatClampNeg (4 * v + 1)))] σ
            refine ⟨hp.2.1, ?_⟩
            rintro _ _ ⟨v104, k105, rfl, rfl⟩
            change ev_wp pg_F pg_lay none [] (ev_lu pg_c125) (fun _ => false) _ 1939 130 [some (.ref 6), some (.int l), some (.int z), some (.int d), some (.int v), some (.int (σ.1 8 (Int32.toNatClampNeg (σ.1 6 5)))), some (.int 0), some (.int v101), some (.int (σ.1 7 1)), some (.int ((σ.1 7 (Int32.toNatClampNeg (4 * v + 1))) - v101))] [.int v104, .int 0, .int d, .int z, .int l, .ref 6] σ
            refine ⟨md_vp (md_j5 (md_l5 hp.2.2 (md_nlt h1))) 0 (by decide) rfl, ?_⟩
            rintro _ _ ⟨rfl, rfl⟩
            change ev_wp pg_F pg_lay none [] (ev_lu pg_c125) (fun _ => false) _ 1934 138 [some (.ref 6), some (.int l), some (.int z), some (.int d), some (.int v), some (.int (σ.1 8 (Int32.toNatClampNeg (σ.1 6 5)))), some (.int 0), some (.int v101), some (.int (σ.1 7 1)), some (.int ((σ.1 7 (Int32.toNatClampNeg (4 * v + 1))) - v101))] [.int (σ.1 7 (Int32.toNatClampNeg (4 * v + 0))), .int 0, .int v104, .int 0, .int d, .int z, .int l, .ref 6] σ
            refine ⟨⟨hp.1, hp.2.1⟩, ?_⟩
            rintro _ s107 ⟨k106, rfl⟩
            have r108 := (md_m.rf σ).tr k106.1
            have i109 := k106.1.2.2 hp.1
            change ev_wp pg_F pg_lay none [] (ev_lu pg_c125) (fun _ => false) _ 1928 149 [some (.ref 6), some (.int l), some (.int z), some (.int d), some (.int v), some (.int (σ.1 8 (Int32.toNatClampNeg (σ.1 6 5)))), some (.int 0), some (.int v101), some (.int (σ.1 7 1)), some (.int ((σ.1 7 (Int32.toNatClampNeg (4 * v + 1))) - v101))] [] s107
            refine ⟨trivial, ?_⟩
            rintro _ s111 ⟨k110, rfl⟩
            have r112 := r108.tr k110.m
            have i113 := k110.m.2.2 i109
            have rtk110 : s111.1 6 10 = 0 → md_right s111 41 ∨ md_right s111 43 := fun h => ((fun h => (k106.2.2.1 h).2) (by rw [← k110.1 6 (by decide)]; exact h)).imp (md_right_of (fun i _ _ => by rw [k110.1 7 (by decide)])) (md_right_of (fun i _ _ => by rw [k110.1 7 (by decide)]))
            change ev_wp pg_F pg_lay none [] (ev_lu pg_c125) (fun _ => false) _ 1926 153 [some (.ref 6), some (.int l), some (.int z), some (.int d), some (.int v), some (.int (σ.1 8 (Int32.toNatClampNeg (σ.1 6 5)))), some (.int 0), some (.int v101), some (.int (σ.1 7 1)), some (.int ((σ.1 7 (Int32.toNatClampNeg (4 * v + 1))) - v101))] [] s111
            refine ⟨sp_in rfl rfl, ?_⟩
            have r114 := r112.tr (md_upA s111 11 (by decide) (by decide) (Int32.toNatClampNeg 1) ((σ.1 7 (Int32.toNatClampNeg (4 * v + 1))) - v101))
            have i115 := (md_upA s111 11 (by decide) (by decide) (Int32.toNatClampNeg 1) ((σ.1 7 (Int32.toNatClampNeg (4 * v + 1))) - v101)).2.2 i113
            change ev_wp pg_F pg_lay none [] (ev_lu pg_c125) (fun _ => false) _ 1921 161 [some (.ref 6), some (.int l), some (.int z), some (.int d), some (.int v), some (.int (σ.1 8 (Int32.toNatClampNeg (σ.1 6 5)))), some (.int 0), some (.int v101), some (.int (σ.1 7 1)), some (.int ((σ.1 7 (Int32.toNatClampNeg (4 * v + 1))) - v101))] [] (ev_up s111 11 (Int32.toNatClampNeg 1) ((σ.1 7 (Int32.toNatClampNeg (4 * v + 1))) - v101))
            refine ⟨sp_in rfl rfl, ?_⟩
            have r116 := r114.tr (md_upA (ev_up s111 11 (Int32.toNatClampNeg 1) ((σ.1 7 (Int32.toNatClampNeg (4 * v + 1))) - v101)) 11 (by decide) (by decide) (Int32.toNatClampNeg 2) (σ.1 8 (Int32.toNatClampNeg (σ.1 6 5))))
            have i117 := (md_upA (ev_up s111 11 (Int32.toNatClampNeg 1) ((σ.1 7 (Int32.toNatClampNeg (4 * v + 1))) - v101)) 11 (by decide) (by decide) (Int32.toNatClampNeg 2) (σ.1 8 (Int32.toNatClampNeg (σ.1 6 5)))).2.2 i115
            change ev_wp pg_F pg_lay none [] (ev_lu pg_c125) (fun _ => false) _ 1916 169 [some (.ref 6), some (.int l), some (.int z), some (.int d), some (.int v), some (.int (σ.1 8 (Int32.toNatClampNeg (σ.1 6 5)))), some (.int 0), some (.int v101), some (.int (σ.1 7 1)), some (.int ((σ.1 7 (Int32.toNatClampNeg (4 * v + 1))) - v101))] [] (ev_up (ev_up s111 11 (Int32.toNatClampNeg 1) ((σ.1 7 (Int32.toNatClampNeg (4 * v + 1))) - v101)) 11 (Int32.toNatClampNeg 2) (σ.1 8 (Int32.toNatClampNeg (σ.1 6 5))))
            refine ⟨trivial, ?_⟩
            rintro _ _ ⟨v118, k119, rfl, rfl⟩
            change ev_wp pg_F pg_lay none [] (ev_lu pg_c125) (fun _ => false) _ 1908 184 [some (.ref 6), some (.int l), some (.int z), some (.int d), some (.int v), some (.int (σ.1 8 (Int32.toNatClampNeg (σ.1 6 5)))), some (.int 0), some (.int v101), some (.int (σ.1 7 1)), some (.int ((σ.1 7 (Int32.toNatClampNeg (4 * v + 1))) - v101))] [.int v118, .int 3, .ref 11] (ev_up (ev_up s111 11 (Int32.toNatClampNeg 1) ((σ.1 7 (Int32.toNatClampNeg (4 * v + 1))) - v101)) 11 (Int32.toNatClampNeg 2) (σ.1 8 (Int32.toNatClampNeg (σ.1 6 5))))
            refine ⟨sp_in rfl rfl, ?_⟩
            have r120 := r116.tr (md_upA (ev_up (ev_up s111 11 (Int32.toNatClampNeg 1) ((σ.1 7 (Int32.toNatClampNeg (4 * v + 1))) - v101)) 11 (Int32.toNatClampNeg 2) (σ.1 8 (Int32.toNatClampNeg (σ.1 6 5)))) 11 (by decide) (by decide) (Int32.toNatClampNeg 3) v118)
            have i121 := (md_upA (ev_up (ev_up s111 11 (Int32.toNatClampNeg 1) ((σ.1 7 (Int32.toNatClampNeg (4 * v + 1))) - v101)) 11 (Int32.toNatClampNeg 2) (σ.1 8 (Int32.toNatClampNeg (σ.1 6 5)))) 11 (by decide) (by decide) (Int32.toNatClampNeg 3) v118).2.2 i117
            change ev_wp pg_F pg_lay none [] (ev_lu pg_c125) (fun _ => false) _ 1907 185 [some (.ref 6), some (.int l), some (.int z), some (.int d), some (.int v), some (.int (σ.1 8 (Int32.toNatClampNeg (σ.1 6 5)))), some (.int 0), some (.int v101), some (.int (σ.1 7 1)), some (.int ((σ.1 7 (Int32.toNatClampNeg (4 * v + 1))) - v101))] [] (ev_up (ev_up (ev_up s111 11 (Int32.toNatClampNeg 1) ((σ.1 7 (Int32.toNatClampNeg (4 * v + 1))) - v101)) 11 (Int32.toNatClampNeg 2) (σ.1 8 (Int32.toNatClampNeg (σ.1 6 5)))) 11 (Int32.toNatClampNeg 3) v118)
            refine ⟨⟨Or.inl rfl, i121⟩, ?_⟩
            rintro _ s123 ⟨k122, rfl⟩
            have r124 := r120.tr k122.1
            have i125 := k122.1.2.2 i121
            have wk122 : md_tw 5 (ev_up (ev_up (ev_up s111 11 (Int32.toNatClampNeg 1) ((σ.1 7 (Int32.toNatClampNeg (4 * v + 1))) - v101)) 11 (Int32.toNatClampNeg 2) (σ.1 8 (Int32.toNatClampNeg (σ.1 6 5)))) 11 (Int32.toNatClampNeg 3) v118) s123 := k122.2
            have rtk122 : s123.1 6 10 = 0 → md_right s123 41 ∨ md_right s123 43 := fun h => (rtk110 (wk122.2.1 h).1).imp (md_right_of (fun i _ _ => wk122.1 i (by omega))) (md_right_of (fun i _ _ => wk122.1 i (by omega)))
            change ev_wp pg_F pg_lay none [] (ev_lu pg_c125) (fun _ => false) _ 1904 190 [some (.ref 6), some (.int l), some (.int z), some (.int d), some (.int v), some (.int (σ.1 8 (Int32.toNatClampNeg (σ.1 6 5)))), some (.int 0), some (.int v101), some (.int (σ.1 7 1)), some (.int ((σ.1 7 (Int32.toNatClampNeg (4 * v + 1))) - v101))] [] s123
            refine ⟨⟨i125, rtk122⟩, ?_⟩
            rintro _ s128 ⟨v126, k127, rfl⟩
            have r129 := r124.tr k127
            have i130 := k127.2.2 i125
            exact ⟨_, rfl, Nat.le_of_eq (congrArg Prod.snd r129.2.1), _, r129, rfl⟩
          · skip
            change ev_wp pg_F pg_lay none [] (ev_lu pg_c125) (fun _ => false) _ 1953 103 [some (.ref 6), some (.int l), some (.int z), some (.int d), some (.int v), some (.int (σ.1 8 (Int32.toNatClampNeg (σ.1 6 5)))), some (.int 0), some (.int v101), some (.int (σ.1 7 1)), none] [] σ
            refine ⟨trivial, ?_⟩
            rintro _ _ ⟨_, ⟨rfl, rfl⟩, rfl⟩
            have r131 := (md_m.rf σ).tr (md_up6 σ 7 5 (by decide) (by decide))
            have i132 := (md_up6 σ 7 5 (by decide) (by decide)).2.2 hp.1
            exact ⟨_, rfl, Nat.le_of_eq (congrArg Prod.snd r131.2.1), _, r131, rfl⟩
    · skip
      change ev_wp pg_F pg_lay none [] (ev_lu pg_c125) (fun _ => false) _ 1998 5 [some (.ref 6), some (.int l), some (.int z), some (.int d), some (.int v), none, none, none, none, none] [] σ
      refine ⟨trivial, ?_⟩
      rintro _ _ ⟨_, ⟨rfl, rfl⟩, rfl⟩
      have r133 := (md_m.rf σ).tr (md_up6 σ 7 5 (by decide) (by decide))
      have i134 := (md_up6 σ 7 5 (by decide) (by decide)).2.2 hp.1
      exact ⟨_, rfl, Nat.le_of_eq (congrArg Prod.snd r133.2.1), _, r133, rfl⟩
  · cases h
theorem pr_135 : pg_Rn pg_F 135 pg_y135 [] pg_t135 := by
  intro vs σ P h hp
  replace h : pf_135 vs σ = some P := h
  unfold pf_135 at h
  split at h
  · rename_i l z d
    cases h
    refine ⟨by simp [Value.category], Nat.le_of_ble_eq_true rfl, ev_go pg_hhs pg_cd pg_o135 (fun _ => false) 2000 (Q1 := ev_at (ev_tl pg_t135) σ.2.2 (sp_m (md_ok σ) (fun _ σ' => md_m σ σ')).2) ?_ (fun _ _ _ _ h => ev_fin h)⟩
    change ev_wp pg_F pg_lay none [] (ev_lu pg_c135) (fun _ => false) _ 2000 0 [some (.ref 6), some (.int l), some (.int z), some (.int d), none, none, none] [] σ
    refine ⟨trivial, ?_⟩
    rintro _ _ ⟨rfl, rfl⟩
    change ev_wp pg_F pg_lay none [] (ev_lu pg_c135) (fun _ => false) _ 1994 10 [some (.ref 6), some (.int l), some (.int z), some (.int d), none, none, none] [.int (sp_upto l 255), .int 1, .ref 6] σ
    refine ⟨fun (h1 : (sp_upto l 255) = 0) => ?_, fun (h1 : ¬ (sp_upto l 255) = 0) => ?_⟩
    · skip
      change ev_wp pg_F pg_lay none [] (ev_lu pg_c135) (fun _ => false) _ 1993 33 [some (.ref 6), some (.int l), some (.int z), some (.int d), none, none, none] [.int 1, .ref 6] σ
      refine ⟨Or.inr rfl, ?_⟩
      rintro _ _ ⟨_, ⟨rfl, rfl⟩, rfl⟩
      have r2 := (md_m.rf σ).tr (md_up6 σ 0 1 (by decide) (by decide))
      have i3 := (md_up6 σ 0 1 (by decide) (by decide)).2.2 hp
      change ev_wp pg_F pg_lay none [] (ev_lu pg_c135) (fun _ => false) _ 1990 41 [some (.ref 6), some (.int l), some (.int z), some (.int d), none, none, none] [.int 1] (ev_up σ 6 0 1)
      refine ⟨fun h => absurd h (by decide), fun _ => ?_⟩
      change ev_wp pg_F pg_lay none [] (ev_lu pg_c135) (fun _ => false) _ 1989 64 [some (.ref 6), some (.int l), some (.int z), some (.int d), none, none, none] [] (ev_up σ 6 0 1)
      exact ⟨_, rfl, Nat.le_of_eq (congrArg Prod.snd r2.2.1), _, r2, rfl⟩
    · skip
      change ev_wp pg_F pg_lay none [] (ev_lu pg_c135) (fun _ => false) _ 1993 13 [some (.ref 6), some (.int l), some (.int z), some (.int d), none, none, none] [.int 1, .ref 6] σ
      refine ⟨trivial, ?_⟩
      rintro _ _ ⟨rfl, rfl⟩
      change ev_wp pg_F pg_lay none [] (ev_lu pg_c135) (fun _ => false) _ 1989 20 [some (.ref 6), some (.int l), some (.int z), some (.int d), none, none, none] [.int (sp_upto z 15), .int 1, .ref 6] σ
      refine ⟨fun (h4 : (sp_upto z 15) = 0) => ?_, fun (h4 : ¬ (sp_upto z 15) = 0) => ?_⟩
      · skip
        change ev_wp pg_F pg_lay none [] (ev_lu pg_c135) (fun _ => false) _ 1988 33 [some (.ref 6), some (.int l), some (.int z), some (.int d), none, none, none] [.int 1, .ref 6] σ
        refine ⟨Or.inr rfl, ?_⟩
        rintro _ _ ⟨_, ⟨rfl, rfl⟩, rfl⟩
        have r5 := (md_m.rf σ).tr (md_up6 σ 0 1 (by decide) (by decide))
        have i6 := (md_up6 σ 0 1 (by decide) (by decide)).2.2 hp
        change ev_wp pg_F pg_lay none [] (ev_lu pg_c135) (fun _ => false) _ 1985 41 [some (.ref 6), some (.int l), some (.int z), some (.int d), none, none, none] [.int 1] (ev_up σ 6 0 1)
        refine ⟨fun h => absurd h (by decide), fun _ => ?_⟩
        change ev_wp pg_F pg_lay none [] (ev_lu pg_c135) (fun _ => false) _ 1984 64 [some (.ref 6), some (.int l), some (.int z), some (.int d), none, none, none] [] (ev_up σ 6 0 1)
        exact ⟨_, rfl, Nat.le_of_eq (congrArg Prod.snd r5.2.1), _, r5, rfl⟩
      · skip
        change ev_wp pg_F pg_lay none [] (ev_lu pg_c135) (fun _ => false) _ 1988 23 [some (.ref 6), some (.int l), some (.int z), some (.int d), none, none, none] [.int 1, .ref 6] σ
        refine ⟨trivial, ?_⟩
        rintro _ _ ⟨rfl, rfl⟩
        change ev_wp pg_F pg_lay none [] (ev_lu pg_c135) (fun _ => false) _ 1984 30 [some (.ref 6), some (.int l), some (.int z), some (.int d), none, none, none] [.int (sp_upto d 15), .int 1, .ref 6] σ
        refine ⟨fun (h7 : (sp_upto d 15) = 0) => ?_, fun (h7 : ¬ (sp_upto d 15) = 0) => ?_⟩
        · skip
          change ev_wp pg_F pg_lay none [] (ev_lu pg_c135) (fun _ => false) _ 1983 33 [some (.ref 6), some (.int l), some (.int z), some (.int d), none, none, none] [.int 1, .ref 6] σ
          refine ⟨Or.inr rfl, ?_⟩
          rintro _ _ ⟨_, ⟨rfl, rfl⟩, rfl⟩
          have r8 := (md_m.rf σ).tr (md_up6 σ 0 1 (by decide) (by decide))
          have i9 := (md_up6 σ 0 1 (by decide) (by decide)).2.2 hp
          change ev_wp pg_F pg_lay none [] (ev_lu pg_c135) (fun _ => false) _ 1980 41 [some (.ref 6), some (.int l), some (.int z), some (.int d), none, none, none] [.int 1] (ev_up σ 6 0 1)
          refine ⟨fun h => absurd h (by decide), fun _ => ?_⟩
          change ev_wp pg_F pg_lay none [] (ev_lu pg_c135) (fun _ => false) _ 1979 64 [some (.ref 6), some (.int l), some (.int z), some (.int d), none, none, none] [] (ev_up σ 6 0 1)
          exact ⟨_, rfl, Nat.le_of_eq (congrArg Prod.snd r8.2.1), _, r8, rfl⟩
        · skip
          change ev_wp pg_F pg_lay none [] (ev_lu pg_c135) (fun _ => false) _ 1983 37 [some (.ref 6), some (.int l), some (.int z), some (.int d), none, none, none] [.int 1, .ref 6] σ
          refine ⟨Or.inl rfl, ?_⟩
          rintro _ _ ⟨_, ⟨rfl, rfl⟩, rfl⟩
          have r10 := (md_m.rf σ).tr (md_up6 σ 0 0 (by decide) (by decide))
          have i11 := (md_up6 σ 0 0 (by decide) (by decide)).2.2 hp
          change ev_wp pg_F pg_lay none [] (ev_lu pg_c135) (fun _ => false) _ 1981 41 [some (.ref 6), some (.int l), some (.int z), some (.int d), none, none, none] [.int 0] (ev_up σ 6 0 0)
          refine ⟨fun _ => ?_, fun h => absurd (by decide) h⟩
          change ev_wp pg_F pg_lay none [] (ev_lu pg_c135) (fun _ => false) _ 1980 44 [some (.ref 6), some (.int l), some (.int z), some (.int d), none, none, none] [] (ev_up σ 6 0 0)
          refine ⟨fun (h12 : 0 ≤ ((ev_up σ 6 0 0).1 6 5)) => ?_, fun (h12 : ¬ 0 ≤ ((ev_up σ 6 0 0).1 6 5)) => ?_⟩
          · skip
            change ev_wp pg_F pg_lay none [] (ev_lu pg_c135) (fun _ => false) _ 1975 57 [some (.ref 6), some (.int l), some (.int z), some (.int d), none, none, none] [.int 2, .ref 6] (ev_up σ 6 0 0)
            refine ⟨Or.inl rfl, ?_⟩
            rintro _ _ ⟨_, ⟨rfl, rfl⟩, rfl⟩
            have r13 := r10.tr (md_up6 (ev_up σ 6 0 0) 0 0 (by decide) (by decide))
            have i14 := (md_up6 (ev_up σ 6 0 0) 0 0 (by decide) (by decide)).2.2 i11
            change ev_wp pg_F pg_lay none [] (ev_lu pg_c135) (fun _ => false) _ 1973 61 [some (.ref 6), some (.int l), some (.int z), some (.int d), none, none, none] [.int 0] (ev_up (ev_up σ 6 0 0) 6 0 0)
            refine ⟨fun _ => ?_, fun h => absurd (by decide) h⟩
            change ev_wp pg_F pg_lay none [] (ev_lu pg_c135) (fun _ => false) _ 1972 66 [some (.ref 6), some (.int l), some (.int z), some (.int d), none, none, none] [] (ev_up (ev_up σ 6 0 0) 6 0 0)
            refine ⟨(md_gin hp h12), ?_⟩
            change ev_wp pg_F pg_lay none [] (ev_lu pg_c135) (fun _ => false) _ 1967 75 [some (.ref 6), some (.int l), some (.int z), some (.int d), none, none, none] [.int ((ev_up (ev_up σ 6 0 0) 6 0 0).1 10 (Int32.toNatClampNeg ((ev_up (ev_up σ 6 0 0) 6 0 0).1 6 5)))] (ev_up (ev_up σ 6 0 0) 6 0 0)
            refine ⟨fun (h15 : ((ev_up (ev_up σ 6 0 0) 6 0 0).1 10 (Int32.toNatClampNeg ((ev_up (ev_up σ 6 0 0) 6 0 0).1 6 5))) = 0) => ?_, fun (h15 : ¬ ((ev_up (ev_up σ 6 0 0) 6 0 0).1 10 (Int32.toNatClampNeg ((ev_up (ev_up σ 6 0 0) 6 0 0).1 6 5))) = 0) => ?_⟩
            · skip
              change ev_wp pg_F pg_lay none [] (ev_lu pg_c135) (fun _ => false) _ 1966 84 [some (.ref 6), some (.int l), some (.int z), some (.int d), none, none, none] [] (ev_up (ev_up σ 6 0 0) 6 0 0)
              refine ⟨trivial, ?_⟩
              rintro _ _ ⟨rfl, rfl⟩
              change ev_wp pg_F pg_lay none [] (ev_lu pg_c135) (fun _ => false) _ 1964 88 [some (.ref 6), some (.int l), some (.int z), some (.int d), none, none, none] [.int ((ev_up (ev_up σ 6 0 0) 6 0 0).1 7 0)] (ev_up (ev_up σ 6 0 0) 6 0 0)
              refine ⟨fun (h16 : ((ev_up (ev_up σ 6 0 0) 6 0 0).1 7 0) = 0) => ?_, fun (h16 : ¬ ((ev_up (ev_up σ 6 0 0) 6 0 0).1 7 0) = 0) => ?_⟩
              · skip
                change ev_wp pg_F pg_lay none [] (ev_lu pg_c135) (fun _ => false) _ 1963 91 [some (.ref 6), some (.int l), some (.int z), some (.int d), none, none, none] [] (ev_up (ev_up σ 6 0 0) 6 0 0)
                refine ⟨trivial, ?_⟩
                rintro _ _ ⟨_, ⟨rfl, rfl⟩, rfl⟩
                have r17 := r13.tr (md_up6 (ev_up (ev_up σ 6 0 0) 6 0 0) 7 2 (by decide) (by decide))
                have i18 := (md_up6 (ev_up (ev_up σ 6 0 0) 6 0 0) 7 2 (by decide) (by decide)).2.2 i14
                exact ⟨_, rfl, Nat.le_of_eq (congrArg Prod.snd r17.2.1), _, r17, rfl⟩
              · skip
                change ev_wp pg_F pg_lay none [] (ev_lu pg_c135) (fun _ => false) _ 1963 97 [some (.ref 6), some (.int l), some (.int z), some (.int d), none, none, none] [] (ev_up (ev_up σ 6 0 0) 6 0 0)
                have r19 := r13.tr (md_up6 (ev_up (ev_up σ 6 0 0) 6 0 0) 7 0 (by decide) (by decide))
                have i20 := (md_up6 (ev_up (ev_up σ 6 0 0) 6 0 0) 7 0 (by decide) (by decide)).2.2 i14
                refine ⟨trivial, ?_⟩
                rintro _ _ ⟨v21, k22, rfl, rfl⟩
                change ev_wp pg_F pg_lay none [] (ev_lu pg_c135) (fun _ => false) _ 1958 106 [some (.ref 6), some (.int l), some (.int z), some (.int d), none, none, none] [.int v21] (ev_up (ev_up (ev_up σ 6 0 0) 6 0 0) 6 7 0)
                refine ⟨(md_gin hp h12), ?_⟩
                rintro _ _ ⟨v23, k24, rfl, rfl⟩
                change ev_wp pg_F pg_lay none [] (ev_lu pg_c135) (fun _ => false) _ 1955 112 [some (.ref 6), some (.int l), some (.int z), some (.int d), some (.int v21), none, none] [.int v23] (ev_up (ev_up (ev_up σ 6 0 0) 6 0 0) 6 7 0)
                refine ⟨fun (h25 : v21 < 0) => ?_, fun (h25 : ¬ v21 < 0) => ?_⟩
                · skip
                  change ev_wp pg_F pg_lay none [] (ev_lu pg_c135) (fun _ => false) _ 1952 186 [some (.ref 6), some (.int l), some (.int z), some (.int d), some (.int v21), some (.int v23), none] [] (ev_up (ev_up (ev_up σ 6 0 0) 6 0 0) 6 7 0)
                  refine ⟨Or.inl rfl, ?_⟩
                  rintro _ _ ⟨v26, k27, rfl, rfl⟩
                  change ev_wp pg_F pg_lay none [] (ev_lu pg_c135) (fun _ => false) _ 1949 191 [some (.ref 6), some (.int l), some (.int z), some (.int d), some (.int v21), some (.int v23), none] [.int v26] (ev_up (ev_up (ev_up σ 6 0 0) 6 0 0) 6 7 0)
                  refine ⟨trivial, ?_⟩
                  rintro _ _ ⟨rfl, rfl⟩
                  change ev_wp pg_F pg_lay none [] (ev_lu pg_c135) (fun _ => false) _ 1946 197 [some (.ref 6), some (.int l), some (.int z), some (.int d), some (.int v21), some (.int v23), some (.int v26)] [.int ((ev_up (ev_up (ev_up σ 6 0 0) 6 0 0) 6 7 0).1 7 0)] (ev_up (ev_up (ev_up σ 6 0 0) 6 0 0) 6 7 0)
                  refine ⟨fun (h28 : ((ev_up (ev_up (ev_up σ 6 0 0) 6 0 0) 6 7 0).1 7 0) = 2) => ?_, fun (h28 : ¬ ((ev_up (ev_up (ev_up σ 6 0 0) 6 0 0) 6 7 0).1 7 0) = 2) => ?_⟩
                  · skip
                    change ev_wp pg_F pg_lay none [] (ev_lu pg_c135) (fun _ => false) _ 1944 310 [some (.ref 6), some (.int l), some (.int z), some (.int d), some (.int v21), some (.int v23), some (.int v26)] [] (ev_up (ev_up (ev_up σ 6 0 0) 6 0 0) 6 7 0)
                    refine ⟨trivial, ?_⟩
                    rintro _ _ ⟨rfl, rfl⟩
                    change ev_wp pg_F pg_lay none [] (ev_lu pg_c135) (fun _ => false) _ 1942 314 [some (.ref 6), some (.int l), some (.int z), some (.int d), some (.int v21), some (.int v23), some (.int v26)] [.int ((ev_up (ev_up (ev_up σ 6 0 0) 6 0 0) 6 7 0).1 7 0)] (ev_up (ev_up (ev_up σ 6 0 0) 6 0 0) 6 7 0)
                    refine ⟨fun (h29 : ((ev_up (ev_up (ev_up σ 6 0 0) 6 0 0) 6 7 0).1 7 0) = 2) => ?_, fun (h29 : ¬ ((ev_up (ev_up (ev_up σ 6 0 0) 6 0 0) 6 7 0).1 7 0) = 2) => ?_⟩
                    · skip
                      change ev_wp pg_F pg_lay none [] (ev_lu pg_c135) (fun _ => false) _ 1940 318 [some (.ref 6), some (.int l), some (.int z), some (.int d), some (.int v21), some (.int v23), some (.int v26)] [] (ev_up (ev_up (ev_up σ 6 0 0) 6 0 0) 6 7 0)
                      refine ⟨⟨i20, (md_gin hp h12)⟩, ?_⟩
                      rintro _ s32 ⟨v30, k31, rfl⟩
                      have r33 := r19.tr k31
                      have i34 := k31.2.2 i20
                      exact ⟨_, rfl, Nat.le_of_eq (congrArg Prod.snd r33.2.1), _, r33, rfl⟩
                    · skip
                      change ev_wp pg_F pg_lay none [] (ev_lu pg_c135) (fun _ => false) _ 1940 326 [some (.ref 6), some (.int l), some (.int z), some (.int d), some (.int v21), some (.int v23), some (.int v26)] [] (ev_up (ev_up (ev_up σ 6 0 0) 6 0 0) 6 7 0)
                      refine ⟨trivial, ?_⟩
                      rintro _ _ ⟨rfl, rfl⟩
                      change ev_wp pg_F pg_lay none [] (ev_lu pg_c135) (fun _ => false) _ 1938 330 [some (.ref 6), some (.int l), some (.int z), some (.int d), some (.int v21), some (.int v23), some (.int v26)] [.int ((ev_up (ev_up (ev_up σ 6 0 0) 6 0 0) 6 7 0).1 7 0)] (ev_up (ev_up (ev_up σ 6 0 0) 6 0 0) 6 7 0)
                      refine ⟨fun (h35 : ((ev_up (ev_up (ev_up σ 6 0 0) 6 0 0) 6 7 0).1 7 0) = 1) => ?_, fun (h35 : ¬ ((ev_up (ev_up (ev_up σ 6 0 0) 6 0 0) 6 7 0).1 7 0) = 1) => ?_⟩
                      · skip
                        change ev_wp pg_F pg_lay none [] (ev_lu pg_c135) (fun _ => false) _ 1936 334 [some (.ref 6), some (.int l), some (.int z), some (.int d), some (.int v21), some (.int v23), some (.int v26)] [] (ev_up (ev_up (ev_up σ 6 0 0) 6 0 0) 6 7 0)
                        refine ⟨⟨i20, (md_gin hp h12), h35⟩, ?_⟩
                        rintro _ s38 ⟨v36, k37, rfl⟩
                        have r39 := r19.tr k37
                        have i40 := k37.2.2 i20
                        change ev_wp pg_F pg_lay none [] (ev_lu pg_c135) (fun _ => false) _ 1931 341 [some (.ref 6), some (.int l), some (.int z), some (.int d), some (.int v21), some (.int v23), some (.int v26)] [.int v36] s38
                        exact ⟨_, rfl, Nat.le_of_eq (congrArg Prod.snd r39.2.1), _, r39, rfl⟩
                      · skip
                        change ev_wp pg_F pg_lay none [] (ev_lu pg_c135) (fun _ => false) _ 1936 344 [some (.ref 6), some (.int l), some (.int z), some (.int d), some (.int v21), some (.int v23), some (.int v26)] [] (ev_up (ev_up (ev_up σ 6 0 0) 6 0 0) 6 7 0)
                        refine ⟨⟨i20, (md_gin hp h12), k27.1⟩, ?_⟩
                        rintro _ s43 ⟨v41, k42, rfl⟩
                        have r44 := r19.tr k42
                        have i45 := k42.2.2 i20
                        exact ⟨_, rfl, Nat.le_of_eq (congrArg Prod.snd r44.2.1), _, r44, rfl⟩
                  · skip
                    change ev_wp pg_F pg_lay none [] (ev_lu pg_c135) (fun _ => false) _ 1944 201 [some (.ref 6), some (.int l), some (.int z), some (.int d), some (.int v21), some (.int v23), some (.int v26)] [] (ev_up (ev_up (ev_up σ 6 0 0) 6 0 0) 6 7 0)
                    refine ⟨fun (h46 : v21 < 0) => ?_, fun (h46 : ¬ v21 < 0) => ?_⟩
                    · skip
                      change ev_wp pg_F pg_lay none [] (ev_lu pg_c135) (fun _ => false) _ 1942 310 [some (.ref 6), some (.int l), some (.int z), some (.int d), some (.int v21), some (.int v23), some (.int v26)] [] (ev_up (ev_up (ev_up σ 6 0 0) 6 0 0) 6 7 0)
                      refine ⟨trivial, ?_⟩
                      rintro _ _ ⟨rfl, rfl⟩
                      change ev_wp pg_F pg_lay none [] (ev_lu pg_c135) (fun _ => false) _ 1940 314 [some (.ref 6), some (.int l), some (.int z), some (.int d), some (.int v21), some (.int v23), some (.int v26)] [.int ((ev_up (ev_up (ev_up σ 6 0 0) 6 0 0) 6 7 0).1 7 0)] (ev_up (ev_up (ev_up σ 6 0 0) 6 0 0) 6 7 0)
                      refine ⟨fun (h47 : ((ev_up (ev_up (ev_up σ 6 0 0) 6 0 0) 6 7 0).1 7 0) = 2) => ?_, fun (h47 : ¬ ((ev_up (ev_up (ev_up σ 6 0 0) 6 0 0) 6 7 0).1 7 0) = 2) => ?_⟩
                      · skip
                        change ev_wp pg_F pg_lay none [] (ev_lu pg_c135) (fun _ => false) _ 1938 318 [some (.ref 6), some (.int l), some (.int z), some (.int d), some (.int v21), some (.int v23), some (.int v26)] [] (ev_up (ev_up (ev_up σ 6 0 0) 6 0 0) 6 7 0)
                        refine ⟨⟨i20, (md_gin hp h12)⟩, ?_⟩
                        rintro _ s50 ⟨v48, k49, rfl⟩
                        have r51 := r19.tr k49
                        have i52 := k49.2.2 i20
                        exact ⟨_, rfl, Nat.le_of_eq (congrArg Prod.snd r51.2.1), _, r51, rfl⟩
                      · skip
                        change ev_wp pg_F pg_lay none [] (ev_lu pg_c135) (fun _ => false) _ 1938 326 [some (.ref 6), some (.int l), some (.int z), some (.int d), some (.int v21), some (.int v23), some (.int v26)] [] (ev_up (ev_up (ev_up σ 6 0 0) 6 0 0) 6 7 0)
                        refine ⟨trivial, ?_⟩
                        rintro _ _ ⟨rfl, rfl⟩
                        change ev_wp pg_F pg_lay none [] (ev_lu pg_c135) (fun _ => false) _ 1936 330 [some (.ref 6), some (.int l), some (.int z), some (.int d), some (.int v21), some (.int v23), some (.int v26)] [.int ((ev_up (ev_up (ev_up σ 6 0 0) 6 0 0) 6 7 0).1 7 0)] (ev_up (ev_up (ev_up σ 6 0 0) 6 0 0) 6 7 0)
                        refine ⟨fun (h53 : ((ev_up (ev_up (ev_up σ 6 0 0) 6 0 0) 6 7 0).1 7 0) = 1) => ?_, fun (h53 : ¬ ((ev_up (ev_up (ev_up σ 6 0 0) 6 0 0) 6 7 0).1 7 0) = 1) => ?_⟩
                        · skip
                          change ev_wp pg_F pg_lay none [] (ev_lu pg_c135) (fun _ => false) _ 1934 334 [some (.ref 6), some (.int l), some (.int z), some (.int d), some (.int v21), some (.int v23), some (.int v26)] [] (ev_up (ev_up (ev_up σ 6 0 0) 6 0 0) 6 7 0)
                          refine ⟨⟨i20, (md_gin hp h12), h53⟩, ?_⟩
                          rintro _ s56 ⟨v54, k55, rfl⟩
                          have r57 := r19.tr k55
                          have i58 := k55.2.2 i20
                          change ev_wp pg_F pg_lay none [] (ev_lu pg_c135) (fun _ => false) _ 1929 341 [some (.ref 6), some (.int l), some (.int z), some (.int d), some (.int v21), some (.int v23), some (.int v26)] [.int v54] s56
                          exact ⟨_, rfl, Nat.le_of_eq (congrArg Prod.snd r57.2.1), _, r57, rfl⟩
                        · skip
                          change ev_wp pg_F pg_lay none [] (ev_lu pg_c135) (fun _ => false) _ 1934 344 [some (.ref 6), some (.int l), some (.int z), some (.int d), some (.int v21), some (.int v23), some (.int v26)] [] (ev_up (ev_up (ev_up σ 6 0 0) 6 0 0) 6 7 0)
                          refine ⟨⟨i20, (md_gin hp h12), k27.1⟩, ?_⟩
                          rintro _ s61 ⟨v59, k60, rfl⟩
                          have r62 := r19.tr k60
                          have i63 := k60.2.2 i20
                          exact ⟨_, rfl, Nat.le_of_eq (congrArg Prod.snd r62.2.1), _, r62, rfl⟩
                    · skip
                      change ev_wp pg_F pg_lay none [] (ev_lu pg_c135) (fun _ => false) _ 1942 206 [some (.ref 6), some (.int l), some (.int z), some (.int d), some (.int v21), some (.int v23), some (.int v26)] [] (ev_up (ev_up (ev_up σ 6 0 0) 6 0 0) 6 7 0)
                      refine ⟨(md_l41 k22 h46), ?_⟩
                      rintro _ _ ⟨v64, k65, rfl, rfl⟩
                      change ev_wp pg_F pg_lay none [] (ev_lu pg_c135) (fun _ => false) _ 1939 212 [some (.ref 6), some (.int l), some (.int z), some (.int d), some (.int v21), some (.int v23), some (.int v26)] [.int v64] (ev_up (ev_up (ev_up σ 6 0 0) 6 0 0) 6 7 0)
                      refine ⟨trivial, ?_⟩
                      rintro _ _ ⟨v66, k67, rfl, rfl⟩
                      change ev_wp pg_F pg_lay none [] (ev_lu pg_c135) (fun _ => false) _ 1936 219 [some (.ref 6), some (.int l), some (.int z), some (.int d), some (.int v21), some (.int v23), some (.int v26)] [.int v66] (ev_up (ev_up (ev_up σ 6 0 0) 6 0 0) 6 7 0)
                      refine ⟨fun (h68 : v66 = 0) => ?_, fun (h68 : ¬ v66 = 0) => ?_⟩
                      · skip
                        change ev_wp pg_F pg_lay none [] (ev_lu pg_c135) (fun _ => false) _ 1935 310 [some (.ref 6), some (.int l), some (.int z), some (.int d), some (.int v21), some (.int v23), some (.int v26)] [] (ev_up (ev_up (ev_up σ 6 0 0) 6 0 0) 6 7 0)
                        refine ⟨trivial, ?_⟩
                        rintro _ _ ⟨rfl, rfl⟩
                        change ev_wp pg_F pg_lay none [] (ev_lu pg_c135) (fun _ => false) _ 1933 314 [some (.ref 6), some (.int l), some (.int z), some (.int d), some (.int v21), some (.int v23), some (.int v26)] [.int ((ev_up (ev_up (ev_up σ 6 0 0) 6 0 0) 6 7 0).1 7 0)] (ev_up (ev_up (ev_up σ 6 0 0) 6 0 0) 6 7 0)
                        refine ⟨fun (h69 : ((ev_up (ev_up (ev_up σ 6 0 0) 6 0 0) 6 7 0).1 7 0) = 2) => ?_, fun (h69 : ¬ ((ev_up (ev_up (ev_up σ 6 0 0) 6 0 0) 6 7 0).1 7 0) = 2) => ?_⟩
                        · skip
                          change ev_wp pg_F pg_lay none [] (ev_lu pg_c135) (fun _ => false) _ 1931 318 [some (.ref 6), some (.int l), some (.int z), some (.int d), some (.int v21), some (.int v23), some (.int v26)] [] (ev_up (ev_up (ev_up σ 6 0 0) 6 0 0) 6 7 0)
                          refine ⟨⟨i20, (md_gin hp h12)⟩, ?_⟩
                          rintro _ s72 ⟨v70, k71, rfl⟩
                          have r73 := r19.tr k71
                          have i74 := k71.2.2 i20
                          exact ⟨_, rfl, Nat.le_of_eq (congrArg Prod.snd r73.2.1), _, r73, rfl⟩
                        · skip
                          change ev_wp pg_F pg_lay none [] (ev_lu pg_c135) (fun _ => false) _ 1931 326 [some (.ref 6), some (.int l), some (.int z), some (.int d), some (.int v21), some (.int v23), some (.int v26)] [] (ev_up (ev_up (ev_up σ 6 0 0) 6 0 0) 6 7 0)
                          refine ⟨trivial, ?_⟩
                          rintro _ _ ⟨rfl, rfl⟩
                          change ev_wp pg_F pg_lay none [] (ev_lu pg_c135) (fun _ => false) _ 1929 330 [some (.ref 6), some (.int l), some (.int z), some (.int d), some (.int v21), some (.int v23), some (.int v26)] [.int ((ev_up (ev_up (ev_up σ 6 0 0) 6 0 0) 6 7 0).1 7 0)] (ev_up (ev_up (ev_up σ 6 0 0) 6 0 0) 6 7 0)
                          refine ⟨fun (h75 : ((ev_up (ev_up (ev_up σ 6 0 0) 6 0 0) 6 7 0).1 7 0) = 1) => ?_, fun (h75 : ¬ ((ev_up (ev_up (ev_up σ 6 0 0) 6 0 0) 6 7 0).1 7 0) = 1) => ?_⟩
                          · skip
                            change ev_wp pg_F pg_lay none [] (ev_lu pg_c135) (fun _ => false) _ 1927 334 [some (.ref 6), some (.int l), some (.int z), some (.int d), some (.int v21), some (.int v23), some (.int v26)] [] (ev_up (ev_up (ev_up σ 6 0 0) 6 0 0) 6 7 0)
                            refine ⟨⟨i20, (md_gin hp h12), h75⟩, ?_⟩
                            rintro _ s78 ⟨v76, k77, rfl⟩
                            have r79 := r19.tr k77
                            have i80 := k77.2.2 i20
                            change ev_wp pg_F pg_lay none [] (ev_lu pg_c135) (fun _ => false) _ 1922 341 [some (.ref 6), some (.int l), some (.int z), some (.int d), some (.int v21), some (.int v23), some (.int v26)] [.int v76] s78
                            exact ⟨_, rfl, Nat.le_of_eq (congrArg Prod.snd r79.2.1), _, r79, rfl⟩
                          · skip
                            change ev_wp pg_F pg_lay none [] (ev_lu pg_c135) (fun _ => false) _ 1927 344 [some (.ref 6), some (.int l), some (.int z), some (.int d), some (.int v21), some (.int v23), some (.int v26)] [] (ev_up (ev_up (ev_up σ 6 0 0) 6 0 0) 6 7 0)
                            refine ⟨⟨i20, (md_gin hp h12), k27.1⟩, ?_⟩
                            rintro _ s83 ⟨v81, k82, rfl⟩
                            have r84 := r19.tr k82
                            have i85 := k82.2.2 i20
                            exact ⟨_, rfl, Nat.le_of_eq (congrArg Prod.snd r84.2.1), _, r84, rfl⟩
                      · skip
                        change ev_wp pg_F pg_lay none [] (ev_lu pg_c135) (fun _ => false) _ 1935 222 [some (.ref 6), some (.int l), some (.int z), some (.int d), some (.int v21), some (.int v23), some (.int v26)] [] (ev_up (ev_up (ev_up σ 6 0 0) 6 0 0) 6 7 0)
                        refine ⟨md_vp (md_j4 (md_l41 k22 h46)) 4 (by decide) rfl, ?_⟩
                        rintro _ _ ⟨rfl, rfl⟩
                        change ev_wp pg_F pg_lay none [] (ev_lu pg_c135) (fun _ => false) _ 1931 229 [some (.ref 6), some (.int l), some (.int z), some (.int d), some (.int v21), some (.int v23), some (.int v26)] [.int ((ev_up (ev_up (ev_up σ 6 0 0) 6 0 0) 6 7 0).1 7 (Int32.toNatClampNeg (4 * v21 + 4)))] (ev_up (ev_up (ev_up σ 6 0 0) 6 0 0) 6 7 0)
                        refine ⟨fun (h86 : (((ev_up (ev_up (ev_up σ 6 0 0) 6 0 0) 6 7 0).1 7 (Int32.toNatClampNeg (4 * v21 + 4))) &&& 15) = d) => ?_, fun (h86 : ¬ (((ev_up (ev_up (ev_up σ 6 0 0) 6 0 0) 6 7 0).1 7 (Int32.toNatClampNeg (4 * v21 + 4))) &&& 15) = d) => ?_⟩
                        · skip
                          change ev_wp pg_F pg_lay none [] (ev_lu pg_c135) (fun _ => false) _ 1927 236 [some (.ref 6), some (.int l), some (.int z), some (.int d), some (.int v21), some (.int v23), some (.int v26)] [] (ev_up (ev_up (ev_up σ 6 0 0) 6 0 0) 6 7 0)
                          refine ⟨(md_l41 k22 h46), ?_⟩
                          rintro _ _ ⟨v87, k88, rfl, rfl⟩
                          change ev_wp pg_F pg_lay none [] (ev_lu pg_c135) (fun _ => false) _ 1924 242 [some (.ref 6), some (.int l), some (.int z), some (.int d), some (.int v21), some (.int v23), some (.int v26)] [.int v87] (ev_up (ev_up (ev_up σ 6 0 0) 6 0 0) 6 7 0)
                          refine ⟨fun (h89 : 2 ≤ v87) => ?_, fun (h89 : ¬ 2 ≤ v87) => ?_⟩
                          · skip
                            change ev_wp pg_F pg_lay none [] (ev_lu pg_c135) (fun _ => false) _ 1922 310 [some (.ref 6), some (.int l), some (.int z), some (.int d), some (.int v21), some (.int v23), some (.int v26)] [] (ev_up (ev_up (ev_up σ 6 0 0) 6 0 0) 6 7 0)
                            refine ⟨trivial, ?_⟩
                            rintro _ _ ⟨rfl, rfl⟩
                            change ev_wp pg_F pg_lay none [] (ev_lu pg_c135) (fun _ => false) _ 1920 314 [some (.ref 6), some (.int l), some (.int z), some (.int d), some (.int v21), some (.int v23), some (.int v26)] [.int ((ev_up (ev_up (ev_up σ 6 0 0) 6 0 0) 6 7 0).1 7 0)] (ev_up (ev_up (ev_up σ 6 0 0) 6 0 0) 6 7 0)
                            refine ⟨fun (h90 : ((ev_up (ev_up (ev_up σ 6 0 0) 6 0 0) 6 7 0).1 7 0) = 2) => ?_, fun (h90 : ¬ ((ev_up (ev_up (ev_up σ 6 0 0) 6 0 0) 6 7 0).1 7 0) = 2) => ?_⟩
                            · skip
                              change ev_wp pg_F pg_lay none [] (ev_lu pg_c135) (fun _ => false) _ 1918 318 [some (.ref 6), some (.int l), some (.int z), some (.int d), some (.int v21), some (.int v23), some (.int v26)] [] (ev_up (ev_up (ev_up σ 6 0 0) 6 0 0) 6 7 0)
                              refine ⟨⟨i20, (md_gin hp h12)⟩, ?_⟩
                              rintro _ s93 ⟨v91, k92, rfl⟩
                              have r94 := r19.tr k92
                              have i95 := k92.2.2 i20
                              exact ⟨_, rfl, Nat.le_of_eq (congrArg Prod.snd r94.2.1), _, r94, rfl⟩
                            · skip
                              change ev_wp pg_F pg_lay none [] (ev_lu pg_c135) (fun _ => false) _ 1918 326 [some (.ref 6), some (.int l), some (.int z), some (.int d), some (.int v21), some (.int v23), some (.int v26)] [] (ev_up (ev_up (ev_up σ 6 0 0) 6 0 0) 6 7 0)
                              refine ⟨trivial, ?_⟩
                              rintro _ _ ⟨rfl, rfl⟩
                              change ev_wp pg_F pg_lay none [] (ev_lu pg_c135) (fun _ => false) _ 1916 330 [some (.ref 6), some (.int l), some (.int z), some (.int d), some (.int v21), some (.int v23), some (.int v26)] [.int ((ev_up (ev_up (ev_up σ 6 0 0) 6 0 0) 6 7 0).1 7 0)] (ev_up (ev_up (ev_up σ 6 0 0) 6 0 0) 6 7 0)
                              refine ⟨fun (h96 : ((ev_up (ev_up (ev_up σ 6 0 0) 6 0 0) 6 7 0).1 7 0) = 1) => ?_, fun (h96 : ¬ ((ev_up (ev_up (ev_up σ 6 0 0) 6 0 0) 6 7 0).1 7 0) = 1) => ?_⟩
                              · skip
                                change ev_wp pg_F pg_lay none [] (ev_lu pg_c135) (fun _ => false) _ 1914 334 [some (.ref 6), some (.int l), some (.int z), some (.int d), some (.int v21), some (.int v23), some (.int v26)] [] (ev_up (ev_up (ev_up σ 6 0 0) 6 0 0) 6 7 0)
                                refine ⟨⟨i20, (md_gin hp h12), h96⟩, ?_⟩
                                rintro _ s99 ⟨v97, k98, rfl⟩
                                have r100 := r19.tr k98
                                have i101 := k98.2.2 i20
                                change ev_wp pg_F pg_lay none [] (ev_lu pg_c135) (fun _ => false) _ 1909 341 [some (.ref 6), some (.int l), some (.int z), some (.int d), some (.int v21), some (.int v23), some (.int v26)] [.int v97] s99
                                exact ⟨_, rfl, Nat.le_of_eq (congrArg Prod.snd r100.2.1), _, r100, rfl⟩
                              · skip
                                change ev_wp pg_F pg_lay none [] (ev_lu pg_c135) (fun _ => false) _ 1914 344 [some (.ref 6), some (.int l), some (.int z), some (.int d), some (.int v21), some (.int v23), some (.int v26)] [] (ev_up (ev_up (ev_up σ 6 0 0) 6 0 0) 6 7 0)
                                refine ⟨⟨i20, (md_gin hp h12), k27.1⟩, ?_⟩
                                rintro _ s104 ⟨v102, k103, rfl⟩
                                have r105 := r19.tr k103
                                have i106 := k103.2.2 i20
                                exact ⟨_, rfl, Nat.le_of_eq (congrArg Prod.snd r105.2.1), _, r105, rfl⟩
                          · skip
                            change ev_wp pg_F pg_lay none [] (ev_lu pg_c135) (fun _ => false) _ 1922 246 [some (.ref 6), some (.int l), some (.int z), some (.int d), some (.int v21), some (.int v23), some (.int v26)] [] (ev_up (ev_up (ev_up σ 6 0 0) 6 0 0) 6 7 0)
                            refine ⟨(md_l41 k22 h46), ?_⟩
                            rintro _ _ ⟨v107, k108, rfl, rfl⟩
                            change ev_wp pg_F pg_lay none [] (ev_lu pg_c135) (fun _ => false) _ 1914 257 [some (.ref 6), some (.int l), some (.int z), some (.int d), some (.int v21), some (.int v23), some (.int v26)] [.int v107, .int 1, .int d, .int z, .int l, .ref 6] (ev_up (ev_up (ev_up σ 6 0 0) 6 0 0) 6 7 0)
                            refine ⟨(md_l41 k22 h46), ?_⟩
                            rintro _ _ ⟨v109, k110, rfl, rfl⟩
                            change ev_wp pg_F pg_lay none [] (ev_lu pg_c135) (fun _ => false) _ 1911 263 [some (.ref 6), some (.int l), some (.int z), some (.int d), some (.int v21), some (.int v23), some (.int v26)] [.int v109, .int v107, .int 1, .int d, .int z, .int l, .ref 6] (ev_up (ev_up (ev_up σ 6 0 0) 6 0 0) 6 7 0)
                            refine ⟨trivial, ?_⟩
                            rintro _ _ ⟨rfl, rfl⟩
                            change ev_wp pg_F pg_lay none [] (ev_lu pg_c135) (fun _ => false) _ 1907 269 [some (.ref 6), some (.int l), some (.int z), some (.int d), some (.int v21), some (.int v23), some (.int v26)] [.int ((ev_up (ev_up (ev_up σ 6 0 0) 6 0 0) 6 7 0).1 7 0), .int (v109 + 1), .int v107, .int 1, .int d, .int z, .int l, .ref 6] (ev_up (ev_up (ev_up σ 6 0 0) 6 0 0) 6 7 0)
                            refine ⟨fun (h111 : ((ev_up (ev_up (ev_up σ 6 0 0) 6 0 0) 6 7 0).1 7 0) = 1) => ?_, fun (h111 : ¬ ((ev_up (ev_up (ev_up σ 6 0 0) 6 0 0) 6 7 0).1 7 0) = 1) => ?_⟩
                            · skip
                              change ev_wp pg_F pg_lay none [] (ev_lu pg_c135) (fun _ => false) _ 1905 273 [some (.ref 6), some (.int l), some (.int z), some (.int d), some (.int v21), some (.int v23), some (.int v26)] [.int (v109 + 1), .int v107, .int 1, .int d, .int z, .int l, .ref 6] (ev_up (ev_up (ev_up σ 6 0 0) 6 0 0) 6 7 0)
                              refine ⟨trivial, ?_⟩
                              rintro _ _ ⟨rfl, rfl⟩
                              change ev_wp pg_F pg_lay none [] (ev_lu pg_c135) (fun _ => false) _ 1903 277 [some (.ref 6), some (.int l), some (.int z), some (.int d), some (.int v21), some (.int v23), some (.int v26)] [.int (md_cnt (ev_up (ev_up (ev_up σ 6 0 0) 6 0 0) 6 7 0) 64), .int (v109 + 1), .int v107, .int 1, .int d, .int z, .int l, .ref 6] (ev_up (ev_up (ev_up σ 6 0 0) 6 0 0) 6 7 0)
                              refine ⟨⟨i20, (md_gin hp h12)⟩, ?_⟩
                              rintro _ s113 ⟨k112, rfl⟩
                              have r114 := r19.tr k112.1
                              have i115 := k112.1.2.2 i20
                              change ev_wp pg_F pg_lay none [] (ev_lu pg_c135) (fun _ => false) _ 1900 304 [some (.ref 6), some (.int l), some (.int z), some (.int d), some (.int v21), some (.int v23), some (.int v26)] [] s113
                              refine ⟨⟨i115, (fun h => (k112.2.2.1 h).2)⟩, ?_⟩
                              rintro _ s118 ⟨v116, k117, rfl⟩
                              have r119 := r114.tr k117
                              have i120 := k117.2.2 i115
                              exact ⟨_, rfl, Nat.le_of_eq (congrArg Prod.snd r119.2.1), _, r119, rfl⟩
                            · skip
                              change ev_wp pg_F pg_lay none [] (ev_lu pg_c135) (fun _ => false) _ 1905 280 [some (.ref 6), some (.int l), some (.int z), some (.int d), some (.int v21), some (.int v23), some (.int v26)] [.int (v109 + 1), .int v107, .int 1, .int d, .int z, .int l, .ref 6] (ev_up (ev_up (ev_up σ 6 0 0) 6 0 0) 6 7 0)
                              refine ⟨fun (h121 : 0 ≤ v26) => ?_, fun (h121 : ¬ 0 ≤ v26) => ?_⟩
                              · skip
                                change ev_wp pg_F pg_lay none [] (ev_lu pg_c135) (fun _ => false) _ 1903 289 [some (.ref 6), some (.int l), some (.int z), some (.int d), some (.int v21), some (.int v23), some (.int v26)] [.int (v109 + 1), .int v107, .int 1, .int d, .int z, .int l, .ref 6] (ev_up (ev_up (ev_up σ 6 0 0) 6 0 0) 6 7 0)
                                refine ⟨md_vp (md_j5 (md_l5 k27.1 (md_nlt h121))) 0 (by decide) rfl, ?_⟩
                                rintro _ _ ⟨rfl, rfl⟩
                                change ev_wp pg_F pg_lay none [] (ev_lu pg_c135) (fun _ => false) _ 1899 296 [some (.ref 6), some (.int l), some (.int z), some (.int d), some (.int v21), some (.int v23), some (.int v26)] [.int ((ev_up (ev_up (ev_up σ 6 0 0) 6 0 0) 6 7 0).1 7 (Int32.toNatClampNeg (4 * v26 + 0))), .int (v109 + 1), .int v107, .int 1, .int d, .int z, .int l, .ref 6] (ev_up (ev_up (ev_up σ 6 0 0) 6 0 0) 6 7 0)
                                refine ⟨⟨i20, (md_gin hp h12)⟩, ?_⟩
                                rintro _ s123 ⟨k122, rfl⟩
                                have r124 := r19.tr k122.1
                                have i125 := k122.1.2.2 i20
                                change ev_wp pg_F pg_lay none [] (ev_lu pg_c135) (fun _ => false) _ 1895 304 [some (.ref 6), some (.int l), some (.int z), some (.int d), some (.int v21), some (.int v23), some (.int v26)] [] s123
                                refine ⟨⟨i125, (fun h => (k122.2.2.1 h).2)⟩, ?_⟩
                                rintro _ s128 ⟨v126, k127, rfl⟩
                                have r129 := r124.tr k127
                                have i130 := k127.2.2 i125
                                exact ⟨_, rfl, Nat.le_of_eq (congrArg Prod.snd r129.2.1), _, r129, rfl⟩
                              · skip
                                change ev_wp pg_F pg_lay none [] (ev_lu pg_c135) (fun _ => false) _ 1903 285 [some (.ref 6), some (.int l), some (.int z), some (.int d), some (.int v21), some (.int v23), some (.int v26)] [.int (v109 + 1), .int v107, .int 1, .int d, .int z, .int l, .ref 6] (ev_up (ev_up (ev_up σ 6 0 0) 6 0 0) 6 7 0)
                                refine ⟨⟨i20, (md_gin hp h12)⟩, ?_⟩
                                rintro _ s132 ⟨k131, rfl⟩
                                have r133 := r19.tr k131.1
                                have i134 := k131.1.2.2 i20
                                change ev_wp pg_F pg_lay none [] (ev_lu pg_c135) (fun _ => false) _ 1899 304 [some (.ref 6), some (.int l), some (.int z), some (.int d), some (.int v21), some (.int v23), some (.int v26)] [] s132
                                refine ⟨⟨i134, (fun h => (k131.2.2.1 h).2)⟩, ?_⟩
                                rintro _ s137 ⟨v135, k136, rfl⟩
                                have r138 := r133.tr k136
                                have i139 := k136.2.2 i134
                                exact ⟨_, rfl, Nat.le_of_eq (congrArg Prod.snd r138.2.1), _, r138, rfl⟩
                        · skip
                          change ev_wp pg_F pg_lay none [] (ev_lu pg_c135) (fun _ => false) _ 1927 310 [some (.ref 6), some (.int l), some (.int z), some (.int d), some (.int v21), some (.int v23), some (.int v26)] [] (ev_up (ev_up (ev_up σ 6 0 0) 6 0 0) 6 7 0)
                          refine ⟨trivial, ?_⟩
                          rintro _ _ ⟨rfl, rfl⟩
                          change ev_wp pg_F pg_lay none [] (ev_lu pg_c135) (fun _ => false) _ 1925 314 [some (.ref 6), some (.int l), some (.int z), some (.int d), some (.int v21), some (.int v23), some (.int v26)] [.int ((ev_up (ev_up (ev_up σ 6 0 0) 6 0 0) 6 7 0).1 7 0)] (ev_up (ev_up (ev_up σ 6 0 0) 6 0 0) 6 7 0)
                          refine ⟨fun (h140 : ((ev_up (ev_up (ev_up σ 6 0 0) 6 0 0) 6 7 0).1 7 0) = 2) => ?_, fun (h140 : ¬ ((ev_up (ev_up (ev_up σ 6 0 0) 6 0 0) 6 7 0).1 7 0) = 2) => ?_⟩
                          · skip
                            change ev_wp pg_F pg_lay none [] (ev_lu pg_c135) (fun _ => false) _ 1923 318 [some (.ref 6), some (.int l), some (.int z), some (.int d), some (.int v21), some (.int v23), some (.int v26)] [] (ev_up (ev_up (ev_up σ 6 0 0) 6 0 0) 6 7 0)
                            refine ⟨⟨i20, (md_gin hp h12)⟩, ?_⟩
                            rintro _ s143 ⟨v141, k142, rfl⟩
                            have r144 := r19.tr k142
                            have i145 := k142.2.2 i20
                            exact ⟨_, rfl, Nat.le_of_eq (congrArg Prod.snd r144.2.1), _, r144, rfl⟩
                          · skip
                            change ev_wp pg_F pg_lay none [] (ev_lu pg_c135) (fun _ => false) _ 1923 326 [some (.ref 6), some (.int l), some (.int z), some (.int d), some (.int v21), some (.int v23), some (.int v26)] [] (ev_up (ev_up (ev_up σ 6 0 0) 6 0 0) 6 7 0)
                            refine ⟨trivial, ?_⟩
                            rintro _ _ ⟨rfl, rfl⟩
                            change ev_wp pg_F pg_lay none [] (ev_lu pg_c135) (fun _ => false) _ 1921 330 [some (.ref 6), some (.int l), some (.int z), some (.int d), some (.int v21), some (.int v23), some (.int v26)] [.int ((ev_up (ev_up (ev_up σ 6 0 0) 6 0 0) 6 7 0).1 7 0)] (ev_up (ev_up (ev_up σ 6 0 0) 6 0 0) 6 7 0)
                            refine ⟨fun (h146 : ((ev_up (ev_up (ev_up σ 6 0 0) 6 0 0) 6 7 0).1 7 0) = 1) => ?_, fun (h146 : ¬ ((ev_up (ev_up (ev_up σ 6 0 0) 6 0 0) 6 7 0).1 7 0) = 1) => ?_⟩
                            · skip
                              change ev_wp pg_F pg_lay none [] (ev_lu pg_c135) (fun _ => false) _ 1919 334 [some (.ref 6), some (.int l), some (.int z), some (.int d), some (.int v21), some (.int v23), some (.int v26)] [] (ev_up (ev_up (ev_up σ 6 0 0) 6 0 0) 6 7 0)
                              refine ⟨⟨i20, (md_gin hp h12), h146⟩, ?_⟩
                              rintro _ s149 ⟨v147, k148, rfl⟩
                              have r150 := r19.tr k148
                              have i151 := k148.2.2 i20
                              change ev_wp pg_F pg_lay none [] (ev_lu pg_c135) (fun _ => false) _ 1914 341 [some (.ref 6), some (.int l), some (.int z), some (.int d), some (.int v21), some (.int v23), some (.int v26)] [.int v147] s149
                              exact ⟨_, rfl, Nat.le_of_eq (congrArg Prod.snd r150.2.1), _, r150, rfl⟩
                            · skip
                              change ev_wp pg_F pg_lay none [] (ev_lu pg_c135) (fun _ => false) _ 1919 344 [some (.ref 6), some (.int l), some (.int z), some (.int d), some (.int v21), some (.int v23), some (.int v26)] [] (ev_up (ev_up (ev_up σ 6 0 0) 6 0 0) 6 7 0)
                              refine ⟨⟨i20, (md_gin hp h12), k27.1⟩, ?_⟩
                              rintro _ s154 ⟨v152, k153, rfl⟩
                              have r155 := r19.tr k153
                              have i156 := k153.2.2 i20
                              exact ⟨_, rfl, Nat.le_of_eq (congrArg Prod.snd r155.2.1), _, r155, rfl⟩
                · skip
                  change ev_wp pg_F pg_lay none [] (ev_lu pg_c135) (fun _ => false) _ 1952 119 [some (.ref 6), some (.int l), some (.int z), some (.int d), some (.int v21), some (.int v23), none] [] (ev_up (ev_up (ev_up σ 6 0 0) 6 0 0) 6 7 0)
                  refine ⟨fun (h157 : ((ev_up (ev_up (ev_up σ 6 0 0) 6 0 0) 6 7 0).1 6 6) = 0) => ?_, fun (h157 : ¬ ((ev_up (ev_up (ev_up σ 6 0 0) 6 0 0) 6 7 0).1 6 6) = 0) => ?_⟩
                  · skip
                    change ev_wp pg_F pg_lay none [] (ev_lu pg_c135) (fun _ => false) _ 1949 186 [some (.ref 6), some (.int l), some (.int z), some (.int d), some (.int v21), some (.int v23), none] [] (ev_up (ev_up (ev_up σ 6 0 0) 6 0 0) 6 7 0)
                    refine ⟨Or.inl rfl, ?_⟩
                    rintro _ _ ⟨v158, k159, rfl, rfl⟩
                    change ev_wp pg_F pg_lay none [] (ev_lu pg_c135) (fun _ => false) _ 1946 191 [some (.ref 6), some (.int l), some (.int z), some (.int d), some (.int v21), some (.int v23), none] [.int v158] (ev_up (ev_up (ev_up σ 6 0 0) 6 0 0) 6 7 0)
                    refine ⟨trivial, ?_⟩
                    rintro _ _ ⟨rfl, rfl⟩
                    change ev_wp pg_F pg_lay none [] (ev_lu pg_c135) (fun _ => false) _ 1943 197 [some (.ref 6), some (.int l), some (.int z), some (.int d), some (.int v21), some (.int v23), some (.int v158)] [.int ((ev_up (ev_up (ev_up σ 6 0 0) 6 0 0) 6 7 0).1 7 0)] (ev_up (ev_up (ev_up σ 6 0 0) 6 0 0) 6 7 0)
                    refine ⟨fun (h160 : ((ev_up (ev_up (ev_up σ 6 0 0) 6 0 0) 6 7 0).1 7 0) = 2) => ?_, fun (h160 : ¬ ((ev_up (ev_up (ev_up σ 6 0 0) 6 0 0) 6 7 0).1 7 0) = 2) => ?_⟩
                    · skip
                      change ev_wp pg_F pg_lay none [] (ev_lu pg_c135) (fun _ => false) _ 1941 310 [some (.ref 6), some (.int l), some (.int z), some (.int d), some (.int v21), some (.int v23), some (.int v158)] [] (ev_up (ev_up (ev_up σ 6 0 0) 6 0 0) 6 7 0)
                      refine ⟨trivial, ?_⟩
                      rintro _ _ ⟨rfl, rfl⟩
                      change ev_wp pg_F pg_lay none [] (ev_lu pg_c135) (fun _ => false) _ 1939 314 [some (.ref 6), some (.int l), some (.int z), some (.int d), some (.int v21), some (.int v23), some (.int v158)] [.int ((ev_up (ev_up (ev_up σ 6 0 0) 6 0 0) 6 7 0).1 7 0)] (ev_up (ev_up (ev_up σ 6 0 0) 6 0 0) 6 7 0)
                      refine ⟨fun (h161 : ((ev_up (ev_up (ev_up σ 6 0 0) 6 0 0) 6 7 0).1 7 0) = 2) => ?_, fun (h161 : ¬ ((ev_up (ev_up (ev_up σ 6 0 0) 6 0 0) 6 7 0).1 7 0) = 2) => ?_⟩
                      · skip
                        change ev_wp pg_F pg_lay none [] (ev_lu pg_c135) (fun _ => false) _ 1937 318 [some (.ref 6), some (.int l), some (.int z), some (.int d), some (.int v21), some (.int v23), some (.int v158)] [] (ev_up (ev_up (ev_up σ 6 0 0) 6 0 0) 6 7 0)
                        refine ⟨⟨i20, (md_gin hp h12)⟩, ?_⟩
                        rintro _ s164 ⟨v162, k163, rfl⟩
                        have r165 := r19.tr k163
                        have i166 := k163.2.2 i20
                        exact ⟨_, rfl, Nat.le_of_eq (congrArg Prod.snd r165.2.1), _, r165, rfl⟩
                      · skip
                        change ev_wp pg_F pg_lay none [] (ev_lu pg_c135) (fun _ => false) _ 1937 326 [some (.ref 6), some (.int l), some (.int z), some (.int d), some (.int v21), some (.int v23), some (.int v158)] [] (ev_up (ev_up (ev_up σ 6 0 0) 6 0 0) 6 7 0)
                        refine ⟨trivial, ?_⟩
                        rintro _ _ ⟨rfl, rfl⟩
                        change ev_wp pg_F pg_lay none [] (ev_lu pg_c135) (fun _ => false) _ 1935 330 [some (.ref 6), some (.int l), some (.int z), some (.int d), some (.int v21), some (.int v23), some (.int v158)] [.int ((ev_up (ev_up (ev_up σ 6 0 0) 6 0 0) 6 7 0).1 7 0)] (ev_up (ev_up (ev_up σ 6 0 0) 6 0 0) 6 7 0)
                        refine ⟨fun (h167 : ((ev_up (ev_up (ev_up σ 6 0 0) 6 0 0) 6 7 0).1 7 0) = 1) => ?_, fun (h167 : ¬ ((ev_up (ev_up (ev_up σ 6 0 0) 6 0 0) 6 7 0).1 7 0) = 1) => ?_⟩
                        · skip
                          change ev_wp pg_F pg_lay none [] (ev_lu pg_c135) (fun _ => false) _ 1933 334 [some (.ref 6), some (.int l), some (.int z), some (.int d), some (.int v21), some (.int v23), some (.int v158)] [] (ev_up (ev_up (ev_up σ 6 0 0) 6 0 0) 6 7 0)
                          refine ⟨⟨i20, (md_gin hp h12), h167⟩, ?_⟩
                          rintro _ s170 ⟨v168, k169, rfl⟩
                          have r171 := r19.tr k169
                          have i172 := k169.2.2 i20
                          change ev_wp pg_F pg_lay none [] (ev_lu pg_c135) (fun _ => false) _ 1928 341 [some (.ref 6), some (.int l), some (.int z), some (.int d), some (.int v21), some (.int v23), some (.int v158)] [.int v168] s170
                          exact ⟨_, rfl, Nat.le_of_eq (congrArg Prod.snd r171.2.1), _, r171, rfl⟩
                        · skip
                          change ev_wp pg_F pg_lay none [] (ev_lu pg_c135) (fun _ => false) _ 1933 344 [some (.ref 6), some (.int l), some (.int z), some (.int d), some (.int v21), some (.int v23), some (.int v158)] [] (ev_up (ev_up (ev_up σ 6 0 0) 6 0 0) 6 7 0)
                          refine ⟨⟨i20, (md_gin hp h12), k159.1⟩, ?_⟩
                          rintro _ s175 ⟨v173, k174, rfl⟩
                          have r176 := r19.tr k174
                          have i177 := k174.2.2 i20
                          exact ⟨_, rfl, Nat.le_of_eq (congrArg Prod.snd r176.2.1), _, r176, rfl⟩
                    · skip
                      change ev_wp pg_F pg_lay none [] (ev_lu pg_c135) (fun _ => false) _ 1941 201 [some (.ref 6), some (.int l), some (.int z), some (.int d), some (.int v21), some (.int v23), some (.int v158)] [] (ev_up (ev_up (ev_up σ 6 0 0) 6 0 0) 6 7 0)
                      refine ⟨fun (h178 : v21 < 0) => ?_, fun (h178 : ¬ v21 < 0) => ?_⟩
                      · skip
                        change ev_wp pg_F pg_lay none [] (ev_lu pg_c135) (fun _ => false) _ 1939 310 [some (.ref 6), some (.int l), some (.int z), some (.int d), some (.int v21), some (.int v23), some (.int v158)] [] (ev_up (ev_up (ev_up σ 6 0 0) 6 0 0) 6 7 0)
                        refine ⟨trivial, ?_⟩
                        rintro _ _ ⟨rfl, rfl⟩
                        change ev_wp pg_F pg_lay none [] (ev_lu pg_c135) (fun _ => false) _ 1937 314 [some (.ref 6), some (.int l), some (.int z), some (.int d), some (.int v21), some (.int v23), some (.int v158)] [.int ((ev_up (ev_up (ev_up σ 6 0 0) 6 0 0) 6 7 0).1 7 0)] (ev_up (ev_up (ev_up σ 6 0 0) 6 0 0) 6 7 0)
                        refine ⟨fun (h179 : ((ev_up (ev_up (ev_up σ 6 0 0) 6 0 0) 6 7 0).1 7 0) = 2) => ?_, fun (h179 : ¬ ((ev_up (ev_up (ev_up σ 6 0 0) 6 0 0) 6 7 0).1 7 0) = 2) => ?_⟩
                        · skip
                          change ev_wp pg_F pg_lay none [] (ev_lu pg_c135) (fun _ => false) _ 1935 318 [some (.ref 6), some (.int l), some (.int z), some (.int d), some (.int v21), some (.int v23), some (.int v158)] [] (ev_up (ev_up (ev_up σ 6 0 0) 6 0 0) 6 7 0)
                          refine ⟨⟨i20, (md_gin hp h12)⟩, ?_⟩
                          rintro _ s182 ⟨v180, k181, rfl⟩
                          have r183 := r19.tr k181
                          have i184 := k181.2.2 i20
                          exact ⟨_, rfl, Nat.le_of_eq (congrArg Prod.snd r183.2.1), _, r183, rfl⟩
                        · skip
                          change ev_wp pg_F pg_lay none [] (ev_lu pg_c135) (fun _ => false) _ 1935 326 [some (.ref 6), some (.int l), some (.int z), some (.int d), some (.int v21), some (.int v23), some (.int v158)] [] (ev_up (ev_up (ev_up σ 6 0 0) 6 0 0) 6 7 0)
                          refine ⟨trivial, ?_⟩
                          rintro _ _ ⟨rfl, rfl⟩
                          change ev_wp pg_F pg_lay none [] (ev_lu pg_c135) (fun _ => false) _ 1933 330 [some (.ref 6), some (.int l), some (.int z), some (.int d), some (.int v21), some (.int v23), some (.int v158)] [.int ((ev_up (ev_up (ev_up σ 6 0 0) 6 0 0) 6 7 0).1 7 0)] (ev_up (ev_up (ev_up σ 6 0 0) 6 0 0) 6 7 0)
                          refine ⟨fun (h185 : ((ev_up (ev_up (ev_up σ 6 0 0) 6 0 0) 6 7 0).1 7 0) = 1) => ?_, fun (h185 : ¬ ((ev_up (ev_up (ev_up σ 6 0 0) 6 0 0) 6 7 0).1 7 0) = 1) => ?_⟩
                          · skip
                            change ev_wp pg_F pg_lay none [] (ev_lu pg_c135) (fun _ => false) _ 1931 334 [some (.ref 6), some (.int l), some (.int z), some (.int d), some (.int v21), some (.int v23), some (.int v158)] [] (ev_up (ev_up (ev_up σ 6 0 0) 6 0 0) 6 7 0)
                            refine ⟨⟨i20, (md_gin hp h12), h185⟩, ?_⟩
                            rintro _ s188 ⟨v186, k187, rfl⟩
                            have r189 := r19.tr k187
                            have i190 := k187.2.2 i20
                            change ev_wp pg_F pg_lay none [] (ev_lu pg_c135) (fun _ => false) _ 1926 341 [some (.ref 6), some (.int l), some (.int z), some (.int d), some (.int v21), some (.int v23), some (.int v158)] [.int v186] s188
                            exact ⟨_, rfl, Nat.le_of_eq (congrArg Prod.snd r189.2.1), _, r189, rfl⟩
                          · skip
                            change ev_wp pg_F pg_lay none [] (ev_lu pg_c135) (fun _ => false) _ 1931 344 [some (.ref 6), some (.int l), some (.int z), some (.int d), some (.int v21), some (.int v23), some (.int v158)] [] (ev_up (ev_up (ev_up σ 6 0 0) 6 0 0) 6 7 0)
                            refine ⟨⟨i20, (md_gin hp h12), k159.1⟩, ?_⟩
                            rintro _ s193 ⟨v191, k192, rfl⟩
                            have r194 := r19.tr k192
                            have i195 := k192.2.2 i20
                            exact ⟨_, rfl, Nat.le_of_eq (congrArg Prod.snd r194.2.1), _, r194, rfl⟩
                      · skip
                        change ev_wp pg_F pg_lay none [] (ev_lu pg_c135) (fun _ => false) _ 1939 206 [some (.ref 6), some (.int l), some (.int z), some (.int d), some (.int v21), some (.int v23), some (.int v158)] [] (ev_up (ev_up (ev_up σ 6 0 0) 6 0 0) 6 7 0)
                        refine ⟨(md_l41 k22 h25), ?_⟩
                        rintro _ _ ⟨v196, k197, rfl, rfl⟩
                        change ev_wp pg_F pg_lay none [] (ev_lu pg_c135) (fun _ => false) _ 1936 212 [some (.ref 6), some (.int l), some (.int z), some (.int d), some (.int v21), some (.int v23), some (.int v158)] [.int v196] (ev_up (ev_up (ev_up σ 6 0 0) 6 0 0) 6 7 0)
                        refine ⟨trivial, ?_⟩
                        rintro _ _ ⟨v198, k199, rfl, rfl⟩
                        change ev_wp pg_F pg_lay none [] (ev_lu pg_c135) (fun _ => false) _ 1933 219 [some (.ref 6), some (.int l), some (.int z), some (.int d), some (.int v21), some (.int v23), some (.int v158)] [.int v198] (ev_up (ev_up (ev_up σ 6 0 0) 6 0 0) 6 7 0)
                        refine ⟨fun (h200 : v198 = 0) => ?_, fun (h200 : ¬ v198 = 0) => ?_⟩
                        · skip
                          change ev_wp pg_F pg_lay none [] (ev_lu pg_c135) (fun _ => false) _ 1932 310 [some (.ref 6), some (.int l), some (.int z), some (.int d), some (.int v21), some (.int v23), some (.int v158)] [] (ev_up (ev_up (ev_up σ 6 0 0) 6 0 0) 6 7 0)
                          refine ⟨trivial, ?_⟩
                          rintro _ _ ⟨rfl, rfl⟩
                          change ev_wp pg_F pg_lay none [] (ev_lu pg_c135) (fun _ => false) _ 1930 314 [some (.ref 6), some (.int l), some (.int z), some (.int d), some (.int v21), some (.int v23), some (.int v158)] [.int ((ev_up (ev_up (ev_up σ 6 0 0) 6 0 0) 6 7 0).1 7 0)] (ev_up (ev_up (ev_up σ 6 0 0) 6 0 0) 6 7 0)
                          refine ⟨fun (h201 : ((ev_up (ev_up (ev_up σ 6 0 0) 6 0 0) 6 7 0).1 7 0) = 2) => ?_, fun (h201 : ¬ ((ev_up (ev_up (ev_up σ 6 0 0) 6 0 0) 6 7 0).1 7 0) = 2) => ?_⟩
                          · skip
                            change ev_wp pg_F pg_lay none [] (ev_lu pg_c135) (fun _ => false) _ 1928 318 [some (.ref 6), some (.int l), some (.int z), some (.int d), some (.int v21), some (.int v23), some (.int v158)] [] (ev_up (ev_up (ev_up σ 6 0 0) 6 0 0) 6 7 0)
                            refine ⟨⟨i20, (md_gin hp h12)⟩, ?_⟩
                            rintro _ s204 ⟨v202, k203, rfl⟩
                            have r205 := r19.tr k203
                            have i206 := k203.2.2 i20
                            exact ⟨_, rfl, Nat.le_of_eq (congrArg Prod.snd r205.2.1), _, r205, rfl⟩
                          · skip
                            change ev_wp pg_F pg_lay none [] (ev_lu pg_c135) (fun _ => false) _ 1928 326 [some (.ref 6), some (.int l), some (.int z), some (.int d), some (.int v21), some (.int v23), some (.int v158)] [] (ev_up (ev_up (ev_up σ 6 0 0) 6 0 0) 6 7 0)
                            refine ⟨trivial, ?_⟩
                            rintro _ _ ⟨rfl, rfl⟩
                            change ev_wp pg_F pg_lay none [] (ev_lu pg_c135) (fun _ => false) _ 1926 330 [some (.ref 6), some (.int l), some (.int z), some (.int d), some (.int v21), some (.int v23), some (.int v158)] [.int ((ev_up (ev_up (ev_up σ 6 0 0) 6 0 0) 6 7 0).1 7 0)] (ev_up (ev_up (ev_up σ 6 0 0) 6 0 0) 6 7 0)
                            refine ⟨fun (h207 : ((ev_up (ev_up (ev_up σ 6 0 0) 6 0 0) 6 7 0).1 7 0) = 1) => ?_, fun (h207 : ¬ ((ev_up (ev_up (ev_up σ 6 0 0) 6 0 0) 6 7 0).1 7 0) = 1) => ?_⟩
                            · skip
                              change ev_wp pg_F pg_lay none [] (ev_lu pg_c135) (fun _ => false) _ 1924 334 [some (.ref 6), some (.int l), some (.int z), some (.int d), some (.int v21), some (.int v23), some (.int v158)] [] (ev_up (ev_up (ev_up σ 6 0 0) 6 0 0) 6 7 0)
                              refine ⟨⟨i20, (md_gin hp h12), h207⟩, ?_⟩
                              rintro _ s210 ⟨v208, k209, rfl⟩
                              have r211 := r19.tr k209
                              have i212 := k209.2.2 i20
                              change ev_wp pg_F pg_lay none [] (ev_lu pg_c135) (fun _ => false) _ 1919 341 [some (.ref 6), some (.int l), some (.int z), some (.int d), some (.int v21), some (.int v23), some (.int v158)] [.int v208] s210
                              exact ⟨_, rfl, Nat.le_of_eq (congrArg Prod.snd r211.2.1), _, r211, rfl⟩
                            · skip
                              change ev_wp pg_F pg_lay none [] (ev_lu pg_c135) (fun _ => false) _ 1924 344 [some (.ref 6), some (.int l), some (.int z), some (.int d), some (.int v21), some (.int v23), some (.int v158)] [] (ev_up (ev_up (ev_up σ 6 0 0) 6 0 0) 6 7 0)
                              refine ⟨⟨i20, (md_gin hp h12), k159.1⟩, ?_⟩
                              rintro _ s215 ⟨v213, k214, rfl⟩
                              have r216 := r19.tr k214
                              have i217 := k214.2.2 i20
                              exact ⟨_, rfl, Nat.le_of_eq (congrArg Prod.snd r216.2.1), _, r216, rfl⟩
                        · skip
                          change ev_wp pg_F pg_lay none [] (ev_lu pg_c135) (fun _ => false) _ 1932 222 [some (.ref 6), some (.int l), some (.int z), some (.int d), some (.int v21), some (.int v23), some (.int v158)] [] (ev_up (ev_up (ev_up σ 6 0 0) 6 0 0) 6 7 0)
                          refine ⟨md_vp (md_j4 (md_l41 k22 h25)) 4 (by decide) rfl, ?_⟩
                          rintro _ _ ⟨rfl, rfl⟩
                          change ev_wp pg_F pg_lay none [] (ev_lu pg_c135) (fun _ => false) _ 1928 229 [some (.ref 6), some (.int l), some (.int z), some (.int d), some (.int v21), some (.int v23), some (.int v158)] [.int ((ev_up (ev_up (ev_up σ 6 0 0) 6 0 0) 6 7 0).1 7 (Int32.toNatClampNeg (4 * v21 + 4)))] (ev_up (ev_up (ev_up σ 6 0 0) 6 0 0) 6 7 0)
                          refine ⟨fun (h218 : (((ev_up (ev_up (ev_up σ 6 0 0) 6 0 0) 6 7 0).1 7 (Int32.toNatClampNeg (4 * v21 + 4))) &&& 15) = d) => ?_, fun (h218 : ¬ (((ev_up (ev_up (ev_up σ 6 0 0) 6 0 0) 6 7 0).1 7 (Int32.toNatClampNeg (4 * v21 + 4))) &&& 15) = d) => ?_⟩
                          · skip
                            change ev_wp pg_F pg_lay none [] (ev_lu pg_c135) (fun _ => false) _ 1924 236 [some (.ref 6), some (.int l), some (.int z), some (.int d), some (.int v21), some (.int v23), some (.int v158)] [] (ev_up (ev_up (ev_up σ 6 0 0) 6 0 0) 6 7 0)
                            refine ⟨(md_l41 k22 h25), ?_⟩
                            rintro _ _ ⟨v219, k220, rfl, rfl⟩
                            change ev_wp pg_F pg_lay none [] (ev_lu pg_c135) (fun _ => false) _ 1921 242 [some (.ref 6), some (.int l), some (.int z), some (.int d), some (.int v21), some (.int v23), some (.int v158)] [.int v219] (ev_up (ev_up (ev_up σ 6 0 0) 6 0 0) 6 7 0)
                            refine ⟨fun (h221 : 2 ≤ v219) => ?_, fun (h221 : ¬ 2 ≤ v219) => ?_⟩
                            · skip
                              change ev_wp pg_F pg_lay none [] (ev_lu pg_c135) (fun _ => false) _ 1919 310 [some (.ref 6), some (.int l), some (.int z), some (.int d), some (.int v21), some (.int v23), some (.int v158)] [] (ev_up (ev_up (ev_up σ 6 0 0) 6 0 0) 6 7 0)
                              refine ⟨trivial, ?_⟩
                              rintro _ _ ⟨rfl, rfl⟩
                              change ev_wp pg_F pg_lay none [] (ev_lu pg_c135) (fun _ => false) _ 1917 314 [some (.ref 6), some (.int l), some (.int z), some (.int d), some (.int v21), some (.int v23), some (.int v158)] [.int ((ev_up (ev_up (ev_up σ 6 0 0) 6 0 0) 6 7 0).1 7 0)] (ev_up (ev_up (ev_up σ 6 0 0) 6 0 0) 6 7 0)
                              refine ⟨fun (h222 : ((ev_up (ev_up (ev_up σ 6 0 0) 6 0 0) 6 7 0).1 7 0) = 2) => ?_, fun (h222 : ¬ ((ev_up (ev_up (ev_up σ 6 0 0) 6 0 0) 6 7 0).1 7 0) = 2) => ?_⟩
                              · skip
                                change ev_wp pg_F pg_lay none [] (ev_lu pg_c135) (fun _ => false) _ 1915 318 [some (.ref 6), some (.int l), some (.int z), some (.int d), some (.int v21), some (.int v23), some (.int v158)] [] (ev_up (ev_up (ev_up σ 6 0 0) 6 0 0) 6 7 0)
                                refine ⟨⟨i20, (md_gin hp h12)⟩, ?_⟩
                                rintro _ s225 ⟨v223, k224, rfl⟩
                                have r226 := r19.tr k224
                                have i227 := k224.2.2 i20
                                exact ⟨_, rfl, Nat.le_of_eq (congrArg Prod.snd r226.2.1), _, r226, rfl⟩
                              · skip
                                change ev_wp pg_F pg_lay none [] (ev_lu pg_c135) (fun _ => false) _ 1915 326 [some (.ref 6), some (.int l), some (.int z), some (.int d), some (.int v21), some (.int v23), some (.int v158)] [] (ev_up (ev_up (ev_up σ 6 0 0) 6 0 0) 6 7 0)
                                refine ⟨trivial, ?_⟩
                                rintro _ _ ⟨rfl, rfl⟩
                                change ev_wp pg_F pg_lay none [] (ev_lu pg_c135) (fun _ => false) _ 1913 330 [some (.ref 6), some (.int l), some (.int z), some (.int d), some (.int v21), some (.int v23), some (.int v158)] [.int ((ev_up (ev_up (ev_up σ 6 0 0) 6 0 0) 6 7 0).1 7 0)] (ev_up (ev_up (ev_up σ 6 0 0) 6 0 0) 6 7 0)
                                refine ⟨fun (h228 : ((ev_up (ev_up (ev_up σ 6 0 0) 6 0 0) 6 7 0).1 7 0) = 1) => ?_, fun (h228 : ¬ ((ev_up (ev_up (ev_up σ 6 0 0) 6 0 0) 6 7 0).1 7 0) = 1) => ?_⟩
                                · skip
                                  change ev_wp pg_F pg_lay none [] (ev_lu pg_c135) (fun _ => false) _ 1911 334 [some (.ref 6), some (.int l), some (.int z), some (.int d), some (.int v21), some (.int v23), some (.int v158)] [] (ev_up (ev_up (ev_up σ 6 0 0) 6 0 0) 6 7 0)
                                  refine ⟨⟨i20, (md_gin hp h12), h228⟩, ?_⟩
                                  rintro _ s231 ⟨v229, k230, rfl⟩
                                  have r232 := r19.tr k230
                                  have i233 := k230.2.2 i20
                                  change ev_wp pg_F pg_lay none [] (ev_lu pg_c135) (fun _ => false) _ 1906 341 [some (.ref 6), some (.int l), some (.int z), some (.int d), some (.int v21), some (.int v23), some (.int v158)] [.int v229] s231
                                  exact ⟨_, rfl, Nat.le_of_eq (congrArg Prod.snd r232.2.1), _, r232, rfl⟩
                                · skip
                                  change ev_wp pg_F pg_lay none [] (ev_lu pg_c135) (fun _ => false) _ 1911 344 [some (.ref 6), some (.int l), some (.int z), some (.int d), some (.int v21), some (.int v23), some (.int v158)] [] (ev_up (ev_up (ev_up σ 6 0 0) 6 0 0) 6 7 0)
                                  refine ⟨⟨i20, (md_gin hp h12), k159.1⟩, ?_⟩
                                  rintro _ s236 ⟨v234, k235, rfl⟩
                                  have r237 := r19.tr k235
                                  have i238 := k235.2.2 i20
                                  exact ⟨_, rfl, Nat.le_of_eq (congrArg Prod.snd r237.2.1), _, r237, rfl⟩
                            · skip
                              change ev_wp pg_F pg_lay none [] (ev_lu pg_c135) (fun _ => false) _ 1919 246 [some (.ref 6), some (.int l), some (.int z), some (.int d), some (.int v21), some (.int v23), some (.int v158)] [] (ev_up (ev_up (ev_up σ 6 0 0) 6 0 0) 6 7 0)
                              refine ⟨(md_l41 k22 h25), ?_⟩
                              rintro _ _ ⟨v239, k240, rfl, rfl⟩
                              change ev_wp pg_F pg_lay none [] (ev_lu pg_c135) (fun _ => false) _ 1911 257 [some (.ref 6), some (.int l), some (.int z), some (.int d), some (.int v21), some (.int v23), some (.int v158)] [.int v239, .int 1, .int d, .int z, .int l, .ref 6] (ev_up (ev_up (ev_up σ 6 0 0) 6 0 0) 6 7 0)
                              refine ⟨(md_l41 k22 h25), ?_⟩
                              rintro _ _ ⟨v241, k242, rfl, rfl⟩
                              change ev_wp pg_F pg_lay none [] (ev_lu pg_c135) (fun _ => false) _ 1908 263 [some (.ref 6), some (.int l), some (.int z), some (.int d), some (.int v21), some (.int v23), some (.int v158)] [.int v241, .int v239, .int 1, .int d, .int z, .int l, .ref 6] (ev_up (ev_up (ev_up σ 6 0 0) 6 0 0) 6 7 0)
                              refine ⟨trivial, ?_⟩
                              rintro _ _ ⟨rfl, rfl⟩
                              change ev_wp pg_F pg_lay none [] (ev_lu pg_c135) (fun _ => false) _ 1904 269 [some (.ref 6), some (.int l), some (.int z), some (.int d), some (.int v21), some (.int v23), some (.int v158)] [.int ((ev_up (ev_up (ev_up σ 6 0 0) 6 0 0) 6 7 0).1 7 0), .int (v241 + 1), .int v239, .int 1, .int d, .int z, .int l, .ref 6] (ev_up (ev_up (ev_up σ 6 0 0) 6 0 0) 6 7 0)
                              refine ⟨fun (h243 : ((ev_up (ev_up (ev_up σ 6 0 0) 6 0 0) 6 7 0).1 7 0) = 1) => ?_, fun (h243 : ¬ ((ev_up (ev_up (ev_up σ 6 0 0) 6 0 0) 6 7 0).1 7 0) = 1) => ?_⟩
                              · skip
                                change ev_wp pg_F pg_lay none [] (ev_lu pg_c135) (fun _ => false) _ 1902 273 [some (.ref 6), some (.int l), some (.int z), some (.int d), some (.int v21), some (.int v23), some (.int v158)] [.int (v241 + 1), .int v239, .int 1, .int d, .int z, .int l, .ref 6] (ev_up (ev_up (ev_up σ 6 0 0) 6 0 0) 6 7 0)
                                refine ⟨trivial, ?_⟩
                                rintro _ _ ⟨rfl, rfl⟩
                                change ev_wp pg_F pg_lay none [] (ev_lu pg_c135) (fun _ => false) _ 1900 277 [some (.ref 6), some (.int l), some (.int z), some (.int d), some (.int v21), some (.int v23), some (.int v158)] [.int (md_cnt (ev_up (ev_up (ev_up σ 6 0 0) 6 0 0) 6 7 0) 64), .int (v241 + 1), .int v239, .int 1, .int d, .int z, .int l, .ref 6] (ev_up (ev_up (ev_up σ 6 0 0) 6 0 0) 6 7 0)
                                refine ⟨⟨i20, (md_gin hp h12)⟩, ?_⟩
                                rintro _ s245 ⟨k244, rfl⟩
                                have r246 := r19.tr k244.1
                                have i247 := k244.1.2.2 i20
                                change ev_wp pg_F pg_lay none [] (ev_lu pg_c135) (fun _ => false) _ 1897 304 [some (.ref 6), some (.int l), some (.int z), some (.int d), some (.int v21), some (.int v23), some (.int v158)] [] s245
                                refine ⟨⟨i247, (fun h => (k244.2.2.1 h).2)⟩, ?_⟩
                                rintro _ s250 ⟨v248, k249, rfl⟩
                                have r251 := r246.tr k249
                                have i252 := k249.2.2 i247
                                exact ⟨_, rfl, Nat.le_of_eq (congrArg Prod.snd r251.2.1), _, r251, rfl⟩
                              · skip
                                change ev_wp pg_F pg_lay none [] (ev_lu pg_c135) (fun _ => false) _ 1902 280 [some (.ref 6), some (.int l), some (.int z), some (.int d), some (.int v21), some (.int v23), some (.int v158)] [.int (v241 + 1), .int v239, .int 1, .int d, .int z, .int l, .ref 6] (ev_up (ev_up (ev_up σ 6 0 0) 6 0 0) 6 7 0)
                                refine ⟨fun (h253 : 0 ≤ v158) => ?_, fun (h253 : ¬ 0 ≤ v158) => ?_⟩
                                · skip
                                  change ev_wp pg_F pg_lay none [] (ev_lu pg_c135) (fun _ => false) _ 1900 289 [some (.ref 6), some (.int l), some (.int z), some (.int d), some (.int v21), some (.int v23), some (.int v158)] [.int (v241 + 1), .int v239, .int 1, .int d, .int z, .int l, .ref 6] (ev_up (ev_up (ev_up σ 6 0 0) 6 0 0) 6 7 0)
                                  refine ⟨md_vp (md_j5 (md_l5 k159.1 (md_nlt h253))) 0 (by decide) rfl, ?_⟩
                                  rintro _ _ ⟨rfl, rfl⟩
                                  change ev_wp pg_F pg_lay none [] (ev_lu pg_c135) (fun _ => false) _ 1896 296 [some (.ref 6), some (.int l), some (.int z), some (.int d), some (.int v21), some (.int v23), some (.int v158)] [.int ((ev_up (ev_up (ev_up σ 6 0 0) 6 0 0) 6 7 0).1 7 (Int32.toNatClampNeg (4 * v158 + 0))), .int (v241 + 1), .int v239, .int 1, .int d, .int z, .int l, .ref 6] (ev_up (ev_up (ev_up σ 6 0 0) 6 0 0) 6 7 0)
                                  refine ⟨⟨i20, (md_gin hp h12)⟩, ?_⟩
                                  rintro _ s255 ⟨k254, rfl⟩
                                  have r256 := r19.tr k254.1
                                  have i257 := k254.1.2.2 i20
                                  change ev_wp pg_F pg_lay none [] (ev_lu pg_c135) (fun _ => false) _ 1892 304 [some (.ref 6), some (.int l), some (.int z), some (.int d), some (.int v21), some (.int v23), some (.int v158)] [] s255
                                  refine ⟨⟨i257, (fun h => (k254.2.2.1 h).2)⟩, ?_⟩
                                  rintro _ s260 ⟨v258, k259, rfl⟩
                                  have r261 := r256.tr k259
                                  have i262 := k259.2.2 i257
                                  exact ⟨_, rfl, Nat.le_of_eq (congrArg Prod.snd r261.2.1), _, r261, rfl⟩
                                · skip
                                  change ev_wp pg_F pg_lay none [] (ev_lu pg_c135) (fun _ => false) _ 1900 285 [some (.ref 6), some (.int l), some (.int z), some (.int d), some (.int v21), some (.int v23), some (.int v158)] [.int (v241 + 1), .int v239, .int 1, .int d, .int z, .int l, .ref 6] (ev_up (ev_up (ev_up σ 6 0 0) 6 0 0) 6 7 0)
                                  refine ⟨⟨i20, (md_gin hp h12)⟩, ?_⟩
                                  rintro _ s264 ⟨k263, rfl⟩
                                  have r265 := r19.tr k263.1
                                  have i266 := k263.1.2.2 i20
                                  change ev_wp pg_F pg_lay none [] (ev_lu pg_c135) (fun _ => false) _ 1896 304 [some (.ref 6), some (.int l), some (.int z), some (.int d), some (.int v21), some (.int v23), some (.int v158)] [] s264
                                  refine ⟨⟨i266, (fun h => (k263.2.2.1 h).2)⟩, ?_⟩
                                  rintro _ s269 ⟨v267, k268, rfl⟩
                                  have r270 := r265.tr k268
                                  have i271 := k268.2.2 i266
                                  exact ⟨_, rfl, Nat.le_of_eq (congrArg Prod.snd r270.2.1), _, r270, rfl⟩
                          · skip
                            change ev_wp pg_F pg_lay none [] (ev_lu pg_c135) (fun _ => false) _ 1924 310 [some (.ref 6), some (.int l), some (.int z), some (.int d), some (.int v21), some (.int v23), some (.int v158)] [] (ev_up (ev_up (ev_up σ 6 0 0) 6 0 0) 6 7 0)
                            refine ⟨trivial, ?_⟩
                            rintro _ _ ⟨rfl, rfl⟩
                            change ev_wp pg_F pg_lay none [] (ev_lu pg_c135) (fun _ => false) _ 1922 314 [some (.ref 6), some (.int l), some (.int z), some (.int d), some (.int v21), some (.int v23), some (.int v158)] [.int ((ev_up (ev_up (ev_up σ 6 0 0) 6 0 0) 6 7 0).1 7 0)] (ev_up (ev_up (ev_up σ 6 0 0) 6 0 0) 6 7 0)
                            refine ⟨fun (h272 : ((ev_up (ev_up (ev_up σ 6 0 0) 6 0 0) 6 7 0).1 7 0) = 2) => ?_, fun (h272 : ¬ ((ev_up (ev_up (ev_up σ 6 0 0) 6 0 0) 6 7 0).1 7 0) = 2) => ?_⟩
                            · skip
                              change ev_wp pg_F pg_lay none [] (ev_lu pg_c135) (fun _ => false) _ 1920 318 [some (.ref 6), some (.int l), some (.int z), some (.int d), some (.int v21), some (.int v23), some (.int v158)] [] (ev_up (ev_up (ev_up σ 6 0 0) 6 0 0) 6 7 0)
                              refine ⟨⟨i20, (md_gin hp h12)⟩, ?_⟩
                              rintro _ s275 ⟨v273, k274, rfl⟩
                              have r276 := r19.tr k274
                              have i277 := k274.2.2 i20
                              exact ⟨_, rfl, Nat.le_of_eq (congrArg Prod.snd r276.2.1), _, r276, rfl⟩
                            · skip
                              change ev_wp pg_F pg_lay none [] (ev_lu pg_c135) (fun _ => false) _ 1920 326 [some (.ref 6), some (.int l), some (.int z), some (.int d), some (.int v21), some (.int v23), some (.int v158)] [] (ev_up (ev_up (ev_up σ 6 0 0) 6 0 0) 6 7 0)
                              refine ⟨trivial, ?_⟩
                              rintro _ _ ⟨rfl, rfl⟩
                              change ev_wp pg_F pg_lay none [] (ev_lu pg_c135) (fun _ => false) _ 1918 330 [some (.ref 6), some (.int l), some (.int z), some (.int d), some (.int v21), some (.int v23), some (.int v158)] [.int ((ev_up (ev_up (ev_up σ 6 0 0) 6 0 0) 6 7 0).1 7 0)] (ev_up (ev_up (ev_up σ 6 0 0) 6 0 0) 6 7 0)
                              refine ⟨fun (h278 : ((ev_up (ev_up (ev_up σ 6 0 0) 6 0 0) 6 7 0).1 7 0) = 1) => ?_, fun (h278 : ¬ ((ev_up (ev_up (ev_up σ 6 0 0) 6 0 0) 6 7 0).1 7 0) = 1) => ?_⟩
                              · skip
                                change ev_wp pg_F pg_lay none [] (ev_lu pg_c135) (fun _ => false) _ 1916 334 [some (.ref 6), some (.int l), some (.int z), some (.int d), some (.int v21), some (.int v23), some (.int v158)] [] (ev_up (ev_up (ev_up σ 6 0 0) 6 0 0) 6 7 0)
                                refine ⟨⟨i20, (md_gin hp h12), h278⟩, ?_⟩
                                rintro _ s281 ⟨v279, k280, rfl⟩
                                have r282 := r19.tr k280
                                have i283 := k280.2.2 i20
                                change ev_wp pg_F pg_lay none [] (ev_lu pg_c135) (fun _ => false) _ 1911 341 [some (.ref 6), some (.int l), some (.int z), some (.int d), some (.int v21), some (.int v23), some (.int v158)] [.int v279] s281
                                exact ⟨_, rfl, Nat.le_of_eq (congrArg Prod.snd r282.2.1), _, r282, rfl⟩
                              · skip
                                change ev_wp pg_F pg_lay none [] (ev_lu pg_c135) (fun _ => false) _ 1916 344 [some (.ref 6), some (.int l), some (.int z), some (.int d), some (.int v21), some (.int v23), some (.int v158)] [] (ev_up (ev_up (ev_up σ 6 0 0) 6 0 0) 6 7 0)
                                refine ⟨⟨i20, (md_gin hp h12), k159.1⟩, ?_⟩
                                rintro _ s286 ⟨v284, k285, rfl⟩
                                have r287 := r19.tr k285
                                have i288 := k285.2.2 i20
                                exact ⟨_, rfl, Nat.le_of_eq (congrArg Prod.snd r287.2.1), _, r287, rfl⟩
                  · skip
                    change ev_wp pg_F pg_lay none [] (ev_lu pg_c135) (fun _ => false) _ 1949 126 [some (.ref 6), some (.int l), some (.int z), some (.int d), some (.int v21), some (.int v23), none] [] (ev_up (ev_up (ev_up σ 6 0 0) 6 0 0) 6 7 0)
                    refine ⟨md_vp (md_j4 (md_l41 k22 h25)) 3 (by decide) rfl, ?_⟩
                    rintro _ _ ⟨rfl, rfl⟩
                    change ev_wp pg_F pg_lay none [] (ev_lu pg_c135) (fun _ => false) _ 1945 133 [some (.ref 6), some (.int l), some (.int z), some (.int d), some (.int v21), some (.int v23), none] [.int ((ev_up (ev_up (ev_up σ 6 0 0) 6 0 0) 6 7 0).1 7 (Int32.toNatClampNeg (4 * v21 + 3)))] (ev_up (ev_up (ev_up σ 6 0 0) 6 0 0) 6 7 0)
                    refine ⟨fun (h289 : (((ev_up (ev_up (ev_up σ 6 0 0) 6 0 0) 6 7 0).1 7 (Int32.toNatClampNeg (4 * v21 + 3))) &&& 255) = l) => ?_, fun (h289 : ¬ (((ev_up (ev_up (ev_up σ 6 0 0) 6 0 0) 6 7 0).1 7 (Int32.toNatClampNeg (4 * v21 + 3))) &&& 255) = l) => ?_⟩
                    · skip
                      change ev_wp pg_F pg_lay none [] (ev_lu pg_c135) (fun _ => false) _ 1941 141 [some (.ref 6), some (.int l), some (.int z), some (.int d), some (.int v21), some (.int v23), none] [] (ev_up (ev_up (ev_up σ 6 0 0) 6 0 0) 6 7 0)
                      refine ⟨(md_l41 k22 h25), ?_⟩
                      rintro _ _ ⟨v290, k291, rfl, rfl⟩
                      change ev_wp pg_F pg_lay none [] (ev_lu pg_c135) (fun _ => false) _ 1938 147 [some (.ref 6), some (.int l), some (.int z), some (.int d), some (.int v21), some (.int v23), none] [.int v290] (ev_up (ev_up (ev_up σ 6 0 0) 6 0 0) 6 7 0)
                      refine ⟨md_vp (md_j4 (md_l41 k22 h25)) 5 (by decide) rfl, ?_⟩
                      rintro _ _ ⟨rfl, rfl⟩
                      change ev_wp pg_F pg_lay none [] (ev_lu pg_c135) (fun _ => false) _ 1934 154 [some (.ref 6), some (.int l), some (.int z), some (.int d), some (.int v21), some (.int v23), none] [.int ((ev_up (ev_up (ev_up σ 6 0 0) 6 0 0) 6 7 0).1 7 (Int32.toNatClampNeg (4 * v21 + 5))), .int v290] (ev_up (ev_up (ev_up σ 6 0 0) 6 0 0) 6 7 0)
                      refine ⟨trivial, ?_⟩
                      rintro _ _ ⟨v292, k293, rfl, rfl⟩
                      change ev_wp pg_F pg_lay none [] (ev_lu pg_c135) (fun _ => false) _ 1928 165 [some (.ref 6), some (.int l), some (.int z), some (.int d), some (.int v21), some (.int v23), none] [.int v292] (ev_up (ev_up (ev_up σ 6 0 0) 6 0 0) 6 7 0)
                      refine ⟨fun (h294 : v292 = 0) => ?_, fun (h294 : ¬ v292 = 0) => ?_⟩
                      · skip
                        change ev_wp pg_F pg_lay none [] (ev_lu pg_c135) (fun _ => false) _ 1927 186 [some (.ref 6), some (.int l), some (.int z), some (.int d), some (.int v21), some (.int v23), none] [] (ev_up (ev_up (ev_up σ 6 0 0) 6 0 0) 6 7 0)
                        refine ⟨Or.inl rfl, ?_⟩
                        rintro _ _ ⟨v295, k296, rfl, rfl⟩
                        change ev_wp pg_F pg_lay none [] (ev_lu pg_c135) (fun _ => false) _ 1924 191 [some (.ref 6), some (.int l), some (.int z), some (.int d), some (.int v21), some (.int v23), none] [.int v295] (ev_up (ev_up (ev_up σ 6 0 0) 6 0 0) 6 7 0)
                        refine ⟨trivial, ?_⟩
                        rintro _ _ ⟨rfl, rfl⟩
                        change ev_wp pg_F pg_lay none [] (ev_lu pg_c135) (fun _ => false) _ 1921 197 [some (.ref 6), some (.int l), some (.int z), some (.int d), some (.int v21), some (.int v23), some (.int v295)] [.int ((ev_up (ev_up (ev_up σ 6 0 0) 6 0 0) 6 7 0).1 7 0)] (ev_up (ev_up (ev_up σ 6 0 0) 6 0 0) 6 7 0)
                        refine ⟨fun (h297 : ((ev_up (ev_up (ev_up σ 6 0 0) 6 0 0) 6 7 0).1 7 0) = 2) => ?_, fun (h297 : ¬ ((ev_up (ev_up (ev_up σ 6 0 0) 6 0 0) 6 7 0).1 7 0) = 2) => ?_⟩
                        · skip
                          change ev_wp pg_F pg_lay none [] (ev_lu pg_c135) (fun _ => false) _ 1919 310 [some (.ref 6), some (.int l), some (.int z), some (.int d), some (.int v21), some (.int v23), some (.int v295)] [] (ev_up (ev_up (ev_up σ 6 0 0) 6 0 0) 6 7 0)
                          refine ⟨trivial, ?_⟩
                          rintro _ _ ⟨rfl, rfl⟩
                          change ev_wp pg_F pg_lay none [] (ev_lu pg_c135) (fun _ => false) _ 1917 314 [some (.ref 6), some (.int l), some (.int z), some (.int d), some (.int v21), some (.int v23), some (.int v295)] [.int ((ev_up (ev_up (ev_up σ 6 0 0) 6 0 0) 6 7 0).1 7 0)] (ev_up (ev_up (ev_up σ 6 0 0) 6 0 0) 6 7 0)
                          refine ⟨fun (h298 : ((ev_up (ev_up (ev_up σ 6 0 0) 6 0 0) 6 7 0).1 7 0) = 2) => ?_, fun (h298 : ¬ ((ev_up (ev_up (ev_up σ 6 0 0) 6 0 0) 6 7 0).1 7 0) = 2) => ?_⟩
                          · skip
                            change ev_wp pg_F pg_lay none [] (ev_lu pg_c135) (fun _ => false) _ 1915 318 [some (.ref 6), some (.int l), some (.int z), some (.int d), some (.int v21), some (.int v23), some (.int v295)] [] (ev_up (ev_up (ev_up σ 6 0 0) 6 0 0) 6 7 0)
                            refine ⟨⟨i20, (md_gin hp h12)⟩, ?_⟩
                            rintro _ s301 ⟨v299, k300, rfl⟩
                            have r302 := r19.tr k300
                            have i303 := k300.2.2 i20
                            exact ⟨_, rfl, Nat.le_of_eq (congrArg Prod.snd r302.2.1), _, r302, rfl⟩
                          · skip
                            change ev_wp pg_F pg_lay none [] (ev_lu pg_c135) (fun _ => false) _ 1915 326 [some (.ref 6), some (.int l), some (.int z), some (.int d), some (.int v21), some (.int v23), some (.int v295)] [] (ev_up (ev_up (ev_up σ 6 0 0) 6 0 0) 6 7 0)
                            refine ⟨trivial, ?_⟩
                            rintro _ _ ⟨rfl, rfl⟩
                            change ev_wp pg_F pg_lay none [] (ev_lu pg_c135) (fun _ => false) _ 1913 330 [some (.ref 6), some (.int l), some (.int z), some (.int d), some (.int v21), some (.int v23), some (.int v295)] [.int ((ev_up (ev_up (ev_up σ 6 0 0) 6 0 0) 6 7 0).1 7 0)] (ev_up (ev_up (ev_up σ 6 0 0) 6 0 0) 6 7 0)
                            refine ⟨fun (h304 : ((ev_up (ev_up (ev_up σ 6 0 0) 6 0 0) 6 7 0).1 7 0) = 1) => ?_, fun (h304 : ¬ ((ev_up (ev_up (ev_up σ 6 0 0) 6 0 0) 6 7 0).1 7 0) = 1) => ?_⟩
                            · skip
                              change ev_wp pg_F pg_lay none [] (ev_lu pg_c135) (fun _ => false) _ 1911 334 [some (.ref 6), some (.int l), some (.int z), some (.int d), some (.int v21), some (.int v23), some (.int v295)] [] (ev_up (ev_up (ev_up σ 6 0 0) 6 0 0) 6 7 0)
                              refine ⟨⟨i20, (md_gin hp h12), h304⟩, ?_⟩
                              rintro _ s307 ⟨v305, k306, rfl⟩
                              have r308 := r19.tr k306
                              have i309 := k306.2.2 i20
                              change ev_wp pg_F pg_lay none [] (ev_lu pg_c135) (fun _ => false) _ 1906 341 [some (.ref 6), some (.int l), some (.int z), some (.int d), some (.int v21), some (.int v23), some (.int v295)] [.int v305] s307
                              exact ⟨_, rfl, Nat.le_of_eq (congrArg Prod.snd r308.2.1), _, r308, rfl⟩
                            · skip
                              change ev_wp pg_F pg_lay none [] (ev_lu pg_c135) (fun _ => false) _ 1911 344 [some (.ref 6), some (.int l), some (.int z), some (.int d), some (.int v21), some (.int v23), some (.int v295)] [] (ev_up (ev_up (ev_up σ 6 0 0) 6 0 0) 6 7 0)
                              refine ⟨⟨i20, (md_gin hp h12), k296.1⟩, ?_⟩
                              rintro _ s312 ⟨v310, k311, rfl⟩
                              have r313 := r19.tr k311
                              have i314 := k311.2.2 i20
                              exact ⟨_, rfl, Nat.le_of_eq (congrArg Prod.snd r313.2.1), _, r313, rfl⟩
                        · skip
                          change ev_wp pg_F pg_lay none [] (ev_lu pg_c135) (fun _ => false) _ 1919 201 [some (.ref 6), some (.int l), some (.int z), some (.int d), some (.int v21), some (.int v23), some (.int v295)] [] (ev_up (ev_up (ev_up σ 6 0 0) 6 0 0) 6 7 0)
                          refine ⟨fun (h315 : v21 < 0) => ?_, fun (h315 : ¬ v21 < 0) => ?_⟩
                          · skip
                            change ev_wp pg_F pg_lay none [] (ev_lu pg_c135) (fun _ => false) _ 1917 310 [some (.ref 6), some (.int l), some (.int z), some (.int d), some (.int v21), some (.int v23), some (.int v295)] [] (ev_up (ev_up (ev_up σ 6 0 0) 6 0 0) 6 7 0)
                            refine ⟨trivial, ?_⟩
                            rintro _ _ ⟨rfl, rfl⟩
                            change ev_wp pg_F pg_lay none [] (ev_lu pg_c135) (fun _ => false) _ 1915 314 [some (.ref 6), some (.int l), some (.int z), some (.int d), some (.int v21), some (.int v23), some (.int v295)] [.int ((ev_up (ev_up (ev_up σ 6 0 0) 6 0 0) 6 7 0).1 7 0)] (ev_up (ev_up (ev_up σ 6 0 0) 6 0 0) 6 7 0)
                            refine ⟨fun (h316 : ((ev_up (ev_up (ev_up σ 6 0 0) 6 0 0) 6 7 0).1 7 0) = 2) => ?_, fun (h316 : ¬ ((ev_up (ev_up (ev_up σ 6 0 0) 6 0 0) 6 7 0).1 7 0) = 2) => ?_⟩
                            · skip
                              change ev_wp pg_F pg_lay none [] (ev_lu pg_c135) (fun _ => false) _ 1913 318 [some (.ref 6), some (.int l), some (.int z), some (.int d), some (.int v21), some (.int v23), some (.int v295)] [] (ev_up (ev_up (ev_up σ 6 0 0) 6 0 0) 6 7 0)
                              refine ⟨⟨i20, (md_gin hp h12)⟩, ?_⟩
                              rintro _ s319 ⟨v317, k318, rfl⟩
                              have r320 := r19.tr k318
                              have i321 := k318.2.2 i20
                              exact ⟨_, rfl, Nat.le_of_eq (congrArg Prod.snd r320.2.1), _, r320, rfl⟩
                            · skip
                              change ev_wp pg_F pg_lay none [] (ev_lu pg_c135) (fun _ => false) _ 1913 326 [some (.ref 6), some (.int l), some (.int z), some (.int d), some (.int v21), some (.int v23), some (.int v295)] [] (ev_up (ev_up (ev_up σ 6 0 0) 6 0 0) 6 7 0)
                              refine ⟨trivial, ?_⟩
                              rintro _ _ ⟨rfl, rfl⟩
                              change ev_wp pg_F pg_lay none [] (ev_lu pg_c135) (fun _ => false) _ 1911 330 [some (.ref 6), some (.int l), some (.int z), some (.int d), some (.int v21), some (.int v23), some (.int v295)] [.int ((ev_up (ev_up (ev_up σ 6 0 0) 6 0 0) 6 7 0).1 7 0)] (ev_up (ev_up (ev_up σ 6 0 0) 6 0 0) 6 7 0)
                              refine ⟨fun (h322 : ((ev_up (ev_up (ev_up σ 6 0 0) 6 0 0) 6 7 0).1 7 0) = 1) => ?_, fun (h322 : ¬ ((ev_up (ev_up (ev_up σ 6 0 0) 6 0 0) 6 7 0).1 7 0) = 1) => ?_⟩
                              · skip
                                change ev_wp pg_F pg_lay none [] (ev_lu pg_c135) (fun _ => false) _ 1909 334 [some (.ref 6), some (.int l), some (.int z), some (.int d), some (.int v21), some (.int v23), some (.int v295)] [] (ev_up (ev_up (ev_up σ 6 0 0) 6 0 0) 6 7 0)
                                refine ⟨⟨i20, (md_gin hp h12), h322⟩, ?_⟩
                                rintro _ s325 ⟨v323, k324, rfl⟩
                                have r326 := r19.tr k324
                                have i327 := k324.2.2 i20
                                change ev_wp pg_F pg_lay none [] (ev_lu pg_c135) (fun _ => false) _ 1904 341 [some (.ref 6), some (.int l), some (.int z), some (.int d), some (.int v21), some (.int v23), some (.int v295)] [.int v323] s325
                                exact ⟨_, rfl, Nat.le_of_eq (congrArg Prod.snd r326.2.1), _, r326, rfl⟩
                              · skip
                                change ev_wp pg_F pg_lay none [] (ev_lu pg_c135) (fun _ => false) _ 1909 344 [some (.ref 6), some (.int l), some (.int z), some (.int d), some (.int v21), some (.int v23), some (.int v295)] [] (ev_up (ev_up (ev_up σ 6 0 0) 6 0 0) 6 7 0)
                                refine ⟨⟨i20, (md_gin hp h12), k296.1⟩, ?_⟩
                                rintro _ s330 ⟨v328, k329, rfl⟩
                                have r331 := r19.tr k329
                                have i332 := k329.2.2 i20
                                exact ⟨_, rfl, Nat.le_of_eq (congrArg Prod.snd r331.2.1), _, r331, rfl⟩
                          · skip
                            change ev_wp pg_F pg_lay none [] (ev_lu pg_c135) (fun _ => false) _ 1917 206 [some (.ref 6), some (.int l), some (.int z), some (.int d), some (.int v21), some (.int v23), some (.int v295)] [] (ev_up (ev_up (ev_up σ 6 0 0) 6 0 0) 6 7 0)
                            refine ⟨(md_l41 k22 h25), ?_⟩
                            rintro _ _ ⟨v333, k334, rfl, rfl⟩
                            change ev_wp pg_F pg_lay none [] (ev_lu pg_c135) (fun _ => false) _ 1914 212 [some (.ref 6), some (.int l), some (.int z), some (.int d), some (.int v21), some (.int v23), some (.int v295)] [.int v333] (ev_up (ev_up (ev_up σ 6 0 0) 6 0 0) 6 7 0)
                            refine ⟨trivial, ?_⟩
                            rintro _ _ ⟨v335, k336, rfl, rfl⟩
                            change ev_wp pg_F pg_lay none [] (ev_lu pg_c135) (fun _ => false) _ 1911 219 [some (.ref 6), some (.int l), some (.int z), some (.int d), some (.int v21), some (.int v23), some (.int v295)] [.int v335] (ev_up (ev_up (ev_up σ 6 0 0) 6 0 0) 6 7 0)
                            refine ⟨fun (h337 : v335 = 0) => ?_, fun (h337 : ¬ v335 = 0) => ?_⟩
                            · skip
                              change ev_wp pg_F pg_lay none [] (ev_lu pg_c135) (fun _ => false) _ 1910 310 [some (.ref 6), some (.int l), some (.int z), some (.int d), some (.int v21), some (.int v23), some (.int v295)] [] (ev_up (ev_up (ev_up σ 6 0 0) 6 0 0) 6 7 0)
                              refine ⟨trivial, ?_⟩
                              rintro _ _ ⟨rfl, rfl⟩
                              change ev_wp pg_F pg_lay none [] (ev_lu pg_c135) (fun _ => false) _ 1908 314 [some (.ref 6), some (.int l), some (.int z), some (.int d), some (.int v21), some (.int v23), some (.int v295)] [.int ((ev_up (ev_up (ev_up σ 6 0 0) 6 0 0) 6 7 0).1 7 0)] (ev_up (ev_up (ev_up σ 6 0 0) 6 0 0) 6 7 0)
                              refine ⟨fun (h338 : ((ev_up (ev_up (ev_up σ 6 0 0) 6 0 0) 6 7 0).1 7 0) = 2) => ?_, fun (h338 : ¬ ((ev_up (ev_up (ev_up σ 6 0 0) 6 0 0) 6 7 0).1 7 0) = 2) => ?_⟩
                              · skip
                                change ev_wp pg_F pg_lay none [] (ev_lu pg_c135) (fun _ => false) _ 1906 318 [some (.ref 6), some (.int l), some (.int z), some (.int d), some (.int v21), some (.int v23), some (.int v295)] [] (ev_up (ev_up (ev_up σ 6 0 0) 6 0 0) 6 7 0)
                                refine ⟨⟨i20, (md_gin hp h12)⟩, ?_⟩
                                rintro _ s341 ⟨v339, k340, rfl⟩
                                have r342 := r19.tr k340
                                have i343 := k340.2.2 i20
                                exact ⟨_, rfl, Nat.le_of_eq (congrArg Prod.snd r342.2.1), _, r342, rfl⟩
                              · skip
                                change ev_wp pg_F pg_lay none [] (ev_lu pg_c135) (fun _ => false) _ 1906 326 [some (.ref 6), some (.int l), some (.int z), some (.int d), some (.int v21), some (.int v23), some (.int v295)] [] (ev_up (ev_up (ev_up σ 6 0 0) 6 0 0) 6 7 0)
                                refine ⟨trivial, ?_⟩
                                rintro _ _ ⟨rfl, rfl⟩
                                change ev_wp pg_F pg_lay none [] (ev_lu pg_c135) (fun _ => false) _ 1904 330 [some (.ref 6), some (.int l), some (.int z), some (.int d), some (.int v21), some (.int v23), some (.int v295)] [.int ((ev_up (ev_up (ev_up σ 6 0 0) 6 0 0) 6 7 0).1 7 0)] (ev_up (ev_up (ev_up σ 6 0 0) 6 0 0) 6 7 0)
                                refine ⟨fun (h344 : ((ev_up (ev_up (ev_up σ 6 0 0) 6 0 0) 6 7 0).1 7 0) = 1) => ?_, fun (h344 : ¬ ((ev_up (ev_up (ev_up σ 6 0 0) 6 0 0) 6 7 0).1 7 0) = 1) => ?_⟩
                                · skip
                                  change ev_wp pg_F pg_lay none [] (ev_lu pg_c135) (fun _ => false) _ 1902 334 [some (.ref 6), some (.int l), some (.int z), some (.int d), some (.int v21), some (.int v23), some (.int v295)] [] (ev_up (ev_up (ev_up σ 6 0 0) 6 0 0) 6 7 0)
                                  refine ⟨⟨i20, (md_gin hp h12), h344⟩, ?_⟩
                                  rintro _ s347 ⟨v345, k346, rfl⟩
                                  have r348 := r19.tr k346
                                  have i349 := k346.2.2 i20
                                  change ev_wp pg_F pg_lay none [] (ev_lu pg_c135) (fun _ => false) _ 1897 341 [some (.ref 6), some (.int l), some (.int z), some (.int d), some (.int v21), some (.int v23), some (.int v295)] [.int v345] s347
                                  exact ⟨_, rfl, Nat.le_of_eq (congrArg Prod.snd r348.2.1), _, r348, rfl⟩
                                · skip
                                  change ev_wp pg_F pg_lay none [] (ev_lu pg_c135) (fun _ => false) _ 1902 344 [some (.ref 6), some (.int l), some (.int z), some (.int d), some (.int v21), some (.int v23), some (.int v295)] [] (ev_up (ev_up (ev_up σ 6 0 0) 6 0 0) 6 7 0)
                                  refine ⟨⟨i20, (md_gin hp h12), k296.1⟩, ?_⟩
                                  rintro _ s352 ⟨v350, k351, rfl⟩
                                  have r353 := r19.tr k351
                                  have i354 := k351.2.2 i20
                                  exact ⟨_, rfl, Nat.le_of_eq (congrArg Prod.snd r353.2.1), _, r353, rfl⟩
                            · skip
                              change ev_wp pg_F pg_lay none [] (ev_lu pg_c135) (fun _ => false) _ 1910 222 [some (.ref 6), some (.int l), some (.int z), some (.int d), some (.int v21), some (.int v23), some (.int v295)] [] (ev_up (ev_up (ev_up σ 6 0 0) 6 0 0) 6 7 0)
                              refine ⟨md_vp (md_j4 (md_l41 k22 h25)) 4 (by decide) rfl, ?_⟩
                              rintro _ _ ⟨rfl, rfl⟩
                              change ev_wp pg_F pg_lay none [] (ev_lu pg_c135) (fun _ => false) _ 1906 229 [some (.ref 6), some (.int l), some (.int z), some (.int d), some (.int v21), some (.int v23), some (.int v295)] [.int ((ev_up (ev_up (ev_up σ 6 0 0) 6 0 0) 6 7 0).1 7 (Int32.toNatClampNeg (4 * v21 + 4)))] (ev_up (ev_up (ev_up σ 6 0 0) 6 0 0) 6 7 0)
                              refine ⟨fun (h355 : (((ev_up (ev_up (ev_up σ 6 0 0) 6 0 0) 6 7 0).1 7 (Int32.toNatClampNeg (4 * v21 + 4))) &&& 15) = d) => ?_, fun (h355 : ¬ (((ev_up (ev_up (ev_up σ 6 0 0) 6 0 0) 6 7 0).1 7 (Int32.toNatClampNeg (4 * v21 + 4))) &&& 15) = d) => ?_⟩
                              · skip
                                change ev_wp pg_F pg_lay none [] (ev_lu pg_c135) (fun _ => false) _ 1902 236 [some (.ref 6), some (.int l), some (.int z), some (.int d), some (.int v21), some (.int v23), some (.int v295)] [] (ev_up (ev_up (ev_up σ 6 0 0) 6 0 0) 6 7 0)
                                refine ⟨(md_l41 k22 h25), ?_⟩
                                rintro _ _ ⟨v356, k357, rfl, rfl⟩
                                change ev_wp pg_F pg_lay none [] (ev_lu pg_c135) (fun _ => false) _ 1899 242 [some (.ref 6), some (.int l), some (.int z), some (.int d), some (.int v21), some (.int v23), some (.int v295)] [.int v356] (ev_up (ev_up (ev_up σ 6 0 0) 6 0 0) 6 7 0)
                                refine ⟨fun (h358 : 2 ≤ v356) => ?_, fun (h358 : ¬ 2 ≤ v356) => ?_⟩
                                · skip
                                  change ev_wp pg_F pg_lay none [] (ev_lu pg_c135) (fun _ => false) _ 1897 310 [some (.ref 6), some (.int l), some (.int z), some (.int d), some (.int v21), some (.int v23), some (.int v295)] [] (ev_up (ev_up (ev_up σ 6 0 0) 6 0 0) 6 7 0)
                                  refine ⟨trivial, ?_⟩
                                  rintro _ _ ⟨rfl, rfl⟩
                                  change ev_wp pg_F pg_lay none [] (ev_lu pg_c135) (fun _ => false) _ 1895 314 [some (.ref 6), some (.int l), some (.int z), some (.int d), some (.int v21), some (.int v23), some (.int v295)] [.int ((ev_up (ev_up (ev_up σ 6 0 0) 6 0 0) 6 7 0).1 7 0)] (ev_up (ev_up (ev_up σ 6 0 0) 6 0 0) 6 7 0)
                                  refine ⟨fun (h359 : ((ev_up (ev_up (ev_up σ 6 0 0) 6 0 0) 6 7 0).1 7 0) = 2) => ?_, fun (h359 : ¬ ((ev_up (ev_up (ev_up σ 6 0 0) 6 0 0) 6 7 0).1 7 0) = 2) => ?_⟩
                                  · skip
                                    change ev_wp pg_F pg_lay none [] (ev_lu pg_c135) (fun _ => false) _ 1893 318 [some (.ref 6), some (.int l), some (.int z), some (.int d), some (.int v21), some (.int v23), some (.int v295)] [] (ev_up (ev_up (ev_up σ 6 0 0) 6 0 0) 6 7 0)
                                    refine ⟨⟨i20, (md_gin hp h12)⟩, ?_⟩
                                    rintro _ s362 ⟨v360, k361, rfl⟩
                                    have r363 := r19.tr k361
                                    have i364 := k361.2.2 i20
                                    exact ⟨_, rfl, Nat.le_of_eq (congrArg Prod.snd r363.2.1), _, r363, rfl⟩
                                  · skip
                                    change ev_wp pg_F pg_lay none [] (ev_lu pg_c135) (fun _ => false) _ 1893 326 [some (.ref 6), some (.int l), some (.int z), some (.int d), some (.int v21), some (.int v23), some (.int v295)] [] (ev_up (ev_up (ev_up σ 6 0 0) 6 0 0) 6 7 0)
                                    refine ⟨trivial, ?_⟩
                                    rintro _ _ ⟨rfl, rfl⟩
                                    change ev_wp pg_F pg_lay none [] (ev_lu pg_c135) (fun _ => false) _ 1891 330 [some (.ref 6), some (.int l), some (.int z), some (.int d), some (.int v21), some (.int v23), some (.int v295)] [.int ((ev_up (ev_up (ev_up σ 6 0 0) 6 0 0) 6 7 0).1 7 0)] (ev_up (ev_up (ev_up σ 6 0 0) 6 0 0) 6 7 0)
                                    refine ⟨fun (h365 : ((ev_up (ev_up (ev_up σ 6 0 0) 6 0 0) 6 7 0).1 7 0) = 1) => ?_, fun (h365 : ¬ ((ev_up (ev_up (ev_up σ 6 0 0) 6 0 0) 6 7 0).1 7 0) = 1) => ?_⟩
                                    · skip
                                      change ev_wp pg_F pg_lay none [] (ev_lu pg_c135) (fun _ => false) _ 1889 334 [some (.ref 6), some (.int l), some (.int z), some (.int d), some (.int v21), some (.int v23), some (.int v295)] [] (ev_up (ev_up (ev_up σ 6 0 0) 6 0 0) 6 7 0)
                                      refine ⟨⟨i20, (md_gin hp h12), h365⟩, ?_⟩
                                      rintro _ s368 ⟨v366, k367, rfl⟩
                                      have r369 := r19.tr k367
                                      have i370 := k367.2.2 i20
                                      change ev_wp pg_F pg_lay none [] (ev_lu pg_c135) (fun _ => false) _ 1884 341 [some (.ref 6), some (.int l), some (.int z), some (.int d), some (.int v21), some (.int v23), some (.int v295)] [.int v366] s368
                                      exact ⟨_, rfl, Nat.le_of_eq (congrArg Prod.snd r369.2.1), _, r369, rfl⟩
                                    · skip
                                      change ev_wp pg_F pg_lay none [] (ev_lu pg_c135) (fun _ => false) _ 1889 344 [some (.ref 6), some (.int l), some (.int z), some (.int d), some (.int v21), some (.int v23), some (.int v295)] [] (ev_up (ev_up (ev_up σ 6 0 0) 6 0 0) 6 7 0)
                                      refine ⟨⟨i20, (md_gin hp h12), k296.1⟩, ?_⟩
                                      rintro _ s373 ⟨v371, k372, rfl⟩
                                      have r374 := r19.tr k372
                                      have i375 := k372.2.2 i20
                                      exact ⟨_, rfl, Nat.le_of_eq (congrArg Prod.snd r374.2.1), _, r374, rfl⟩
                                · skip
                                  change ev_wp pg_F pg_lay none [] (ev_lu pg_c135) (fun _ => false) _ 1897 246 [some (.ref 6), some (.int l), some (.int z), some (.int d), some (.int v21), some (.int v23), some (.int v295)] [] (ev_up (ev_up (ev_up σ 6 0 0) 6 0 0) 6 7 0)
                                  refine ⟨(md_l41 k22 h25), ?_⟩
                                  rintro _ _ ⟨v376, k377, rfl, rfl⟩
                                  change ev_wp pg_F pg_lay none [] (ev_lu pg_c135) (fun _ => false) _ 1889 257 [some (.ref 6), some (.int l), some (.int z), some (.int d), some (.int v21), some (.int v23), some (.int v295)] [.int v376, .int 1, .int d, .int z, .int l, .ref 6] (ev_up (ev_up (ev_up σ 6 0 0) 6 0 0) 6 7 0)
                                  refine ⟨(md_l41 k22 h25), ?_⟩
                                  rintro _ _ ⟨v378, k379, rfl, rfl⟩
                                  change ev_wp pg_F pg_lay none [] (ev_lu pg_c135) (fun _ => false) _ 1886 263 [some (.ref 6), some (.int l), some (.int z), some (.int d), some (.int v21), some (.int v23), some (.int v295)] [.int v378, .int v376, .int 1, .int d, .int z, .int l, .ref 6] (ev_up (ev_up (ev_up σ 6 0 0) 6 0 0) 6 7 0)
                                  refine ⟨trivial, ?_⟩
                                  rintro _ _ ⟨rfl, rfl⟩
                                  change ev_wp pg_F pg_lay none [] (ev_lu pg_c135) (fun _ => false) _ 1882 269 [some (.ref 6), some (.int l), some (.int z), some (.int d), some (.int v21), some (.int v23), some (.int v295)] [.int ((ev_up (ev_up (ev_up σ 6 0 0) 6 0 0) 6 7 0).1 7 0), .int (v378 + 1), .int v376, .int 1, .int d, .int z, .int l, .ref 6] (ev_up (ev_up (ev_up σ 6 0 0) 6 0 0) 6 7 0)
                                  refine ⟨fun (h380 : ((ev_up (ev_up (ev_up σ 6 0 0) 6 0 0) 6 7 0).1 7 0) = 1) => ?_, fun (h380 : ¬ ((ev_up (ev_up (ev_up σ 6 0 0) 6 0 0) 6 7 0).1 7 0) = 1) => ?_⟩
                                  · skip
                                    change ev_wp pg_F pg_lay none [] (ev_lu pg_c135) (fun _ => false) _ 1880 273 [some (.ref 6), some (.int l), some (.int z), some (.int d), some (.int v21), some (.int v23), some (.int v295)] [.int (v378 + 1), .int v376, .int 1, .int d, .int z, .int l, .ref 6] (ev_up (ev_up (ev_up σ 6 0 0) 6 0 0) 6 7 0)
                                    refine ⟨trivial, ?_⟩
                                    rintro _ _ ⟨rfl, rfl⟩
                                    change ev_wp pg_F pg_lay none [] (ev_lu pg_c135) (fun _ => false) _ 1878 277 [some (.ref 6), some (.int l), some (.int z), some (.int d), some (.int v21), some (.int v23), some (.int v295)] [.int (md_cnt (ev_up (ev_up (ev_up σ 6 0 0) 6 0 0) 6 7 0) 64), .int (v378 + 1), .int v376, .int 1, .int d, .int z, .int l, .ref 6] (ev_up (ev_up (ev_up σ 6 0 0) 6 0 0) 6 7 0)
                                    refine ⟨⟨i20, (md_gin hp h12)⟩, ?_⟩
                                    rintro _ s382 ⟨k381, rfl⟩
                                    have r383 := r19.tr k381.1
                                    have i384 := k381.1.2.2 i20
                                    change ev_wp pg_F pg_lay none [] (ev_lu pg_c135) (fun _ => false) _ 1875 304 [some (.ref 6), some (.int l), some (.int z), some (.int d), some (.int v21), some (.int v23), some (.int v295)] [] s382
                                    refine ⟨⟨i384, (fun h => (k381.2.2.1 h).2)⟩, ?_⟩
                                    rintro _ s387 ⟨v385, k386, rfl⟩
                                    have r388 := r383.tr k386
                                    have i389 := k386.2.2 i384
                                    exact ⟨_, rfl, Nat.le_of_eq (congrArg Prod.snd r388.2.1), _, r388, rfl⟩
                                  · skip
                                    change ev_wp pg_F pg_lay none [] (ev_lu pg_c135) (fun _ => false) _ 1880 280 [some (.ref 6), some (.int l), some (.int z), some (.int d), some (.int v21), some (.int v23), some (.int v295)] [.int (v378 + 1), .int v376, .int 1, .int d, .int z, .int l, .ref 6] (ev_up (ev_up (ev_up σ 6 0 0) 6 0 0) 6 7 0)
                                    refine ⟨fun (h390 : 0 ≤ v295) => ?_, fun (h390 : ¬ 0 ≤ v295) => ?_⟩
                                    · skip
                                      change ev_wp pg_F pg_lay none [] (ev_lu pg_c135) (fun _ => false) _ 1878 289 [some (.ref 6), some (.int l), some (.int z), some (.int d), some (.int v21), some (.int v23), some (.int v295)] [.int (v378 + 1), .int v376, .int 1, .int d, .int z, .int l, .ref 6] (ev_up (ev_up (ev_up σ 6 0 0) 6 0 0) 6 7 0)
                                      refine ⟨md_vp (md_j5 (md_l5 k296.1 (md_nlt h390))) 0 (by decide) rfl, ?_⟩
                                      rintro _ _ ⟨rfl, rfl⟩
                                      change ev_wp pg_F pg_lay none [] (ev_lu pg_c135) (fun _ => false) _ 1874 296 [some (.ref 6), some (.int l), some (.int z), some (.int d), some (.int v21), some (.int v23), some (.int v295)] [.int ((ev_up (ev_up (ev_up σ 6 0 0) 6 0 0) 6 7 0).1 7 (Int32.toNatClampNeg (4 * v295 + 0))), .int (v378 + 1), .int v376, .int 1, .int d, .int z, .int l, .ref 6] (ev_up (ev_up (ev_up σ 6 0 0) 6 0 0) 6 7 0)
                                      refine ⟨⟨i20, (md_gin hp h12)⟩, ?_⟩
                                      rintro _ s392 ⟨k391, rfl⟩
                                      have r393 := r19.tr k391.1
                                      have i394 := k391.1.2.2 i20
                                      change ev_wp pg_F pg_lay none [] (ev_lu pg_c135) (fun _ => false) _ 1870 304 [some (.ref 6), some (.int l), some (.int z), some (.int d), some (.int v21), some (.int v23), some (.int v295)] [] s392
                                      refine ⟨⟨i394, (fun h => (k391.2.2.1 h).2)⟩, ?_⟩
                                      rintro _ s397 ⟨v395, k396, rfl⟩
                                      have r398 := r393.tr k396
                                      have i399 := k396.2.2 i394
                                      exact ⟨_, rfl, Nat.le_of_eq (congrArg Prod.snd r398.2.1), _, r398, rfl⟩
                                    · skip
                                      change ev_wp pg_F pg_lay none [] (ev_lu pg_c135) (fun _ => false) _ 1878 285 [some (.ref 6), some (.int l), some (.int z), some (.int d), some (.int v21), some (.int v23), some (.int v295)] [.int (v378 + 1), .int v376, .int 1, .int d, .int z, .int l, .ref 6] (ev_up (ev_up (ev_up σ 6 0 0) 6 0 0) 6 7 0)
                                      refine ⟨⟨i20, (md_gin hp h12)⟩, ?_⟩
                                      rintro _ s401 ⟨k400, rfl⟩
                                      have r402 := r19.tr k400.1
                                      have i403 := k400.1.2.2 i20
                                      change ev_wp pg_F pg_lay none [] (ev_lu pg_c135) (fun _ => false) _ 1874 304 [some (.ref 6), some (.int l), some (.int z), some (.int d), some (.int v21), some (.int v23), some (.int v295)] [] s401
                                      refine ⟨⟨i403, (fun h => (k400.2.2.1 h).2)⟩, ?_⟩
                                      rintro _ s406 ⟨v404, k405, rfl⟩
                                      have r407 := r402.tr k405
                                      have i408 := k405.2.2 i403
                                      exact ⟨_, rfl, Nat.le_of_eq (congrArg Prod.snd r407.2.1), _, r407, rfl⟩
                              · skip
                                change ev_wp pg_F pg_lay none [] (ev_lu pg_c135) (fun _ => false) _ 1902 310 [some (.ref 6), some (.int l), some (.int z), some (.int d), some (.int v21), some (.int v23), some (.int v295)] [] (ev_up (ev_up (ev_up σ 6 0 0) 6 0 0) 6 7 0)
                                refine ⟨trivial, ?_⟩
                                rintro _ _ ⟨rfl, rfl⟩
                                change ev_wp pg_F pg_lay none [] (ev_lu pg_c135) (fun _ => false) _ 1900 314 [some (.ref 6), some (.int l), some (.int z), some (.int d), some (.int v21), some (.int v23), some (.int v295)] [.int ((ev_up (ev_up (ev_up σ 6 0 0) 6 0 0) 6 7 0).1 7 0)] (ev_up (ev_up (ev_up σ 6 0 0) 6 0 0) 6 7 0)
                                refine ⟨fun (h409 : ((ev_up (ev_up (ev_up σ 6 0 0) 6 0 0) 6 7 0).1 7 0) = 2) => ?_, fun (h409 : ¬ ((ev_up (ev_up (ev_up σ 6 0 0) 6 0 0) 6 7 0).1 7 0) = 2) => ?_⟩
                                · skip
                                  change ev_wp pg_F pg_lay none [] (ev_lu pg_c135) (fun _ => false) _ 1898 318 [some (.ref 6), some (.int l), some (.int z), some (.int d), some (.int v21), some (.int v23), some (.int v295)] [] (ev_up (ev_up (ev_up σ 6 0 0) 6 0 0) 6 7 0)
                                  refine ⟨⟨i20, (md_gin hp h12)⟩, ?_⟩
                                  rintro _ s412 ⟨v410, k411, rfl⟩
                                  have r413 := r19.tr k411
                                  have i414 := k411.2.2 i20
                                  exact ⟨_, rfl, Nat.le_of_eq (congrArg Prod.snd r413.2.1), _, r413, rfl⟩
                                · skip
                                  change ev_wp pg_F pg_lay none [] (ev_lu pg_c135) (fun _ => false) _ 1898 326 [some (.ref 6), some (.int l), some (.int z), some (.int d), some (.int v21), some (.int v23), some (.int v295)] [] (ev_up (ev_up (ev_up σ 6 0 0) 6 0 0) 6 7 0)
                                  refine ⟨trivial, ?_⟩
                                  rintro _ _ ⟨rfl, rfl⟩
                                  change ev_wp pg_F pg_lay none [] (ev_lu pg_c135) (fun _ => false) _ 1896 330 [some (.ref 6), some (.int l), some (.int z), some (.int d), some (.int v21), some (.int v23), some (.int v295)] [.int ((ev_up (ev_up (ev_up σ 6 0 0) 6 0 0) 6 7 0).1 7 0)] (ev_up (ev_up (ev_up σ 6 0 0) 6 0 0) 6 7 0)
                                  refine ⟨fun (h415 : ((ev_up (ev_up (ev_up σ 6 0 0) 6 0 0) 6 7 0).1 7 0) = 1) => ?_, fun (h415 : ¬ ((ev_up (ev_up (ev_up σ 6 0 0) 6 0 0) 6 7 0).1 7 0) = 1) => ?_⟩
                                  · skip
                                    change ev_wp pg_F pg_lay none [] (ev_lu pg_c135) (fun _ => false) _ 1894 334 [some (.ref 6), some (.int l), some (.int z), some (.int d), some (.int v21), some (.int v23), some (.int v295)] [] (ev_up (ev_up (ev_up σ 6 0 0) 6 0 0) 6 7 0)
                                    refine ⟨⟨i20, (md_gin hp h12), h415⟩, ?_⟩
                                    rintro _ s418 ⟨v416, k417, rfl⟩
                                    have r419 := r19.tr k417
                                    have i420 := k417.2.2 i20
                                    change ev_wp pg_F pg_lay none [] (ev_lu pg_c135) (fun _ => false) _ 1889 341 [some (.ref 6), some (.int l), some (.int z), some (.int d), some (.int v21), some (.int v23), some (.int v295)] [.int v416] s418
                                    exact ⟨_, rfl, Nat.le_of_eq (congrArg Prod.snd r419.2.1), _, r419, rfl⟩
                                  · skip
                                    change ev_wp pg_F pg_lay none [] (ev_lu pg_c135) (fun _ => false) _ 1894 344 [some (.ref 6), some (.int l), some (.int z), some (.int d), some (.int v21), some (.int v23), some (.int v295)] [] (ev_up (ev_up (ev_up σ 6 0 0) 6 0 0) 6 7 0)
                                    refine ⟨⟨i20, (md_gin hp h12), k296.1⟩, ?_⟩
                                    rintro _ s423 ⟨v421, k422, rfl⟩
                                    have r424 := r19.tr k422
                                    have i425 := k422.2.2 i20
                                    exact ⟨_, rfl, Nat.le_of_eq (congrArg Prod.snd r424.2.1), _, r424, rfl⟩
                      · skip
                        change ev_wp pg_F pg_lay none [] (ev_lu pg_c135) (fun _ => false) _ 1927 168 [some (.ref 6), some (.int l), some (.int z), some (.int d), some (.int v21), some (.int v23), none] [] (ev_up (ev_up (ev_up σ 6 0 0) 6 0 0) 6 7 0)
                        refine ⟨Or.inl rfl, ?_⟩
                        have r426 := r19.tr (md_up6 (ev_up (ev_up (ev_up σ 6 0 0) 6 0 0) 6 7 0) 6 0 (by decide) (by decide))
                        have i427 := (md_up6 (ev_up (ev_up (ev_up σ 6 0 0) 6 0 0) 6 7 0) 6 0 (by decide) (by decide)).2.2 i20
                        change ev_wp pg_F pg_lay none [] (ev_lu pg_c135) (fun _ => false) _ 1924 173 [some (.ref 6), some (.int l), some (.int z), some (.int d), some (.int v21), some (.int v23), none] [] (ev_up (ev_up (ev_up (ev_up σ 6 0 0) 6 0 0) 6 7 0) 6 6 0)
                        refine ⟨md_vp (md_j4 (md_l41 k22 h25)) 4 (by decide) rfl, ?_⟩
                        rintro _ _ ⟨rfl, rfl⟩
                        change ev_wp pg_F pg_lay none [] (ev_lu pg_c135) (fun _ => false) _ 1920 180 [some (.ref 6), some (.int l), some (.int z), some (.int d), some (.int v21), some (.int v23), none] [.int ((ev_up (ev_up (ev_up (ev_up σ 6 0 0) 6 0 0) 6 7 0) 6 6 0).1 7 (Int32.toNatClampNeg (4 * v21 + 4)))] (ev_up (ev_up (ev_up (ev_up σ 6 0 0) 6 0 0) 6 7 0) 6 6 0)
                        exact ⟨_, rfl, Nat.le_of_eq (congrArg Prod.snd r426.2.1), _, r426, rfl⟩
                    · skip
                      change ev_wp pg_F pg_lay none [] (ev_lu pg_c135) (fun _ => false) _ 1941 186 [some (.ref 6), some (.int l), some (.int z), some (.int d), some (.int v21), some (.int v23), none] [] (ev_up (ev_up (ev_up σ 6 0 0) 6 0 0) 6 7 0)
                      refine ⟨Or.inl rfl, ?_⟩
                      rintro _ _ ⟨v428, k429, rfl, rfl⟩
                      change ev_wp pg_F pg_lay none [] (ev_lu pg_c135) (fun _ => false) _ 1938 191 [some (.ref 6), some (.int l), some (.int z), some (.int d), some (.int v21), some (.int v23), none] [.int v428] (ev_up (ev_up (ev_up σ 6 0 0) 6 0 0) 6 7 0)
                      refine ⟨trivial, ?_⟩
                      rintro _ _ ⟨rfl, rfl⟩
                      change ev_wp pg_F pg_lay none [] (ev_lu pg_c135) (fun _ => false) _ 1935 197 [some (.ref 6), some (.int l), some (.int z), some (.int d), some (.int v21), some (.int v23), some (.int v428)] [.int ((ev_up (ev_up (ev_up σ 6 0 0) 6 0 0) 6 7 0).1 7 0)] (ev_up (ev_up (ev_up σ 6 0 0) 6 0 0) 6 7 0)
                      refine ⟨fun (h430 : ((ev_up (ev_up (ev_up σ 6 0 0) 6 0 0) 6 7 0).1 7 0) = 2) => ?_, fun (h430 : ¬ ((ev_up (ev_up (ev_up σ 6 0 0) 6 0 0) 6 7 0).1 7 0) = 2) => ?_⟩
                      · skip
                        change ev_wp pg_F pg_lay none [] (ev_lu pg_c135) (fun _ => false) _ 1933 310 [some (.ref 6), some (.int l), some (.int z), some (.int d), some (.int v21), some (.int v23), some (.int v428)] [] (ev_up (ev_up (ev_up σ 6 0 0) 6 0 0) 6 7 0)
                        refine ⟨trivial, ?_⟩
                        rintro _ _ ⟨rfl, rfl⟩
                        change ev_wp pg_F pg_lay none [] (ev_lu pg_c135) (fun _ => false) _ 1931 314 [some (.ref 6), some (.int l), some (.int z), some (.int d), some (.int v21), some (.int v23), some (.int v428)] [.int ((ev_up (ev_up (ev_up σ 6 0 0) 6 0 0) 6 7 0).1 7 0)] (ev_up (ev_up (ev_up σ 6 0 0) 6 0 0) 6 7 0)
                        refine ⟨fun (h431 : ((ev_up (ev_up (ev_up σ 6 0 0) 6 0 0) 6 7 0).1 7 0) = 2) => ?_, fun (h431 : ¬ ((ev_up (ev_up (ev_up σ 6 0 0) 6 0 0) 6 7 0).1 7 0) = 2) => ?_⟩
                        · skip
                          change ev_wp pg_F pg_lay none [] (ev_lu pg_c135) (fun _ => false) _ 1929 318 [some (.ref 6), some (.int l), some (.int z), some (.int d), some (.int v21), some (.int v23), some (.int v428)] [] (ev_up (ev_up (ev_up σ 6 0 0) 6 0 0) 6 7 0)
                          refine ⟨⟨i20, (md_gin hp h12)⟩, ?_⟩
                          rintro _ s434 ⟨v432, k433, rfl⟩
                          have r435 := r19.tr k433
                          have i436 := k433.2.2 i20
                          exact ⟨_, rfl, Nat.le_of_eq (congrArg Prod.snd r435.2.1), _, r435, rfl⟩
                        · skip
                          change ev_wp pg_F pg_lay none [] (ev_lu pg_c135) (fun _ => false) _ 1929 326 [some (.ref 6), some (.int l), some (.int z), some (.int d), some (.int v21), some (.int v23), some (.int v428)] [] (ev_up (ev_up (ev_up σ 6 0 0) 6 0 0) 6 7 0)
                          refine ⟨trivial, ?_⟩
                          rintro _ _ ⟨rfl, rfl⟩
                          change ev_wp pg_F pg_lay none [] (ev_lu pg_c135) (fun _ => false) _ 1927 330 [some (.ref 6), some (.int l), some (.int z), some (.int d), some (.int v21), some (.int v23), some (.int v428)] [.int ((ev_up (ev_up (ev_up σ 6 0 0) 6 0 0) 6 7 0).1 7 0)] (ev_up (ev_up (ev_up σ 6 0 0) 6 0 0) 6 7 0)
                          refine ⟨fun (h437 : ((ev_up (ev_up (ev_up σ 6 0 0) 6 0 0) 6 7 0).1 7 0) = 1) => ?_, fun (h437 : ¬ ((ev_up (ev_up (ev_up σ 6 0 0) 6 0 0) 6 7 0).1 7 0) = 1) => ?_⟩
                          · skip
                            change ev_wp pg_F pg_lay none [] (ev_lu pg_c135) (fun _ => false) _ 1925 334 [some (.ref 6), some (.int l), some (.int z), some (.int d), some (.int v21), some (.int v23), some (.int v428)] [] (ev_up (ev_up (ev_up σ 6 0 0) 6 0 0) 6 7 0)
                            refine ⟨⟨i20, (md_gin hp h12), h437⟩, ?_⟩
                            rintro _ s440 ⟨v438, k439, rfl⟩
                            have r441 := r19.tr k439
                            have i442 := k439.2.2 i20
                            change ev_wp pg_F pg_lay none [] (ev_lu pg_c135) (fun _ => false) _ 1920 341 [some (.ref 6), some (.int l), some (.int z), some (.int d), some (.int v21), some (.int v23), some (.int v428)] [.int v438] s440
                            exact ⟨_, rfl, Nat.le_of_eq (congrArg Prod.snd r441.2.1), _, r441, rfl⟩
                          · skip
                            change ev_wp pg_F pg_lay none [] (ev_lu pg_c135) (fun _ => false) _ 1925 344 [some (.ref 6), some (.int l), some (.int z), some (.int d), some (.int v21), some (.int v23), some (.int v428)] [] (ev_up (ev_up (ev_up σ 6 0 0) 6 0 0) 6 7 0)
                            refine ⟨⟨i20, (md_gin hp h12), k429.1⟩, ?_⟩
                            rintro _ s445 ⟨v443, k444, rfl⟩
                            have r446 := r19.tr k444
                            have i447 := k444.2.2 i20
                            exact ⟨_, rfl, Nat.le_of_eq (congrArg Prod.snd r446.2.1), _, r446, rfl⟩
                      · skip
                        change ev_wp pg_F pg_lay none [] (ev_lu pg_c135) (fun _ => false) _ 1933 201 [some (.ref 6), some (.int l), some (.int z), some (.int d), some (.int v21), some (.int v23), some (.int v428)] [] (ev_up (ev_up (ev_up σ 6 0 0) 6 0 0) 6 7 0)
                        refine ⟨fun (h448 : v21 < 0) => ?_, fun (h448 : ¬ v21 < 0) => ?_⟩
                        · skip
                          change ev_wp pg_F pg_lay none [] (ev_lu pg_c135) (fun _ => false) _ 1931 310 [some (.ref 6), some (.int l), some (.int z), some (.int d), some (.int v21), some (.int v23), some (.int v428)] [] (ev_up (ev_up (ev_up σ 6 0 0) 6 0 0) 6 7 0)
                          refine ⟨trivial, ?_⟩
                          rintro _ _ ⟨rfl, rfl⟩
                          change ev_wp pg_F pg_lay none [] (ev_lu pg_c135) (fun _ => false) _ 1929 314 [some (.ref 6), some (.int l), some (.int z), some (.int d), some (.int v21), some (.int v23), some (.int v428)] [.int ((ev_up (ev_up (ev_up σ 6 0 0) 6 0 0) 6 7 0).1 7 0)] (ev_up (ev_up (ev_up σ 6 0 0) 6 0 0) 6 7 0)
                          refine ⟨fun (h449 : ((ev_up (ev_up (ev_up σ 6 0 0) 6 0 0) 6 7 0).1 7 0) = 2) => ?_, fun (h449 : ¬ ((ev_up (ev_up (ev_up σ 6 0 0) 6 0 0) 6 7 0).1 7 0) = 2) => ?_⟩
                          · skip
                            change ev_wp pg_F pg_lay none [] (ev_lu pg_c135) (fun _ => false) _ 1927 318 [some (.ref 6), some (.int l), some (.int z), some (.int d), some (.int v21), some (.int v23), some (.int v428)] [] (ev_up (ev_up (ev_up σ 6 0 0) 6 0 0) 6 7 0)
                            refine ⟨⟨i20, (md_gin hp h12)⟩, ?_⟩
                            rintro _ s452 ⟨v450, k451, rfl⟩
                            have r453 := r19.tr k451
                            have i454 := k451.2.2 i20
                            exact ⟨_, rfl, Nat.le_of_eq (congrArg Prod.snd r453.2.1), _, r453, rfl⟩
                          · skip
                            change ev_wp pg_F pg_lay none [] (ev_lu pg_c135) (fun _ => false) _ 1927 326 [some (.ref 6), some (.int l), some (.int z), some (.int d), some (.int v21), some (.int v23), some (.int v428)] [] (ev_up (ev_up (ev_up σ 6 0 0) 6 0 0) 6 7 0)
                            refine ⟨trivial, ?_⟩
                            rintro _ _ ⟨rfl, rfl⟩
                            change ev_wp pg_F pg_lay none [] (ev_lu pg_c135) (fun _ => false) _ 1925 330 [some (.ref 6), some (.int l), some (.int z), some (.int d), some (.int v21), some (.int v23), some (.int v428)] [.int ((ev_up (ev_up (ev_up σ 6 0 0) 6 0 0) 6 7 0).1 7 0)] (ev_up (ev_up (ev_up σ 6 0 0) 6 0 0) 6 7 0)
                            refine ⟨fun (h455 : ((ev_up (ev_up (ev_up σ 6 0 0) 6 0 0) 6 7 0).1 7 0) = 1) => ?_, fun (h455 : ¬ ((ev_up (ev_up (ev_up σ 6 0 0) 6 0 0) 6 7 0).1 7 0) = 1) => ?_⟩
                            · skip
                              change ev_wp pg_F pg_lay none [] (ev_lu pg_c135) (fun _ => false) _ 1923 334 [some (.ref 6), some (.int l), some (.int z), some (.int d), some (.int v21), some (.int v23), some (.int v428)] [] (ev_up (ev_up (ev_up σ 6 0 0) 6 0 0) 6 7 0)
                              refine ⟨⟨i20, (md_gin hp h12), h455⟩, ?_⟩
                              rintro _ s458 ⟨v456, k457, rfl⟩
                              have r459 := r19.tr k457
                              have i460 := k457.2.2 i20
                              change ev_wp pg_F pg_lay none [] (ev_lu pg_c135) (fun _ => false) _ 1918 341 [some (.ref 6), some (.int l), some (.int z), some (.int d), some (.int v21), some (.int v23), some (.int v428)] [.int v456] s458
                              exact ⟨_, rfl, Nat.le_of_eq (congrArg Prod.snd r459.2.1), _, r459, rfl⟩
                            · skip
                              change ev_wp pg_F pg_lay none [] (ev_lu pg_c135) (fun _ => false) _ 1923 344 [some (.ref 6), some (.int l), some (.int z), some (.int d), some (.int v21), some (.int v23), some (.int v428)] [] (ev_up (ev_up (ev_up σ 6 0 0) 6 0 0) 6 7 0)
                              refine ⟨⟨i20, (md_gin hp h12), k429.1⟩, ?_⟩
                              rintro _ s463 ⟨v461, k462, rfl⟩
                              have r464 := r19.tr k462
                              have i465 := k462.2.2 i20
                              exact ⟨_, rfl, Nat.le_of_eq (congrArg Prod.snd r464.2.1), _, r464, rfl⟩
                        · skip
                          change ev_wp pg_F pg_lay none [] (ev_lu pg_c135) (fun _ => false) _ 1931 206 [some (.ref 6), some (.int l), some (.int z), some (.int d), some (.int v21), some (.int v23), some (.int v428)] [] (ev_up (ev_up (ev_up σ 6 0 0) 6 0 0) 6 7 0)
                          refine ⟨(md_l41 k22 h25), ?_⟩
                          rintro _ _ ⟨v466, k467, rfl, rfl⟩
                          change ev_wp pg_F pg_lay none [] (ev_lu pg_c135) (fun _ => false) _ 1928 212 [some (.ref 6), some (.int l), some (.int z), some (.int d), some (.int v21), some (.int v23), some (.int v428)] [.int v466] (ev_up (ev_up (ev_up σ 6 0 0) 6 0 0) 6 7 0)
                          refine ⟨trivial, ?_⟩
                          rintro _ _ ⟨v468, k469, rfl, rfl⟩
                          change ev_wp pg_F pg_lay none [] (ev_lu pg_c135) (fun _ => false) _ 1925 219 [some (.ref 6), some (.int l), some (.int z), some (.int d), some (.int v21), some (.int v23), some (.int v428)] [.int v468] (ev_up (ev_up (ev_up σ 6 0 0) 6 0 0) 6 7 0)
                          refine ⟨fun (h470 : v468 = 0) => ?_, fun (h470 : ¬ v468 = 0) => ?_⟩
                          · skip
                            change ev_wp pg_F pg_lay none [] (ev_lu pg_c135) (fun _ => false) _ 1924 310 [some (.ref 6), some (.int l), some (.int z), some (.int d), some (.int v21), some (.int v23), some (.int v428)] [] (ev_up (ev_up (ev_up σ 6 0 0) 6 0 0) 6 7 0)
                            refine ⟨trivial, ?_⟩
                            rintro _ _ ⟨rfl, rfl⟩
                            change ev_wp pg_F pg_lay none [] (ev_lu pg_c135) (fun _ => false) _ 1922 314 [some (.ref 6), some (.int l), some (.int z), some (.int d), some (.int v21), some (.int v23), some (.int v428)] [.int ((ev_up (ev_up (ev_up σ 6 0 0) 6 0 0) 6 7 0).1 7 0)] (ev_up (ev_up (ev_up σ 6 0 0) 6 0 0) 6 7 0)
                            refine ⟨fun (h471 : ((ev_up (ev_up (ev_up σ 6 0 0) 6 0 0) 6 7 0).1 7 0) = 2) => ?_, fun (h471 : ¬ ((ev_up (ev_up (ev_up σ 6 0 0) 6 0 0) 6 7 0).1 7 0) = 2) => ?_⟩
                            · skip
                              change ev_wp pg_F pg_lay none [] (ev_lu pg_c135) (fun _ => false) _ 1920 318 [some (.ref 6), some (.int l), some (.int z), some (.int d), some (.int v21), some (.int v23), some (.int v428)] [] (ev_up (ev_up (ev_up σ 6 0 0) 6 0 0) 6 7 0)
                              refine ⟨⟨i20, (md_gin hp h12)⟩, ?_⟩
                              rintro _ s474 ⟨v472, k473, rfl⟩
                              have r475 := r19.tr k473
                              have i476 := k473.2.2 i20
                              exact ⟨_, rfl, Nat.le_of_eq (congrArg Prod.snd r475.2.1), _, r475, rfl⟩
                            · skip
                              change ev_wp pg_F pg_lay none [] (ev_lu pg_c135) (fun _ => false) _ 1920 326 [some (.ref 6), some (.int l), some (.int z), some (.int d), some (.int v21), some (.int v23), some (.int v428)] [] (ev_up (ev_up (ev_up σ 6 0 0) 6 0 0) 6 7 0)
                              refine ⟨trivial, ?_⟩
                              rintro _ _ ⟨rfl, rfl⟩
                              change ev_wp pg_F pg_lay none [] (ev_lu pg_c135) (fun _ => false) _ 1918 330 [some (.ref 6), some (.int l), some (.int z), some (.int d), some (.int v21), some (.int v23), some (.int v428)] [.int ((ev_up (ev_up (ev_up σ 6 0 0) 6 0 0) 6 7 0).1 7 0)] (ev_up (ev_up (ev_up σ 6 0 0) 6 0 0) 6 7 0)
                              refine ⟨fun (h477 : ((ev_up (ev_up (ev_up σ 6 0 0) 6 0 0) 6 7 0).1 7 0) = 1) => ?_, fun (h477 : ¬ ((ev_up (ev_up (ev_up σ 6 0 0) 6 0 0) 6 7 0).1 7 0) = 1) => ?_⟩
                              · skip
                                change ev_wp pg_F pg_lay none [] (ev_lu pg_c135) (fun _ => false) _ 1916 334 [some (.ref 6), some (.int l), some (.int z), some (.int d), some (.int v21), some (.int v23), some (.int v428)] [] (ev_up (ev_up (ev_up σ 6 0 0) 6 0 0) 6 7 0)
                                refine ⟨⟨i20, (md_gin hp h12), h477⟩, ?_⟩
                                rintro _ s480 ⟨v478, k479, rfl⟩
                                have r481 := r19.tr k479
                                have i482 := k479.2.2 i20
                                change ev_wp pg_F pg_lay none [] (ev_lu pg_c135) (fun _ => false) _ 1911 341 [some (.ref 6), some (.int l), some (.int z), some (.int d), some (.int v21), some (.int v23), some (.int v428)] [.int v478] s480
                                exact ⟨_, rfl, Nat.le_of_eq (congrArg Prod.snd r481.2.1), _, r481, rfl⟩
                              · skip
                                change ev_wp pg_F pg_lay none [] (ev_lu pg_c135) (fun _ => false) _ 1916 344 [some (.ref 6), some (.int l), some (.int z), some (.int d), some (.int v21), some (.int v23), some (.int v428)] [] (ev_up (ev_up (ev_up σ 6 0 0) 6 0 0) 6 7 0)
                                refine ⟨⟨i20, (md_gin hp h12), k429.1⟩, ?_⟩
                                rintro _ s485 ⟨v483, k484, rfl⟩
                                have r486 := r19.tr k484
                                have i487 := k484.2.2 i20
                                exact ⟨_, rfl, Nat.le_of_eq (congrArg Prod.snd r486.2.1), _, r486, rfl⟩
                          · skip
                            change ev_wp pg_F pg_lay none [] (ev_lu pg_c135) (fun _ => false) _ 1924 222 [some (.ref 6), some (.int l), some (.int z), some (.int d), some (.int v21), some (.int v23), some (.int v428)] [] (ev_up (ev_up (ev_up σ 6 0 0) 6 0 0) 6 7 0)
                            refine ⟨md_vp (md_j4 (md_l41 k22 h25)) 4 (by decide) rfl, ?_⟩
                            rintro _ _ ⟨rfl, rfl⟩
                            change ev_wp pg_F pg_lay none [] (ev_lu pg_c135) (fun _ => false) _ 1920 229 [some (.ref 6), some (.int l), some (.int z), some (.int d), some (.int v21), some (.int v23), some (.int v428)] [.int ((ev_up (ev_up (ev_up σ 6 0 0) 6 0 0) 6 7 0).1 7 (Int32.toNatClampNeg (4 * v21 + 4)))] (ev_up (ev_up (ev_up σ 6 0 0) 6 0 0) 6 7 0)
                            refine ⟨fun (h488 : (((ev_up (ev_up (ev_up σ 6 0 0) 6 0 0) 6 7 0).1 7 (Int32.toNatClampNeg (4 * v21 + 4))) &&& 15) = d) => ?_, fun (h488 : ¬ (((ev_up (ev_up (ev_up σ 6 0 0) 6 0 0) 6 7 0).1 7 (Int32.toNatClampNeg (4 * v21 + 4))) &&& 15) = d) => ?_⟩
                            · skip
                              change ev_wp pg_F pg_lay none [] (ev_lu pg_c135) (fun _ => false) _ 1916 236 [some (.ref 6), some (.int l), some (.int z), some (.int d), some (.int v21), some (.int v23), some (.int v428)] [] (ev_up (ev_up (ev_up σ 6 0 0) 6 0 0) 6 7 0)
                              refine ⟨(md_l41 k22 h25), ?_⟩
                              rintro _ _ ⟨v489, k490, rfl, rfl⟩
                              change ev_wp pg_F pg_lay none [] (ev_lu pg_c135) (fun _ => false) _ 1913 242 [some (.ref 6), some (.int l), some (.int z), some (.int d), some (.int v21), some (.int v23), some (.int v428)] [.int v489] (ev_up (ev_up (ev_up σ 6 0 0) 6 0 0) 6 7 0)
                              refine ⟨fun (h491 : 2 ≤ v489) => ?_, fun (h491 : ¬ 2 ≤ v489) => ?_⟩
                              · skip
                                change ev_wp pg_F pg_lay none [] (ev_lu pg_c135) (fun _ => false) _ 1911 310 [some (.ref 6), some (.int l), some (.int z), some (.int d), some (.int v21), some (.int v23), some (.int v428)] [] (ev_up (ev_up (ev_up σ 6 0 0) 6 0 0) 6 7 0)
                                refine ⟨trivial, ?_⟩
                                rintro _ _ ⟨rfl, rfl⟩
                                change ev_wp pg_F pg_lay none [] (ev_lu pg_c135) (fun _ => false) _ 1909 314 [some (.ref 6), some (.int l), some (.int z), some (.int d), some (.int v21), some (.int v23), some (.int v428)] [.int ((ev_up (ev_up (ev_up σ 6 0 0) 6 0 0) 6 7 0).1 7 0)] (ev_up (ev_up (ev_up σ 6 0 0) 6 0 0) 6 7 0)
                                refine ⟨fun (h492 : ((ev_up (ev_up (ev_up σ 6 0 0) 6 0 0) 6 7 0).1 7 0) = 2) => ?_, fun (h492 : ¬ ((ev_up (ev_up (ev_up σ 6 0 0) 6 0 0) 6 7 0).1 7 0) = 2) => ?_⟩
                                · skip
                                  change ev_wp pg_F pg_lay none [] (ev_lu pg_c135) (fun _ => false) _ 1907 318 [some (.ref 6), some (.int l), some (.int z), some (.int d), some (.int v21), some (.int v23), some (.int v428)] [] (ev_up (ev_up (ev_up σ 6 0 0) 6 0 0) 6 7 0)
                                  refine ⟨⟨i20, (md_gin hp h12)⟩, ?_⟩
                                  rintro _ s495 ⟨v493, k494, rfl⟩
                                  have r496 := r19.tr k494
                                  have i497 := k494.2.2 i20
                                  exact ⟨_, rfl, Nat.le_of_eq (congrArg Prod.snd r496.2.1), _, r496, rfl⟩
                                · skip
                                  change ev_wp pg_F pg_lay none [] (ev_lu pg_c135) (fun _ => false) _ 1907 326 [some (.ref 6), some (.int l), some (.int z), some (.int d), some (.int v21), some (.int v23), some (.int v428)] [] (ev_up (ev_up (ev_up σ 6 0 0) 6 0 0) 6 7 0)
                                  refine ⟨trivial, ?_⟩
                                  rintro _ _ ⟨rfl, rfl⟩
                                  change ev_wp pg_F pg_lay none [] (ev_lu pg_c135) (fun _ => false) _ 1905 330 [some (.ref 6), some (.int l), some (.int z), some (.int d), some (.int v21), some (.int v23), some (.int v428)] [.int ((ev_up (ev_up (ev_up σ 6 0 0) 6 0 0) 6 7 0).1 7 0)] (ev_up (ev_up (ev_up σ 6 0 0) 6 0 0) 6 7 0)
                                  refine ⟨fun (h498 : ((ev_up (ev_up (ev_up σ 6 0 0) 6 0 0) 6 7 0).1 7 0) = 1) => ?_, fun (h498 : ¬ ((ev_up (ev_up (ev_up σ 6 0 0) 6 0 0) 6 7 0).1 7 0) = 1) => ?_⟩
                                  · skip
                                    change ev_wp pg_F pg_lay none [] (ev_lu pg_c135) (fun _ => false) _ 1903 334 [some (.ref 6), some (.int l), some (.int z), some (.int d), some (.int v21), some (.int v23), some (.int v428)] [] (ev_up (ev_up (ev_up σ 6 0 0) 6 0 0) 6 7 0)
                                    refine ⟨⟨i20, (md_gin hp h12), h498⟩, ?_⟩
                                    rintro _ s501 ⟨v499, k500, rfl⟩
                                    have r502 := r19.tr k500
                                    have i503 := k500.2.2 i20
                                    change ev_wp pg_F pg_lay none [] (ev_lu pg_c135) (fun _ => false) _ 1898 341 [some (.ref 6), some (.int l), some (.int z), some (.int d), some (.int v21), some (.int v23), some (.int v428)] [.int v499] s501
                                    exact ⟨_, rfl, Nat.le_of_eq (congrArg Prod.snd r502.2.1), _, r502, rfl⟩
                                  · skip
                                    change ev_wp pg_F pg_lay none [] (ev_lu pg_c135) (fun _ => false) _ 1903 344 [some (.ref 6), some (.int l), some (.int z), some (.int d), some (.int v21), some (.int v23), some (.int v428)] [] (ev_up (ev_up (ev_up σ 6 0 0) 6 0 0) 6 7 0)
                                    refine ⟨⟨i20, (md_gin hp h12), k429.1⟩, ?_⟩
                                    rintro _ s506 ⟨v504, k505, rfl⟩
                                    have r507 := r19.tr k505
                                    have i508 := k505.2.2 i20
                                    exact ⟨_, rfl, Nat.le_of_eq (congrArg Prod.snd r507.2.1), _, r507, rfl⟩
                              · skip
                                change ev_wp pg_F pg_lay none [] (ev_lu pg_c135) (fun _ => false) _ 1911 246 [some (.ref 6), some (.int l), some (.int z), some (.int d), some (.int v21), some (.int v23), some (.int v428)] [] (ev_up (ev_up (ev_up σ 6 0 0) 6 0 0) 6 7 0)
                                refine ⟨(md_l41 k22 h25), ?_⟩
                                rintro _ _ ⟨v509, k510, rfl, rfl⟩
                                change ev_wp pg_F pg_lay none [] (ev_lu pg_c135) (fun _ => false) _ 1903 257 [some (.ref 6), some (.int l), some (.int z), some (.int d), some (.int v21), some (.int v23), some (.int v428)] [.int v509, .int 1, .int d, .int z, .int l, .ref 6] (ev_up (ev_up (ev_up σ 6 0 0) 6 0 0) 6 7 0)
                                refine ⟨(md_l41 k22 h25), ?_⟩
                                rintro _ _ ⟨v511, k512, rfl, rfl⟩
                                change ev_wp pg_F pg_lay none [] (ev_lu pg_c135) (fun _ => false) _ 1900 263 [some (.ref 6), some (.int l), some (.int z), some (.int d), some (.int v21), some (.int v23), some (.int v428)] [.int v511, .int v509, .int 1, .int d, .int z, .int l, .ref 6] (ev_up (ev_up (ev_up σ 6 0 0) 6 0 0) 6 7 0)
                                refine ⟨trivial, ?_⟩
                                rintro _ _ ⟨rfl, rfl⟩
                                change ev_wp pg_F pg_lay none [] (ev_lu pg_c135) (fun _ => false) _ 1896 269 [some (.ref 6), some (.int l), some (.int z), some (.int d), some (.int v21), some (.int v23), some (.int v428)] [.int ((ev_up (ev_up (ev_up σ 6 0 0) 6 0 0) 6 7 0).1 7 0), .int (v511 + 1), .int v509, .int 1, .int d, .int z, .int l, .ref 6] (ev_up (ev_up (ev_up σ 6 0 0) 6 0 0) 6 7 0)
                                refine ⟨fun (h513 : ((ev_up (ev_up (ev_up σ 6 0 0) 6 0 0) 6 7 0).1 7 0) = 1) => ?_, fun (h513 : ¬ ((ev_up (ev_up (ev_up σ 6 0 0) 6 0 0) 6 7 0).1 7 0) = 1) => ?_⟩
                                · skip
                                  change ev_wp pg_F pg_lay none [] (ev_lu pg_c135) (fun _ => false) _ 1894 273 [some (.ref 6), some (.int l), some (.int z), some (.int d), some (.int v21), some (.int v23), some (.int v428)] [.int (v511 + 1), .int v509, .int 1, .int d, .int z, .int l, .ref 6] (ev_up (ev_up (ev_up σ 6 0 0) 6 0 0) 6 7 0)
                                  refine ⟨trivial, ?_⟩
                                  rintro _ _ ⟨rfl, rfl⟩
                                  change ev_wp pg_F pg_lay none [] (ev_lu pg_c135) (fun _ => false) _ 1892 277 [some (.ref 6), some (.int l), some (.int z), some (.int d), some (.int v21), some (.int v23), some (.int v428)] [.int (md_cnt (ev_up (ev_up (ev_up σ 6 0 0) 6 0 0) 6 7 0) 64), .int (v511 + 1), .int v509, .int 1, .int d, .int z, .int l, .ref 6] (ev_up (ev_up (ev_up σ 6 0 0) 6 0 0) 6 7 0)
                                  refine ⟨⟨i20, (md_gin hp h12)⟩, ?_⟩
                                  rintro _ s515 ⟨k514, rfl⟩
                                  have r516 := r19.tr k514.1
                                  have i517 := k514.1.2.2 i20
                                  change ev_wp pg_F pg_lay none [] (ev_lu pg_c135) (fun _ => false) _ 1889 304 [some (.ref 6), some (.int l), some (.int z), some (.int d), some (.int v21), some (.int v23), some (.int v428)] [] s515
                                  refine ⟨⟨i517, (fun h => (k514.2.2.1 h).2)⟩, ?_⟩
                                  rintro _ s520 ⟨v518, k519, rfl⟩
                                  have r521 := r516.tr k519
                                  have i522 := k519.2.2 i517
                                  exact ⟨_, rfl, Nat.le_of_eq (congrArg Prod.snd r521.2.1), _, r521, rfl⟩
                                · skip
                                  change ev_wp pg_F pg_lay none [] (ev_lu pg_c135) (fun _ => false) _ 1894 280 [some (.ref 6), some (.int l), some (.int z), some (.int d), some (.int v21), some (.int v23), some (.int v428)] [.int (v511 + 1), .int v509, .int 1, .int d, .int z, .int l, .ref 6] (ev_up (ev_up (ev_up σ 6 0 0) 6 0 0) 6 7 0)
                                  refine ⟨fun (h523 : 0 ≤ v428) => ?_, fun (h523 : ¬ 0 ≤ v428) => ?_⟩
                                  · skip
                                    change ev_wp pg_F pg_lay none [] (ev_lu pg_c135) (fun _ => false) _ 1892 289 [some (.ref 6), some (.int l), some (.int z), some (.int d), some (.int v21), some (.int v23), some (.int v428)] [.int (v511 + 1), .int v509, .int 1, .int d, .int z, .int l, .ref 6] (ev_up (ev_up (ev_up σ 6 0 0) 6 0 0) 6 7 0)
                                    refine ⟨md_vp (md_j5 (md_l5 k429.1 (md_nlt h523))) 0 (by decide) rfl, ?_⟩
                                    rintro _ _ ⟨rfl, rfl⟩
                                    change ev_wp pg_F pg_lay none [] (ev_lu pg_c135) (fun _ => false) _ 1888 296 [some (.ref 6), some (.int l), some (.int z), some (.int d), some (.int v21), some (.int v23), some (.int v428)] [.int ((ev_up (ev_up (ev_up σ 6 0 0) 6 0 0) 6 7 0).1 7 (Int32.toNatClampNeg (4 * v428 + 0))), .int (v511 + 1), .int v509, .int 1, .int d, .int z, .int l, .ref 6] (ev_up (ev_up (ev_up σ 6 0 0) 6 0 0) 6 7 0)
                                    refine ⟨⟨i20, (md_gin hp h12)⟩, ?_⟩
                                    rintro _ s525 ⟨k524, rfl⟩
                                    have r526 := r19.tr k524.1
                                    have i527 := k524.1.2.2 i20
                                    change ev_wp pg_F pg_lay none [] (ev_lu pg_c135) (fun _ => false) _ 1884 304 [some (.ref 6), some (.int l), some (.int z), some (.int d), some (.int v21), some (.int v23), some (.int v428)] [] s525
                                    refine ⟨⟨i527, (fun h => (k524.2.2.1 h).2)⟩, ?_⟩
                                    rintro _ s530 ⟨v528, k529, rfl⟩
                                    have r531 := r526.tr k529
                                    have i532 := k529.2.2 i527
                                    exact ⟨_, rfl, Nat.le_of_eq (congrArg Prod.snd r531.2.1), _, r531, rfl⟩
                                  · skip
                                    change ev_wp pg_F pg_lay none [] (ev_lu pg_c135) (fun _ => false) _ 1892 285 [some (.ref 6), some (.int l), some (.int z), some (.int d), some (.int v21), some (.int v23), some (.int v428)] [.int (v511 + 1), .int v509, .int 1, .int d, .int z, .int l, .ref 6] (ev_up (ev_up (ev_up σ 6 0 0) 6 0 0) 6 7 0)
                                    refine ⟨⟨i20, (md_gin hp h12)⟩, ?_⟩
                                    rintro _ s534 ⟨k533, rfl⟩
                                    have r535 := r19.tr k533.1
                                    have i536 := k533.1.2.2 i20
                                    change ev_wp pg_F pg_lay none [] (ev_lu pg_c135) (fun _ => false) _ 1888 304 [some (.ref 6), some (.int l), some (.int z), some (.int d), some (.int v21), some (.int v23), some (.int v428)] [] s534
                                    refine ⟨⟨i536, (fun h => (k533.2.2.1 h).2)⟩, ?_⟩
                                    rintro _ s539 ⟨v537, k538, rfl⟩
                                    have r540 := r535.tr k538
                                    have i541 := k538.2.2 i536
                                    exact ⟨_, rfl, Nat.le_of_eq (congrArg Prod.snd r540.2.1), _, r540, rfl⟩
                            · skip
                              change ev_wp pg_F pg_lay none [] (ev_lu pg_c135) (fun _ => false) _ 1916 310 [some (.ref 6), some (.int l), some (.int z), some (.int d), some (.int v21), some (.int v23), some (.int v428)] [] (ev_up (ev_up (ev_up σ 6 0 0) 6 0 0) 6 7 0)
                              refine ⟨trivial, ?_⟩
                              rintro _ _ ⟨rfl, rfl⟩
                              change ev_wp pg_F pg_lay none [] (ev_lu pg_c135) (fun _ => false) _ 1914 314 [some (.ref 6), some (.int l), some (.int z), some (.int d), some (.int v21), some (.int v23), some (.int v428)] [.int ((ev_up (ev_up (ev_up σ 6 0 0) 6 0 0) 6 7 0).1 7 0)] (ev_up (ev_up (ev_up σ 6 0 0) 6 0 0) 6 7 0)
                              refine ⟨fun (h542 : ((ev_up (ev_up (ev_up σ 6 0 0) 6 0 0) 6 7 0).1 7 0) = 2) => ?_, fun (h542 : ¬ ((ev_up (ev_up (ev_up σ 6 0 0) 6 0 0) 6 7 0).1 7 0) = 2) => ?_⟩
                              · skip
                                change ev_wp pg_F pg_lay none [] (ev_lu pg_c135) (fun _ => false) _ 1912 318 [some (.ref 6), some (.int l), some (.int z), some (.int d), some (.int v21), some (.int v23), some (.int v428)] [] (ev_up (ev_up (ev_up σ 6 0 0) 6 0 0) 6 7 0)
                                refine ⟨⟨i20, (md_gin hp h12)⟩, ?_⟩
                                rintro _ s545 ⟨v543, k544, rfl⟩
                                have r546 := r19.tr k544
                                have i547 := k544.2.2 i20
                                exact ⟨_, rfl, Nat.le_of_eq (congrArg Prod.snd r546.2.1), _, r546, rfl⟩
                              · skip
                                change ev_wp pg_F pg_lay none [] (ev_lu pg_c135) (fun _ => false) _ 1912 326 [some (.ref 6), some (.int l), some (.int z), some (.int d), some (.int v21), some (.int v23), some (.int v428)] [] (ev_up (ev_up (ev_up σ 6 0 0) 6 0 0) 6 7 0)
                                refine ⟨trivial, ?_⟩
                                rintro _ _ ⟨rfl, rfl⟩
                                change ev_wp pg_F pg_lay none [] (ev_lu pg_c135) (fun _ => false) _ 1910 330 [some (.ref 6), some (.int l), some (.int z), some (.int d), some (.int v21), some (.int v23), some (.int v428)] [.int ((ev_up (ev_up (ev_up σ 6 0 0) 6 0 0) 6 7 0).1 7 0)] (ev_up (ev_up (ev_up σ 6 0 0) 6 0 0) 6 7 0)
                                refine ⟨fun (h548 : ((ev_up (ev_up (ev_up σ 6 0 0) 6 0 0) 6 7 0).1 7 0) = 1) => ?_, fun (h548 : ¬ ((ev_up (ev_up (ev_up σ 6 0 0) 6 0 0) 6 7 0).1 7 0) = 1) => ?_⟩
                                · skip
                                  change ev_wp pg_F pg_lay none [] (ev_lu pg_c135) (fun _ => false) _ 1908 334 [some (.ref 6), some (.int l), some (.int z), some (.int d), some (.int v21), some (.int v23), some (.int v428)] [] (ev_up (ev_up (ev_up σ 6 0 0) 6 0 0) 6 7 0)
                                  refine ⟨⟨i20, (md_gin hp h12), h548⟩, ?_⟩
                                  rintro _ s551 ⟨v549, k550, rfl⟩
                                  have r552 := r19.tr k550
                                  have i553 := k550.2.2 i20
                                  change ev_wp pg_F pg_lay none [] (ev_lu pg_c135) (fun _ => false) _ 1903 341 [some (.ref 6), some (.int l), some (.int z), some (.int d), some (.int v21), some (.int v23), some (.int v428)] [.int v549] s551
                                  exact ⟨_, rfl, Nat.le_of_eq (congrArg Prod.snd r552.2.1), _, r552, rfl⟩
                                · skip
                                  change ev_wp pg_F pg_lay none [] (ev_lu pg_c135) (fun _ => false) _ 1908 344 [some (.ref 6), some (.int l), some (.int z), some (.int d), some (.int v21), some (.int v23), some (.int v428)] [] (ev_up (ev_up (ev_up σ 6 0 0) 6 0 0) 6 7 0)
                                  refine ⟨⟨i20, (md_gin hp h12), k429.1⟩, ?_⟩
                                  rintro _ s556 ⟨v554, k555, rfl⟩
                                  have r557 := r19.tr k555
                                  have i558 := k555.2.2 i20
                                  exact ⟨_, rfl, Nat.le_of_eq (congrArg Prod.snd r557.2.1), _, r557, rfl⟩
            · skip
              change ev_wp pg_F pg_lay none [] (ev_lu pg_c135) (fun _ => false) _ 1966 78 [some (.ref 6), some (.int l), some (.int z), some (.int d), none, none, none] [] (ev_up (ev_up σ 6 0 0) 6 0 0)
              refine ⟨trivial, ?_⟩
              rintro _ _ ⟨_, ⟨rfl, rfl⟩, rfl⟩
              have r559 := r13.tr (md_up6 (ev_up (ev_up σ 6 0 0) 6 0 0) 7 1 (by decide) (by decide))
              have i560 := (md_up6 (ev_up (ev_up σ 6 0 0) 6 0 0) 7 1 (by decide) (by decide)).2.2 i14
              exact ⟨_, rfl, Nat.le_of_eq (congrArg Prod.snd r559.2.1), _, r559, rfl⟩
          · skip
            change ev_wp pg_F pg_lay none [] (ev_lu pg_c135) (fun _ => false) _ 1975 53 [some (.ref 6), some (.int l), some (.int z), some (.int d), none, none, none] [.int 2, .ref 6] (ev_up σ 6 0 0)
            refine ⟨Or.inr rfl, ?_⟩
            rintro _ _ ⟨_, ⟨rfl, rfl⟩, rfl⟩
            have r561 := r10.tr (md_up6 (ev_up σ 6 0 0) 0 2 (by decide) (by decide))
            have i562 := (md_up6 (ev_up σ 6 0 0) 0 2 (by decide) (by decide)).2.2 i11
            change ev_wp pg_F pg_lay none [] (ev_lu pg_c135) (fun _ => false) _ 1972 61 [some (.ref 6), some (.int l), some (.int z), some (.int d), none, none, none] [.int 1] (ev_up (ev_up σ 6 0 0) 6 0 2)
            refine ⟨fun h => absurd h (by decide), fun _ => ?_⟩
            change ev_wp pg_F pg_lay none [] (ev_lu pg_c135) (fun _ => false) _ 1971 64 [some (.ref 6), some (.int l), some (.int z), some (.int d), none, none, none] [] (ev_up (ev_up σ 6 0 0) 6 0 2)
            exact ⟨_, rfl, Nat.le_of_eq (congrArg Prod.snd r561.2.1), _, r561, rfl⟩
  · cases h
