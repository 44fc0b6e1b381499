/-! THE RUNS OF THE BODIES (laid by wip/gen/spec.py) -/
theorem pr_114 : pg_Rn pg_F 114 pg_y114 [] pg_t114 := by
  intro vs σ P h hp
  replace h : pf_114 vs σ = some P := h
  unfold pf_114 at h
  split at h
  · rename_i c
    cases h
    refine ⟨by simp [Value.category], Nat.le_of_ble_eq_true rfl, ev_go pg_hhs pg_cd pg_o114 (fun _ => false) 2000 (Q1 := ev_at (ev_tl pg_t114) σ.2.2 (sp_m (md_ok σ) (fun _ σ' => md_m σ σ')).2) ?_ (fun _ _ _ _ h => ev_fin h)⟩
    change ev_wp pg_F pg_lay none [] (ev_lu pg_c114) (fun _ => false) _ 2000 0 [some (.ref 6), some (.int c), none] [] σ
    refine ⟨trivial, ?_⟩
    rintro _ _ ⟨rfl, rfl⟩
    change ev_wp pg_F pg_lay none [] (ev_lu pg_c114) (fun _ => false) _ 1994 9 [some (.ref 6), some (.int c), none] [.int (sp_isin c 1 65535), .int 1, .ref 6] σ
    refine ⟨fun (h1 : (sp_isin c 1 65535) = 0) => ?_, fun (h1 : ¬ (sp_isin c 1 65535) = 0) => ?_⟩
    · skip
      change ev_wp pg_F pg_lay none [] (ev_lu pg_c114) (fun _ => false) _ 1993 12 [some (.ref 6), some (.int c), none] [.int 1, .ref 6] σ
      refine ⟨Or.inr rfl, ?_⟩
      rintro _ _ ⟨_, ⟨rfl, rfl⟩, rfl⟩
      have r2 := (md_m.rf σ).tr (md_up6 σ 0 1 (by decide) (by decide))
      have i3 := (md_up6 σ 0 1 (by decide) (by decide)).2.2 hp
      change ev_wp pg_F pg_lay none [] (ev_lu pg_c114) (fun _ => false) _ 1990 20 [some (.ref 6), some (.int c), none] [.int 1] (ev_up σ 6 0 1)
      refine ⟨fun h => absurd h (by decide), fun _ => ?_⟩
      change ev_wp pg_F pg_lay none [] (ev_lu pg_c114) (fun _ => false) _ 1989 43 [some (.ref 6), some (.int c), none] [] (ev_up σ 6 0 1)
      exact ⟨_, rfl, Nat.le_of_eq (congrArg Prod.snd r2.2.1), _, r2, rfl⟩
    · skip
      change ev_wp pg_F pg_lay none [] (ev_lu pg_c114) (fun _ => false) _ 1993 16 [some (.ref 6), some (.int c), none] [.int 1, .ref 6] σ
      refine ⟨Or.inl rfl, ?_⟩
      rintro _ _ ⟨_, ⟨rfl, rfl⟩, rfl⟩
      have r4 := (md_m.rf σ).tr (md_up6 σ 0 0 (by decide) (by decide))
      have i5 := (md_up6 σ 0 0 (by decide) (by decide)).2.2 hp
      change ev_wp pg_F pg_lay none [] (ev_lu pg_c114) (fun _ => false) _ 1991 20 [some (.ref 6), some (.int c), none] [.int 0] (ev_up σ 6 0 0)
      refine ⟨fun _ => ?_, fun h => absurd (by decide) h⟩
      change ev_wp pg_F pg_lay none [] (ev_lu pg_c114) (fun _ => false) _ 1990 23 [some (.ref 6), some (.int c), none] [] (ev_up σ 6 0 0)
      refine ⟨fun (h6 : 0 ≤ ((ev_up σ 6 0 0).1 6 5)) => ?_, fun (h6 : ¬ 0 ≤ ((ev_up σ 6 0 0).1 6 5)) => ?_⟩
      · skip
        change ev_wp pg_F pg_lay none [] (ev_lu pg_c114) (fun _ => false) _ 1985 36 [some (.ref 6), some (.int c), none] [.int 2, .ref 6] (ev_up σ 6 0 0)
        refine ⟨Or.inl rfl, ?_⟩
        rintro _ _ ⟨_, ⟨rfl, rfl⟩, rfl⟩
        have r7 := r4.tr (md_up6 (ev_up σ 6 0 0) 0 0 (by decide) (by decide))
        have i8 := (md_up6 (ev_up σ 6 0 0) 0 0 (by decide) (by decide)).2.2 i5
        change ev_wp pg_F pg_lay none [] (ev_lu pg_c114) (fun _ => false) _ 1983 40 [some (.ref 6), some (.int c), none] [.int 0] (ev_up (ev_up σ 6 0 0) 6 0 0)
        refine ⟨fun _ => ?_, fun h => absurd (by decide) h⟩
        change ev_wp pg_F pg_lay none [] (ev_lu pg_c114) (fun _ => false) _ 1982 45 [some (.ref 6), some (.int c), none] [] (ev_up (ev_up σ 6 0 0) 6 0 0)
        refine ⟨(md_gin hp h6), ?_⟩
        change ev_wp pg_F pg_lay none [] (ev_lu pg_c114) (fun _ => false) _ 1977 54 [some (.ref 6), some (.int c), none] [.int ((ev_up (ev_up σ 6 0 0) 6 0 0).1 10 (Int32.toNatClampNeg ((ev_up (ev_up σ 6 0 0) 6 0 0).1 6 5)))] (ev_up (ev_up σ 6 0 0) 6 0 0)
        refine ⟨fun (h9 : ((ev_up (ev_up σ 6 0 0) 6 0 0).1 10 (Int32.toNatClampNeg ((ev_up (ev_up σ 6 0 0) 6 0 0).1 6 5))) = 0) => ?_, fun (h9 : ¬ ((ev_up (ev_up σ 6 0 0) 6 0 0).1 10 (Int32.toNatClampNeg ((ev_up (ev_up σ 6 0 0) 6 0 0).1 6 5))) = 0) => ?_⟩
        · skip
          change ev_wp pg_F pg_lay none [] (ev_lu pg_c114) (fun _ => false) _ 1976 63 [some (.ref 6), some (.int c), none] [] (ev_up (ev_up σ 6 0 0) 6 0 0)
          refine ⟨trivial, ?_⟩
          rintro _ _ ⟨rfl, rfl⟩
          change ev_wp pg_F pg_lay none [] (ev_lu pg_c114) (fun _ => false) _ 1974 67 [some (.ref 6), some (.int c), none] [.int ((ev_up (ev_up σ 6 0 0) 6 0 0).1 7 0)] (ev_up (ev_up σ 6 0 0) 6 0 0)
          refine ⟨fun (h10 : ((ev_up (ev_up σ 6 0 0) 6 0 0).1 7 0) = 0) => ?_, fun (h10 : ¬ ((ev_up (ev_up σ 6 0 0) 6 0 0).1 7 0) = 0) => ?_⟩
          · skip
            change ev_wp pg_F pg_lay none [] (ev_lu pg_c114) (fun _ => false) _ 1973 70 [some (.ref 6), some (.int c), none] [] (ev_up (ev_up σ 6 0 0) 6 0 0)
            refine ⟨trivial, ?_⟩
            rintro _ _ ⟨_, ⟨rfl, rfl⟩, rfl⟩
            have r11 := r7.tr (md_up6 (ev_up (ev_up σ 6 0 0) 6 0 0) 7 2 (by decide) (by decide))
            have i12 := (md_up6 (ev_up (ev_up σ 6 0 0) 6 0 0) 7 2 (by decide) (by decide)).2.2 i8
            exact ⟨_, rfl, Nat.le_of_eq (congrArg Prod.snd r11.2.1), _, r11, rfl⟩
          · skip
            change ev_wp pg_F pg_lay none [] (ev_lu pg_c114) (fun _ => false) _ 1973 76 [some (.ref 6), some (.int c), none] [] (ev_up (ev_up σ 6 0 0) 6 0 0)
            refine ⟨Or.inl rfl, ?_⟩
            rintro _ _ ⟨v13, k14, rfl, rfl⟩
            change ev_wp pg_F pg_lay none [] (ev_lu pg_c114) (fun _ => false) _ 1970 81 [some (.ref 6), some (.int c), none] [.int v13] (ev_up (ev_up σ 6 0 0) 6 0 0)
            refine ⟨trivial, ?_⟩
            rintro _ _ ⟨rfl, rfl⟩
            change ev_wp pg_F pg_lay none [] (ev_lu pg_c114) (fun _ => false) _ 1967 86 [some (.ref 6), some (.int c), some (.int v13)] [.int ((ev_up (ev_up σ 6 0 0) 6 0 0).1 7 0)] (ev_up (ev_up σ 6 0 0) 6 0 0)
            refine ⟨fun (h15 : ((ev_up (ev_up σ 6 0 0) 6 0 0).1 7 0) = 3) => ?_, fun (h15 : ¬ ((ev_up (ev_up σ 6 0 0) 6 0 0).1 7 0) = 3) => ?_⟩
            · skip
              change ev_wp pg_F pg_lay none [] (ev_lu pg_c114) (fun _ => false) _ 1965 90 [some (.ref 6), some (.int c), some (.int v13)] [] (ev_up (ev_up σ 6 0 0) 6 0 0)
              refine ⟨fun (h16 : 0 ≤ v13) => ?_, fun (h16 : ¬ 0 ≤ v13) => ?_⟩
              · skip
                change ev_wp pg_F pg_lay none [] (ev_lu pg_c114) (fun _ => false) _ 1963 101 [some (.ref 6), some (.int c), some (.int v13)] [] (ev_up (ev_up σ 6 0 0) 6 0 0)
                refine ⟨md_vp (md_j5 (md_l5 k14.1 (md_nlt h16))) 1 (by decide) rfl, ?_⟩
                rintro _ _ ⟨rfl, rfl⟩
                change ev_wp pg_F pg_lay none [] (ev_lu pg_c114) (fun _ => false) _ 1959 107 [some (.ref 6), some (.int c), some (.int v13)] [.int ((ev_up (ev_up σ 6 0 0) 6 0 0).1 7 (Int32.toNatClampNeg (4 * v13 + 1)))] (ev_up (ev_up σ 6 0 0) 6 0 0)
                refine ⟨fun (h17 : (((ev_up (ev_up σ 6 0 0) 6 0 0).1 7 (Int32.toNatClampNeg (4 * v13 + 1))) + c) ≤ 65535) => ?_, fun (h17 : ¬ (((ev_up (ev_up σ 6 0 0) 6 0 0).1 7 (Int32.toNatClampNeg (4 * v13 + 1))) + c) ≤ 65535) => ?_⟩
                · skip
                  change ev_wp pg_F pg_lay none [] (ev_lu pg_c114) (fun _ => false) _ 1955 121 [some (.ref 6), some (.int c), some (.int v13)] [] (ev_up (ev_up σ 6 0 0) 6 0 0)
                  have r18 := r7.tr (md_up6 (ev_up (ev_up σ 6 0 0) 6 0 0) 7 0 (by decide) (by decide))
                  have i19 := (md_up6 (ev_up (ev_up σ 6 0 0) 6 0 0) 7 0 (by decide) (by decide)).2.2 i8
                  refine ⟨trivial, ?_⟩
                  rintro _ s21 ⟨k20, rfl⟩
                  have r22 := r18.tr k20.m
                  have i23 := k20.m.2.2 i19
                  change ev_wp pg_F pg_lay none [] (ev_lu pg_c114) (fun _ => false) _ 1950 130 [some (.ref 6), some (.int c), some (.int v13)] [] s21
                  refine ⟨md_vp (md_j5 (md_l5 k14.1 (md_nlt h16))) 1 (by decide) rfl, ?_⟩
                  rintro _ _ ⟨rfl, rfl⟩
                  change ev_wp pg_F pg_lay none [] (ev_lu pg_c114) (fun _ => false) _ 1943 141 [some (.ref 6), some (.int c), some (.int v13)] [.int (s21.1 7 (Int32.toNatClampNeg (4 * v13 + 1))), .int 1, .ref 11] s21
                  refine ⟨sp_in rfl rfl, ?_⟩
                  have r24 := r22.tr (md_upA s21 11 (by decide) (by decide) (Int32.toNatClampNeg 1) ((s21.1 7 (Int32.toNatClampNeg (4 * v13 + 1))) + c))
                  have i25 := (md_upA s21 11 (by decide) (by decide) (Int32.toNatClampNeg 1) ((s21.1 7 (Int32.toNatClampNeg (4 * v13 + 1))) + c)).2.2 i23
                  change ev_wp pg_F pg_lay none [] (ev_lu pg_c114) (fun _ => false) _ 1940 144 [some (.ref 6), some (.int c), some (.int v13)] [] (ev_up s21 11 (Int32.toNatClampNeg 1) ((s21.1 7 (Int32.toNatClampNeg (4 * v13 + 1))) + c))
                  refine ⟨md_vp (md_j5 (md_l5 k14.1 (md_nlt h16))) 2 (by decide) rfl, ?_⟩
                  rintro _ _ ⟨rfl, rfl⟩
                  change ev_wp pg_F pg_lay none [] (ev_lu pg_c114) (fun _ => false) _ 1933 155 [some (.ref 6), some (.int c), some (.int v13)] [.int ((ev_up s21 11 (Int32.toNatClampNeg 1) ((s21.1 7 (Int32.toNatClampNeg (4 * v13 + 1))) + c)).1 7 (Int32.toNatClampNeg (4 * v13 + 2))), .int 2, .ref 11] (ev_up s21 11 (Int32.toNatClampNeg 1) ((s21.1 7 (Int32.toNatClampNeg (4 * v13 + 1))) + c))
                  refine ⟨sp_in rfl rfl, ?_⟩
                  have r26 := r24.tr (md_upA (ev_up s21 11 (Int32.toNatClampNeg 1) ((s21.1 7 (Int32.toNatClampNeg (4 * v13 + 1))) + c)) 11 (by decide) (by decide) (Int32.toNatClampNeg 2) ((ev_up s21 11 (Int32.toNatClampNeg 1) ((s21.1 7 (Int32.toNatClampNeg (4 * v13 + 1))) + c)).1 7 (Int32.toNatClampNeg (4 * v13 + 2))))
                  have i27 := (md_upA (ev_up s21 11 (Int32.toNatClampNeg 1) ((s21.1 7 (Int32.toNatClampNeg (4 * v13 + 1))) + c)) 11 (by decide) (by decide) (Int32.toNatClampNeg 2) ((ev_up s21 11 (Int32.toNatClampNeg 1) ((s21.1 7 (Int32.toNatClampNeg (4 * v13 + 1))) + c)).1 7 (Int32.toNatClampNeg (4 * v13 + 2)))).2.2 i25
                  change ev_wp pg_F pg_lay none [] (ev_lu pg_c114) (fun _ => false) _ 1932 156 [some (.ref 6), some (.int c), some (.int v13)] [] (ev_up (ev_up s21 11 (Int32.toNatClampNeg 1) ((s21.1 7 (Int32.toNatClampNeg (4 * v13 + 1))) + c)) 11 (Int32.toNatClampNeg 2) ((ev_up s21 11 (Int32.toNatClampNeg 1) ((s21.1 7 (Int32.toNatClampNeg (4 * v13 + 1))) + c)).1 7 (Int32.toNatClampNeg (4 * v13 + 2))))
                  refine ⟨md_vp (md_j5 (md_l5 k14.1 (md_nlt h16))) 3 (by decide) rfl, ?_⟩
                  rintro _ _ ⟨rfl, rfl⟩
                  change ev_wp pg_F pg_lay none [] (ev_lu pg_c114) (fun _ => false) _ 1925 167 [some (.ref 6), some (.int c), some (.int v13)] [.int ((ev_up (ev_up s21 11 (Int32.toNatClampNeg 1) ((s21.1 7 (Int32.toNatClampNeg (4 * v13 + 1))) + c)) 11 (Int32.toNatClampNeg 2) ((ev_up s21 11 (Int32.toNatClampNeg 1) ((s21.1 7 (Int32.toNatClampNeg (4 * v13 + 1))) + c)).1 7 (Int32.toNatClampNeg (4 * v13 + 2)))).1 7 (Int32.toNatClampNeg (4 * v13 + 3))), .int 3, .ref 11] (ev_up (ev_up s21 11 (Int32.toNatClampNeg 1) ((s21.1 7 (Int32.toNatClampNeg (4 * v13 + 1))) + c)) 11 (Int32.toNatClampNeg 2) ((ev_up s21 11 (Int32.toNatClampNeg 1) ((s21.1 7 (Int32.toNatClampNeg (4 * v13 + 1))) + c)).1 7 (Int32.toNatClampNeg (4 * v13 + 2))))
                  refine ⟨sp_in rfl rfl, ?_⟩
                  have r28 := r26.tr (md_upA (ev_up (ev_up s21 11 (Int32.toNatClampNeg 1) ((s21.1 7 (Int32.toNatClampNeg (4 * v13 + 1))) + c)) 11 (Int32.toNatClampNeg 2) ((ev_up s21 11 (Int32.toNatClampNeg 1) ((s21.1 7 (Int32.toNatClampNeg (4 * v13 + 1))) + c)).1 7 (Int32.toNatClampNeg (4 * v13 + 2)))) 11 (by decide) (by decide) (Int32.toNatClampNeg 3) ((ev_up (ev_up s21 11 (Int32.toNatClampNeg 1) ((s21.1 7 (Int32.toNatClampNeg (4 * v13 + 1))) + c)) 11 (Int32.toNatClampNeg 2) ((ev_up s21 11 (Int32.toNatClampNeg 1) ((s21.1 7 (Int32.toNatClampNeg (4 * v13 + 1))) + c)).1 7 (Int32.toNatClampNeg (4 * v13 + 2)))).1 7 (Int32.toNatClampNeg (4 * v13 + 3))))
                  have i29 := (md_upA (ev_up (ev_up s21 11 (Int32.toNatClampNeg 1) ((s21.1 7 (Int32.toNatClampNeg (4 * v13 + 1))) + c)) 11 (Int32.toNatClampNeg 2) ((ev_up s21 11 (Int32.toNatClampNeg 1) ((s21.1 7 (Int32.toNatClampNeg (4 * v13 + 1))) + c)).1 7 (Int32.toNatClampNeg (4 * v13 + 2)))) 11 (by decide) (by decide) (Int32.toNatClampNeg 3) ((ev_up (ev_up s21 11 (Int32.toNatClampNeg 1) ((s21.1 7 (Int32.toNatClampNeg (4 * v13 + 1))) + c)) 11 (Int32.toNatClampNeg 2) ((ev_up s21 11 (Int32.toNatClampNeg 1) ((s21.1 7 (Int32.toNatClampNeg (4 * v13 + 1))) + c)).1 7 (Int32.toNatClampNeg (4 * v13 + 2)))).1 7 (Int32.toNatClampNeg (4 * v13 + 3)))).2.2 i27
                  change ev_wp pg_F pg_lay none [] (ev_lu pg_c114) (fun _ => false) _ 1924 168 [some (.ref 6), some (.int c), some (.int v13)] [] (ev_up (ev_up (ev_up s21 11 (Int32.toNatClampNeg 1) ((s21.1 7 (Int32.toNatClampNeg (4 * v13 + 1))) + c)) 11 (Int32.toNatClampNeg 2) ((ev_up s21 11 (Int32.toNatClampNeg 1) ((s21.1 7 (Int32.toNatClampNeg (4 * v13 + 1))) + c)).1 7 (Int32.toNatClampNeg (4 * v13 + 2)))) 11 (Int32.toNatClampNeg 3) ((ev_up (ev_up s21 11 (Int32.toNatClampNeg 1) ((s21.1 7 (Int32.toNatClampNeg (4 * v13 + 1))) + c)) 11 (Int32.toNatClampNeg 2) ((ev_up s21 11 (Int32.toNatClampNeg 1) ((s21.1 7 (Int32.toNatClampNeg (4 * v13 + 1))) + c)).1 7 (Int32.toNatClampNeg (4 * v13 + 2)))).1 7 (Int32.toNatClampNeg (4 * v13 + 3))))
                  refine ⟨⟨Or.inl rfl, i29⟩, ?_⟩
                  rintro _ s31 ⟨k30, rfl⟩
                  have r32 := r28.tr k30.1
                  have i33 := k30.1.2.2 i29
                  have wk30 : md_tw 5 (ev_up (ev_up (ev_up s21 11 (Int32.toNatClampNeg 1) ((s21.1 7 (Int32.toNatClampNeg (4 * v13 + 1))) + c)) 11 (Int32.toNatClampNeg 2) ((ev_up s21 11 (Int32.toNatClampNeg 1) ((s21.1 7 (Int32.toNatClampNeg (4 * v13 + 1))) + c)).1 7 (Int32.toNatClampNeg (4 * v13 + 2)))) 11 (Int32.toNatClampNeg 3) ((ev_up (ev_up s21 11 (Int32.toNatClampNeg 1) ((s21.1 7 (Int32.toNatClampNeg (4 * v13 + 1))) + c)) 11 (Int32.toNatClampNeg 2) ((ev_up s21 11 (Int32.toNatClampNeg 1) ((s21.1 7 (Int32.toNatClampNeg (4 * v13 + 1))) + c)).1 7 (Int32.toNatClampNeg (4 * v13 + 2)))).1 7 (Int32.toNatClampNeg (4 * v13 + 3)))) s31 := k30.2
                  change ev_wp pg_F pg_lay none [] (ev_lu pg_c114) (fun _ => false) _ 1921 173 [some (.ref 6), some (.int c), some (.int v13)] [] s31
                  refine ⟨fun (h34 : (s31.1 6 10) = 0) => ?_, fun (h34 : ¬ (s31.1 6 10) = 0) => ?_⟩
                  · skip
                    change ev_wp pg_F pg_lay none [] (ev_lu pg_c114) (fun _ => false) _ 1918 184 [some (.ref 6), some (.int c), some (.int v13)] [] s31
                    exact ⟨_, rfl, Nat.le_of_eq (congrArg Prod.snd r32.2.1), _, r32, rfl⟩
                  · skip
                    change ev_wp pg_F pg_lay none [] (ev_lu pg_c114) (fun _ => false) _ 1918 180 [some (.ref 6), some (.int c), some (.int v13)] [] s31
                    exact ⟨_, rfl, Nat.le_of_eq (congrArg Prod.snd r32.2.1), _, r32, rfl⟩
                · skip
                  change ev_wp pg_F pg_lay none [] (ev_lu pg_c114) (fun _ => false) _ 1955 114 [some (.ref 6), some (.int c), some (.int v13)] [] (ev_up (ev_up σ 6 0 0) 6 0 0)
                  refine ⟨trivial, ?_⟩
                  rintro _ _ ⟨_, ⟨rfl, rfl⟩, rfl⟩
                  have r35 := r7.tr (md_up6 (ev_up (ev_up σ 6 0 0) 6 0 0) 7 7 (by decide) (by decide))
                  have i36 := (md_up6 (ev_up (ev_up σ 6 0 0) 6 0 0) 7 7 (by decide) (by decide)).2.2 i8
                  exact ⟨_, rfl, Nat.le_of_eq (congrArg Prod.snd r35.2.1), _, r35, rfl⟩
              · skip
                change ev_wp pg_F pg_lay none [] (ev_lu pg_c114) (fun _ => false) _ 1963 94 [some (.ref 6), some (.int c), some (.int v13)] [] (ev_up (ev_up σ 6 0 0) 6 0 0)
                refine ⟨trivial, ?_⟩
                rintro _ _ ⟨_, ⟨rfl, rfl⟩, rfl⟩
                have r37 := r7.tr (md_up6 (ev_up (ev_up σ 6 0 0) 6 0 0) 7 6 (by decide) (by decide))
                have i38 := (md_up6 (ev_up (ev_up σ 6 0 0) 6 0 0) 7 6 (by decide) (by decide)).2.2 i8
                exact ⟨_, rfl, Nat.le_of_eq (congrArg Prod.snd r37.2.1), _, r37, rfl⟩
            · skip
              change ev_wp pg_F pg_lay none [] (ev_lu pg_c114) (fun _ => false) _ 1965 94 [some (.ref 6), some (.int c), some (.int v13)] [] (ev_up (ev_up σ 6 0 0) 6 0 0)
              refine ⟨trivial, ?_⟩
              rintro _ _ ⟨_, ⟨rfl, rfl⟩, rfl⟩
              have r39 := r7.tr (md_up6 (ev_up (ev_up σ 6 0 0) 6 0 0) 7 6 (by decide) (by decide))
              have i40 := (md_up6 (ev_up (ev_up σ 6 0 0) 6 0 0) 7 6 (by decide) (by decide)).2.2 i8
              exact ⟨_, rfl, Nat.le_of_eq (congrArg Prod.snd r39.2.1), _, r39, rfl⟩
        · skip
          change ev_wp pg_F pg_lay none [] (ev_lu pg_c114) (fun _ => false) _ 1976 57 [some (.ref 6), some (.int c), none] [] (ev_up (ev_up σ 6 0 0) 6 0 0)
          refine ⟨trivial, ?_⟩
          rintro _ _ ⟨_, ⟨rfl, rfl⟩, rfl⟩
          have r41 := r7.tr (md_up6 (ev_up (ev_up σ 6 0 0) 6 0 0) 7 1 (by decide) (by decide))
          have i42 := (md_up6 (ev_up (ev_up σ 6 0 0) 6 0 0) 7 1 (by decide) (by decide)).2.2 i8
          exact ⟨_, rfl, Nat.le_of_eq (congrArg Prod.snd r41.2.1), _, r41, rfl⟩
      · skip
        change ev_wp pg_F pg_lay none [] (ev_lu pg_c114) (fun _ => false) _ 1985 32 [some (.ref 6), some (.int c), none] [.int 2, .ref 6] (ev_up σ 6 0 0)
        refine ⟨Or.inr rfl, ?_⟩
        rintro _ _ ⟨_, ⟨rfl, rfl⟩, rfl⟩
        have r43 := r4.tr (md_up6 (ev_up σ 6 0 0) 0 2 (by decide) (by decide))
        have i44 := (md_up6 (ev_up σ 6 0 0) 0 2 (by decide) (by decide)).2.2 i5
        change ev_wp pg_F pg_lay none [] (ev_lu pg_c114) (fun _ => false) _ 1982 40 [some (.ref 6), some (.int c), none] [.int 1] (ev_up (ev_up σ 6 0 0) 6 0 2)
        refine ⟨fun h => absurd h (by decide), fun _ => ?_⟩
        change ev_wp pg_F pg_lay none [] (ev_lu pg_c114) (fun _ => false) _ 1981 43 [some (.ref 6), some (.int c), none] [] (ev_up (ev_up σ 6 0 0) 6 0 2)
        exact ⟨_, rfl, Nat.le_of_eq (congrArg Prod.snd r43.2.1), _, r43, rfl⟩
  · cases h
theorem pr_124 : pg_Rn pg_F 124 pg_y124 [] pg_t124 := by
  intro vs σ P h hp
  replace h : pf_124 vs σ = some P := h
  unfold pf_124 at h
  split at h
  · rename_i g
    cases h
    refine ⟨by simp [Value.category], Nat.le_of_ble_eq_true rfl, ev_go pg_hhs pg_cd pg_o124 (fun _ => false) 2000 (Q1 := ev_at (ev_tl pg_t124) σ.2.2 (sp_m (md_ok σ) (fun _ σ' => md_m σ σ')).2) ?_ (fun _ _ _ _ h => ev_fin h)⟩
    change ev_wp pg_F pg_lay none [] (ev_lu pg_c124) (fun _ => false) _ 2000 0 [some (.ref 6), some (.int g), none, none] [] σ
    refine ⟨trivial, ?_⟩
    rintro _ _ ⟨rfl, rfl⟩
    change ev_wp pg_F pg_lay none [] (ev_lu pg_c124) (fun _ => false) _ 1994 9 [some (.ref 6), some (.int g), none, none] [.int (sp_upto g 11), .int 1, .ref 6] σ
    refine ⟨fun (h1 : (sp_upto g 11) = 0) => ?_, fun (h1 : ¬ (sp_upto g 11) = 0) => ?_⟩
    · skip
      change ev_wp pg_F pg_lay none [] (ev_lu pg_c124) (fun _ => false) _ 1993 12 [some (.ref 6), some (.int g), none, none] [.int 1, .ref 6] σ
      refine ⟨Or.inr rfl, ?_⟩
      rintro _ _ ⟨_, ⟨rfl, rfl⟩, rfl⟩
      have r2 := (md_m.rf σ).tr (md_up6 σ 0 1 (by decide) (by decide))
      have i3 := (md_up6 σ 0 1 (by decide) (by decide)).2.2 hp
      change ev_wp pg_F pg_lay none [] (ev_lu pg_c124) (fun _ => false) _ 1990 20 [some (.ref 6), some (.int g), none, none] [.int 1] (ev_up σ 6 0 1)
      refine ⟨fun h => absurd h (by decide), fun _ => ?_⟩
      change ev_wp pg_F pg_lay none [] (ev_lu pg_c124) (fun _ => false) _ 1989 43 [some (.ref 6), some (.int g), none, none] [] (ev_up σ 6 0 1)
      exact ⟨_, rfl, Nat.le_of_eq (congrArg Prod.snd r2.2.1), _, r2, rfl⟩
    · skip
      change ev_wp pg_F pg_lay none [] (ev_lu pg_c124) (fun _ => false) _ 1993 16 [some (.ref 6), some (.int g), none, none] [.int 1, .ref 6] σ
      refine ⟨Or.inl rfl, ?_⟩
      rintro _ _ ⟨_, ⟨rfl, rfl⟩, rfl⟩
      have r4 := (md_m.rf σ).tr (md_up6 σ 0 0 (by decide) (by decide))
      have i5 := (md_up6 σ 0 0 (by decide) (by decide)).2.2 hp
      change ev_wp pg_F pg_lay none [] (ev_lu pg_c124) (fun _ => false) _ 1991 20 [some (.ref 6), some (.int g), none, none] [.int 0] (ev_up σ 6 0 0)
      refine ⟨fun _ => ?_, fun h => absurd (by decide) h⟩
      change ev_wp pg_F pg_lay none [] (ev_lu pg_c124) (fun _ => false) _ 1990 23 [some (.ref 6), some (.int g), none, none] [] (ev_up σ 6 0 0)
      refine ⟨fun (h6 : ((ev_up σ 6 0 0).1 6 5) < 0) => ?_, fun (h6 : ¬ ((ev_up σ 6 0 0).1 6 5) < 0) => ?_⟩
      · skip
        change ev_wp pg_F pg_lay none [] (ev_lu pg_c124) (fun _ => false) _ 1985 36 [some (.ref 6), some (.int g), none, none] [.int 2, .ref 6] (ev_up σ 6 0 0)
        refine ⟨Or.inl rfl, ?_⟩
        rintro _ _ ⟨_, ⟨rfl, rfl⟩, rfl⟩
        have r7 := r4.tr (md_up6 (ev_up σ 6 0 0) 0 0 (by decide) (by decide))
        have i8 := (md_up6 (ev_up σ 6 0 0) 0 0 (by decide) (by decide)).2.2 i5
        change ev_wp pg_F pg_lay none [] (ev_lu pg_c124) (fun _ => false) _ 1983 40 [some (.ref 6), some (.int g), none, none] [.int 0] (ev_up (ev_up σ 6 0 0) 6 0 0)
        refine ⟨fun _ => ?_, fun h => absurd (by decide) h⟩
        change ev_wp pg_F pg_lay none [] (ev_lu pg_c124) (fun _ => false) _ 1982 45 [some (.ref 6), some (.int g), none, none] [] (ev_up (ev_up σ 6 0 0) 6 0 0)
        have r9 := r7.tr (md_gate (ev_up (ev_up σ 6 0 0) 6 0 0) g (Or.inr (sp_upto_in h1)))
        have i10 := (md_gate (ev_up (ev_up σ 6 0 0) 6 0 0) g (Or.inr (sp_upto_in h1))).2.2 i8
        refine ⟨Or.inl rfl, ?_⟩
        have r11 := r9.tr (md_up6 (ev_up (ev_up (ev_up σ 6 0 0) 6 0 0) 6 5 g) 10 0 (by decide) (by decide))
        have i12 := (md_up6 (ev_up (ev_up (ev_up σ 6 0 0) 6 0 0) 6 5 g) 10 0 (by decide) (by decide)).2.2 i10
        change ev_wp pg_F pg_lay none [] (ev_lu pg_c124) (fun _ => false) _ 1976 55 [some (.ref 6), some (.int g), none, none] [] (ev_up (ev_up (ev_up (ev_up σ 6 0 0) 6 0 0) 6 5 g) 6 10 0)
        refine ⟨Or.inl rfl, ?_⟩
        have r13 := r11.tr (md_up6 (ev_up (ev_up (ev_up (ev_up σ 6 0 0) 6 0 0) 6 5 g) 6 10 0) 6 0 (by decide) (by decide))
        have i14 := (md_up6 (ev_up (ev_up (ev_up (ev_up σ 6 0 0) 6 0 0) 6 5 g) 6 10 0) 6 0 (by decide) (by decide)).2.2 i12
        change ev_wp pg_F pg_lay none [] (ev_lu pg_c124) (fun _ => false) _ 1973 60 [some (.ref 6), some (.int g), none, none] [] (ev_up (ev_up (ev_up (ev_up (ev_up σ 6 0 0) 6 0 0) 6 5 g) 6 10 0) 6 6 0)
        refine ⟨Or.inr rfl, ?_⟩
        rintro _ _ ⟨v15, k16, rfl, rfl⟩
        change ev_wp pg_F pg_lay none [] (ev_lu pg_c124) (fun _ => false) _ 1970 66 [some (.ref 6), some (.int g), none, none] [.int v15] (ev_up (ev_up (ev_up (ev_up (ev_up σ 6 0 0) 6 0 0) 6 5 g) 6 10 0) 6 6 0)
        refine ⟨fun (h17 : v15 < 0) => ?_, fun (h17 : ¬ v15 < 0) => ?_⟩
        · skip
          change ev_wp pg_F pg_lay none [] (ev_lu pg_c124) (fun _ => false) _ 1967 100 [some (.ref 6), some (.int g), some (.int v15), none] [] (ev_up (ev_up (ev_up (ev_up (ev_up σ 6 0 0) 6 0 0) 6 5 g) 6 10 0) 6 6 0)
          refine ⟨fun (h18 : ((ev_up (ev_up (ev_up (ev_up (ev_up σ 6 0 0) 6 0 0) 6 5 g) 6 10 0) 6 6 0).1 6 10) = 0) => ?_, fun (h18 : ¬ ((ev_up (ev_up (ev_up (ev_up (ev_up σ 6 0 0) 6 0 0) 6 5 g) 6 10 0) 6 6 0).1 6 10) = 0) => ?_⟩
          · skip
            change ev_wp pg_F pg_lay none [] (ev_lu pg_c124) (fun _ => false) _ 1964 109 [some (.ref 6), some (.int g), some (.int v15), none] [] (ev_up (ev_up (ev_up (ev_up (ev_up σ 6 0 0) 6 0 0) 6 5 g) 6 10 0) 6 6 0)
            refine ⟨trivial, ?_⟩
            rintro _ _ ⟨v19, k20, rfl, rfl⟩
            change ev_wp pg_F pg_lay none [] (ev_lu pg_c124) (fun _ => false) _ 1962 113 [some (.ref 6), some (.int g), some (.int v15), none] [.int v19] (ev_up (ev_up (ev_up (ev_up (ev_up σ 6 0 0) 6 0 0) 6 5 g) 6 10 0) 6 6 0)
            refine ⟨fun (h21 : v19 < 0) => ?_, fun (h21 : ¬ v19 < 0) => ?_⟩
            · skip
              change ev_wp pg_F pg_lay none [] (ev_lu pg_c124) (fun _ => false) _ 1959 141 [some (.ref 6), some (.int g), some (.int v15), some (.int v19)] [] (ev_up (ev_up (ev_up (ev_up (ev_up σ 6 0 0) 6 0 0) 6 5 g) 6 10 0) 6 6 0)
              refine ⟨fun (h22 : ((ev_up (ev_up (ev_up (ev_up (ev_up σ 6 0 0) 6 0 0) 6 5 g) 6 10 0) 6 6 0).1 6 10) = 0) => ?_, fun (h22 : ¬ ((ev_up (ev_up (ev_up (ev_up (ev_up σ 6 0 0) 6 0 0) 6 5 g) 6 10 0) 6 6 0).1 6 10) = 0) => ?_⟩
              · skip
                change ev_wp pg_F pg_lay none [] (ev_lu pg_c124) (fun _ => false) _ 1956 152 [some (.ref 6), some (.int g), some (.int v15), some (.int v19)] [] (ev_up (ev_up (ev_up (ev_up (ev_up σ 6 0 0) 6 0 0) 6 5 g) 6 10 0) 6 6 0)
                refine ⟨trivial, ?_⟩
                rintro _ _ ⟨rfl, rfl⟩
                exact ⟨_, rfl, Nat.le_of_eq (congrArg Prod.snd r13.2.1), _, r13, rfl⟩
              · skip
                change ev_wp pg_F pg_lay none [] (ev_lu pg_c124) (fun _ => false) _ 1956 148 [some (.ref 6), some (.int g), some (.int v15), some (.int v19)] [] (ev_up (ev_up (ev_up (ev_up (ev_up σ 6 0 0) 6 0 0) 6 5 g) 6 10 0) 6 6 0)
                exact ⟨_, rfl, Nat.le_of_eq (congrArg Prod.snd r13.2.1), _, r13, rfl⟩
            · skip
              change ev_wp pg_F pg_lay none [] (ev_lu pg_c124) (fun _ => false) _ 1959 118 [some (.ref 6), some (.int g), some (.int v15), some (.int v19)] [] (ev_up (ev_up (ev_up (ev_up (ev_up σ 6 0 0) 6 0 0) 6 5 g) 6 10 0) 6 6 0)
              refine ⟨md_vp (md_j4 (md_l41 k20 h21)) 0 (by decide) rfl, ?_⟩
              rintro _ _ ⟨rfl, rfl⟩
              change ev_wp pg_F pg_lay none [] (ev_lu pg_c124) (fun _ => false) _ 1954 125 [some (.ref 6), some (.int g), some (.int v15), some (.int v19)] [.int ((ev_up (ev_up (ev_up (ev_up (ev_up σ 6 0 0) 6 0 0) 6 5 g) 6 10 0) 6 6 0).1 7 (Int32.toNatClampNeg (4 * v19 + 0))), .ref 6] (ev_up (ev_up (ev_up (ev_up (ev_up σ 6 0 0) 6 0 0) 6 5 g) 6 10 0) 6 6 0)
              refine ⟨(md_num i14 (md_l41 k20 h21)), ?_⟩
              rintro _ _ ⟨v23, k24, rfl, rfl⟩
              change ev_wp pg_F pg_lay none [] (ev_lu pg_c124) (fun _ => false) _ 1953 128 [some (.ref 6), some (.int g), some (.int v15), some (.int v19)] [.int v23] (ev_up (ev_up (ev_up (ev_up (ev_up σ 6 0 0) 6 0 0) 6 5 g) 6 10 0) 6 6 0)
              refine ⟨fun (h25 : v23 = 0) => ?_, fun (h25 : ¬ v23 = 0) => ?_⟩
              · skip
                change ev_wp pg_F pg_lay none [] (ev_lu pg_c124) (fun _ => false) _ 1952 131 [some (.ref 6), some (.int g), some (.int v15), some (.int v19)] [] (ev_up (ev_up (ev_up (ev_up (ev_up σ 6 0 0) 6 0 0) 6 5 g) 6 10 0) 6 6 0)
                refine ⟨⟨(md_l41 k20 h21), i14⟩, ?_⟩
                rintro _ s27 ⟨k26, rfl⟩
                have r28 := r13.tr k26
                have i29 := k26.2.2 i14
                change ev_wp pg_F pg_lay none [] (ev_lu pg_c124) (fun _ => false) _ 1949 136 [some (.ref 6), some (.int g), some (.int v15), some (.int v19)] [] s27
                refine ⟨Or.inr rfl, ?_⟩
                have r30 := r28.tr (md_up6 s27 6 1 (by decide) (by decide))
                have i31 := (md_up6 s27 6 1 (by decide) (by decide)).2.2 i29
                change ev_wp pg_F pg_lay none [] (ev_lu pg_c124) (fun _ => false) _ 1946 141 [some (.ref 6), some (.int g), some (.int v15), some (.int v19)] [] (ev_up s27 6 6 1)
                refine ⟨fun (h32 : ((ev_up s27 6 6 1).1 6 10) = 0) => ?_, fun (h32 : ¬ ((ev_up s27 6 6 1).1 6 10) = 0) => ?_⟩
                · skip
                  change ev_wp pg_F pg_lay none [] (ev_lu pg_c124) (fun _ => false) _ 1943 152 [some (.ref 6), some (.int g), some (.int v15), some (.int v19)] [] (ev_up s27 6 6 1)
                  refine ⟨trivial, ?_⟩
                  rintro _ _ ⟨rfl, rfl⟩
                  exact ⟨_, rfl, Nat.le_of_eq (congrArg Prod.snd r30.2.1), _, r30, rfl⟩
                · skip
                  change ev_wp pg_F pg_lay none [] (ev_lu pg_c124) (fun _ => false) _ 1943 148 [some (.ref 6), some (.int g), some (.int v15), some (.int v19)] [] (ev_up s27 6 6 1)
                  exact ⟨_, rfl, Nat.le_of_eq (congrArg Prod.snd r30.2.1), _, r30, rfl⟩
              · skip
                change ev_wp pg_F pg_lay none [] (ev_lu pg_c124) (fun _ => false) _ 1952 141 [some (.ref 6), some (.int g), some (.int v15), some (.int v19)] [] (ev_up (ev_up (ev_up (ev_up (ev_up σ 6 0 0) 6 0 0) 6 5 g) 6 10 0) 6 6 0)
                refine ⟨fun (h33 : ((ev_up (ev_up (ev_up (ev_up (ev_up σ 6 0 0) 6 0 0) 6 5 g) 6 10 0) 6 6 0).1 6 10) = 0) => ?_, fun (h33 : ¬ ((ev_up (ev_up (ev_up (ev_up (ev_up σ 6 0 0) 6 0 0) 6 5 g) 6 10 0) 6 6 0).1 6 10) = 0) => ?_⟩
                · skip
                  change ev_wp pg_F pg_lay none [] (ev_lu pg_c124) (fun _ => false) _ 1949 152 [some (.ref 6), some (.int g), some (.int v15), some (.int v19)] [] (ev_up (ev_up (ev_up (ev_up (ev_up σ 6 0 0) 6 0 0) 6 5 g) 6 10 0) 6 6 0)
                  refine ⟨trivial, ?_⟩
                  rintro _ _ ⟨rfl, rfl⟩
                  exact ⟨_, rfl, Nat.le_of_eq (congrArg Prod.snd r13.2.1), _, r13, rfl⟩
                · skip
                  change ev_wp pg_F pg_lay none [] (ev_lu pg_c124) (fun _ => false) _ 1949 148 [some (.ref 6), some (.int g), some (.int v15), some (.int v19)] [] (ev_up (ev_up (ev_up (ev_up (ev_up σ 6 0 0) 6 0 0) 6 5 g) 6 10 0) 6 6 0)
                  exact ⟨_, rfl, Nat.le_of_eq (congrArg Prod.snd r13.2.1), _, r13, rfl⟩
          · skip
            change ev_wp pg_F pg_lay none [] (ev_lu pg_c124) (fun _ => false) _ 1964 107 [some (.ref 6), some (.int g), some (.int v15), none] [] (ev_up (ev_up (ev_up (ev_up (ev_up σ 6 0 0) 6 0 0) 6 5 g) 6 10 0) 6 6 0)
            exact ⟨_, rfl, Nat.le_of_eq (congrArg Prod.snd r13.2.1), _, r13, rfl⟩
        · skip
          change ev_wp pg_F pg_lay none [] (ev_lu pg_c124) (fun _ => false) _ 1967 71 [some (.ref 6), some (.int g), some (.int v15), none] [] (ev_up (ev_up (ev_up (ev_up (ev_up σ 6 0 0) 6 0 0) 6 5 g) 6 10 0) 6 6 0)
          refine ⟨(md_l41 k16.1 h17), ?_⟩
          rintro _ _ ⟨v34, k35, rfl, rfl⟩
          change ev_wp pg_F pg_lay none [] (ev_lu pg_c124) (fun _ => false) _ 1964 76 [some (.ref 6), some (.int g), some (.int v15), none] [.int v34] (ev_up (ev_up (ev_up (ev_up (ev_up σ 6 0 0) 6 0 0) 6 5 g) 6 10 0) 6 6 0)
          refine ⟨fun (h36 : v34 = 0) => ?_, fun (h36 : ¬ v34 = 0) => ?_⟩
          · skip
            change ev_wp pg_F pg_lay none [] (ev_lu pg_c124) (fun _ => false) _ 1963 100 [some (.ref 6), some (.int g), some (.int v15), none] [] (ev_up (ev_up (ev_up (ev_up (ev_up σ 6 0 0) 6 0 0) 6 5 g) 6 10 0) 6 6 0)
            refine ⟨fun (h37 : ((ev_up (ev_up (ev_up (ev_up (ev_up σ 6 0 0) 6 0 0) 6 5 g) 6 10 0) 6 6 0).1 6 10) = 0) => ?_, fun (h37 : ¬ ((ev_up (ev_up (ev_up (ev_up (ev_up σ 6 0 0) 6 0 0) 6 5 g) 6 10 0) 6 6 0).1 6 10) = 0) => ?_⟩
            · skip
              change ev_wp pg_F pg_lay none [] (ev_lu pg_c124) (fun _ => false) _ 1960 109 [some (.ref 6), some (.int g), some (.int v15), none] [] (ev_up (ev_up (ev_up (ev_up (ev_up σ 6 0 0) 6 0 0) 6 5 g) 6 10 0) 6 6 0)
              refine ⟨trivial, ?_⟩
              rintro _ _ ⟨v38, k39, rfl, rfl⟩
              change ev_wp pg_F pg_lay none [] (ev_lu pg_c124) (fun _ => false) _ 1958 113 [some (.ref 6), some (.int g), some (.int v15), none] [.int v38] (ev_up (ev_up (ev_up (ev_up (ev_up σ 6 0 0) 6 0 0) 6 5 g) 6 10 0) 6 6 0)
              refine ⟨fun (h40 : v38 < 0) => ?_, fun (h40 : ¬ v38 < 0) => ?_⟩
              · skip
                change ev_wp pg_F pg_lay none [] (ev_lu pg_c124) (fun _ => false) _ 1955 141 [some (.ref 6), some (.int g), some (.int v15), some (.int v38)] [] (ev_up (ev_up (ev_up (ev_up (ev_up σ 6 0 0) 6 0 0) 6 5 g) 6 10 0) 6 6 0)
                refine ⟨fun (h41 : ((ev_up (ev_up (ev_up (ev_up (ev_up σ 6 0 0) 6 0 0) 6 5 g) 6 10 0) 6 6 0).1 6 10) = 0) => ?_, fun (h41 : ¬ ((ev_up (ev_up (ev_up (ev_up (ev_up σ 6 0 0) 6 0 0) 6 5 g) 6 10 0) 6 6 0).1 6 10) = 0) => ?_⟩
                · skip
                  change ev_wp pg_F pg_lay none [] (ev_lu pg_c124) (fun _ => false) _ 1952 152 [some (.ref 6), some (.int g), some (.int v15), some (.int v38)] [] (ev_up (ev_up (ev_up (ev_up (ev_up σ 6 0 0) 6 0 0) 6 5 g) 6 10 0) 6 6 0)
                  refine ⟨trivial, ?_⟩
                  rintro _ _ ⟨rfl, rfl⟩
                  exact ⟨_, rfl, Nat.le_of_eq (congrArg Prod.snd r13.2.1), _, r13, rfl⟩
                · skip
                  change ev_wp pg_F pg_lay none [] (ev_lu pg_c124) (fun _ => false) _ 1952 148 [some (.ref 6), some (.int g), some (.int v15), some (.int v38)] [] (ev_up (ev_up (ev_up (ev_up (ev_up σ 6 0 0) 6 0 0) 6 5 g) 6 10 0) 6 6 0)
                  exact ⟨_, rfl, Nat.le_of_eq (congrArg Prod.snd r13.2.1), _, r13, rfl⟩
              · skip
                change ev_wp pg_F pg_lay none [] (ev_lu pg_c124) (fun _ => false) _ 1955 118 [some (.ref 6), some (.int g), some (.int v15), some (.int v38)] [] (ev_up (ev_up (ev_up (ev_up (ev_up σ 6 0 0) 6 0 0) 6 5 g) 6 10 0) 6 6 0)
                refine ⟨md_vp (md_j4 (md_l41 k39 h40)) 0 (by decide) rfl, ?_⟩
                rintro _ _ ⟨rfl, rfl⟩
                change ev_wp pg_F pg_lay none [] (ev_lu pg_c124) (fun _ => false) _ 1950 125 [some (.ref 6), some (.int g), some (.int v15), some (.int v38)] [.int ((ev_up (ev_up (ev_up (ev_up (ev_up σ 6 0 0) 6 0 0) 6 5 g) 6 10 0) 6 6 0).1 7 (Int32.toNatClampNeg (4 * v38 + 0))), .ref 6] (ev_up (ev_up (ev_up (ev_up (ev_up σ 6 0 0) 6 0 0) 6 5 g) 6 10 0) 6 6 0)
                refine ⟨(md_num i14 (md_l41 k39 h40)), ?_⟩
                rintro _ _ ⟨v42, k43, rfl, rfl⟩
                change ev_wp pg_F pg_lay none [] (ev_lu pg_c124) (fun _ => false) _ 1949 128 [some (.ref 6), some (.int g), some (.int v15), some (.int v38)] [.int v42] (ev_up (ev_up (ev_up (ev_up (ev_up σ 6 0 0) 6 0 0) 6 5 g) 6 10 0) 6 6 0)
                refine ⟨fun (h44 : v42 = 0) => ?_, fun (h44 : ¬ v42 = 0) => ?_⟩
                · skip
                  change ev_wp pg_F pg_lay none [] (ev_lu pg_c124) (fun _ => false) _ 1948 131 [some (.ref 6), some (.int g), some (.int v15), some (.int v38)] [] (ev_up (ev_up (ev_up (ev_up (ev_up σ 6 0 0) 6 0 0) 6 5 g) 6 10 0) 6 6 0)
                  refine ⟨⟨(md_l41 k39 h40), i14⟩, ?_⟩
                  rintro _ s46 ⟨k45, rfl⟩
                  have r47 := r13.tr k45
                  have i48 := k45.2.2 i14
                  change ev_wp pg_F pg_lay none [] (ev_lu pg_c124) (fun _ => false) _ 1945 136 [some (.ref 6), some (.int g), some (.int v15), some (.int v38)] [] s46
                  refine ⟨Or.inr rfl, ?_⟩
                  have r49 := r47.tr (md_up6 s46 6 1 (by decide) (by decide))
                  have i50 := (md_up6 s46 6 1 (by decide) (by decide)).2.2 i48
                  change ev_wp pg_F pg_lay none [] (ev_lu pg_c124) (fun _ => false) _ 1942 141 [some (.ref 6), some (.int g), some (.int v15), some (.int v38)] [] (ev_up s46 6 6 1)
                  refine ⟨fun (h51 : ((ev_up s46 6 6 1).1 6 10) = 0) => ?_, fun (h51 : ¬ ((ev_up s46 6 6 1).1 6 10) = 0) => ?_⟩
                  · skip
                    change ev_wp pg_F pg_lay none [] (ev_lu pg_c124) (fun _ => false) _ 1939 152 [some (.ref 6), some (.int g), some (.int v15), some (.int v38)] [] (ev_up s46 6 6 1)
                    refine ⟨trivial, ?_⟩
                    rintro _ _ ⟨rfl, rfl⟩
                    exact ⟨_, rfl, Nat.le_of_eq (congrArg Prod.snd r49.2.1), _, r49, rfl⟩
                  · skip
                    change ev_wp pg_F pg_lay none [] (ev_lu pg_c124) (fun _ => false) _ 1939 148 [some (.ref 6), some (.int g), some (.int v15), some (.int v38)] [] (ev_up s46 6 6 1)
                    exact ⟨_, rfl, Nat.le_of_eq (congrArg Prod.snd r49.2.1), _, r49, rfl⟩
                · skip
                  change ev_wp pg_F pg_lay none [] (ev_lu pg_c124) (fun _ => false) _ 1948 141 [some (.ref 6), some (.int g), some (.int v15), some (.int v38)] [] (ev_up (ev_up (ev_up (ev_up (ev_up σ 6 0 0) 6 0 0) 6 5 g) 6 10 0) 6 6 0)
                  refine ⟨fun (h52 : ((ev_up (ev_up (ev_up (ev_up (ev_up σ 6 0 0) 6 0 0) 6 5 g) 6 10 0) 6 6 0).1 6 10) = 0) => ?_, fun (h52 : ¬ ((ev_up (ev_up (ev_up (ev_up (ev_up σ 6 0 0) 6 0 0) 6 5 g) 6 10 0) 6 6 0).1 6 10) = 0) => ?_⟩
                  · skip
                    change ev_wp pg_F pg_lay none [] (ev_lu pg_c124) (fun _ => false) _ 1945 152 [some (.ref 6), some (.int g), some (.int v15), some (.int v38)] [] (ev_up (ev_up (ev_up (ev_up (ev_up σ 6 0 0) 6 0 0) 6 5 g) 6 10 0) 6 6 0)
                    refine ⟨trivial, ?_⟩
                    rintro _ _ ⟨rfl, rfl⟩
                    exact ⟨_, rfl, Nat.le_of_eq (congrArg Prod.snd r13.2.1), _, r13, rfl⟩
                  · skip
                    change ev_wp pg_F pg_lay none [] (ev_lu pg_c124) (fun _ => false) _ 1945 148 [some (.ref 6), some (.int g), some (.int v15), some (.int v38)] [] (ev_up (ev_up (ev_up (ev_up (ev_up σ 6 0 0) 6 0 0) 6 5 g) 6 10 0) 6 6 0)
                    exact ⟨_, rfl, Nat.le_of_eq (congrArg Prod.snd r13.2.1), _, r13, rfl⟩
            · skip
              change ev_wp pg_F pg_lay none [] (ev_lu pg_c124) (fun _ => false) _ 1960 107 [some (.ref 6), some (.int g), some (.int v15), none] [] (ev_up (ev_up (ev_up (ev_up (ev_up σ 6 0 0) 6 0 0) 6 5 g) 6 10 0) 6 6 0)
              exact ⟨_, rfl, Nat.le_of_eq (congrArg Prod.snd r13.2.1), _, r13, rfl⟩
          · skip
            change ev_wp pg_F pg_lay none [] (ev_lu pg_c124) (fun _ => false) _ 1963 79 [some (.ref 6), some (.int g), some (.int v15), none] [] (ev_up (ev_up (ev_up (ev_up (ev_up σ 6 0 0) 6 0 0) 6 5 g) 6 10 0) 6 6 0)
            refine ⟨fun h => absurd h (by decide), fun _ => ?_⟩
            change ev_wp pg_F pg_lay none [] (ev_lu pg_c124) (fun _ => false) _ 1958 87 [some (.ref 6), some (.int g), some (.int v15), some (.int 0)] [] (ev_up (ev_up (ev_up (ev_up (ev_up σ 6 0 0) 6 0 0) 6 5 g) 6 10 0) 6 6 0)
            refine ⟨md_vp (md_j4 (md_l41 k16.1 h17)) 0 (by decide) rfl, ?_⟩
            rintro _ s54 ⟨k53, rfl⟩
            have r55 := r13.tr (md_wr.mj (md_l41 k16.1 h17) (by decide) (by decide : 0 < 8) rfl k53)
            have i56 := (md_wr.mj (md_l41 k16.1 h17) (by decide) (by decide : 0 < 8) rfl k53).2.2 i14
            change ev_wp pg_F pg_lay none [] (ev_lu pg_c124) (fun _ => false) _ 1953 94 [some (.ref 6), some (.int g), some (.int v15), some (.int 0)] [] s54
            refine ⟨fun h => absurd h (by decide), fun _ => ?_⟩
            change ev_wp pg_F pg_lay none [] (ev_lu pg_c124) (fun _ => false) _ 1948 87 [some (.ref 6), some (.int g), some (.int v15), some (.int 1)] [] s54
            refine ⟨md_vp (md_j4 (md_l41 k16.1 h17)) 1 (by decide) rfl, ?_⟩
            rintro _ s58 ⟨k57, rfl⟩
            have r59 := r55.tr (md_wr.mj (md_l41 k16.1 h17) (by decide) (by decide : 1 < 8) rfl k57)
            have i60 := (md_wr.mj (md_l41 k16.1 h17) (by decide) (by decide : 1 < 8) rfl k57).2.2 i56
            change ev_wp pg_F pg_lay none [] (ev_lu pg_c124) (fun _ => false) _ 1943 94 [some (.ref 6), some (.int g), some (.int v15), some (.int 1)] [] s58
            refine ⟨fun h => absurd h (by decide), fun _ => ?_⟩
            change ev_wp pg_F pg_lay none [] (ev_lu pg_c124) (fun _ => false) _ 1938 87 [some (.ref 6), some (.int g), some (.int v15), some (.int 2)] [] s58
            refine ⟨md_vp (md_j4 (md_l41 k16.1 h17)) 2 (by decide) rfl, ?_⟩
            rintro _ s62 ⟨k61, rfl⟩
            have r63 := r59.tr (md_wr.mj (md_l41 k16.1 h17) (by decide) (by decide : 2 < 8) rfl k61)
            have i64 := (md_wr.mj (md_l41 k16.1 h17) (by decide) (by decide : 2 < 8) rfl k61).2.2 i60
            change ev_wp pg_F pg_lay none [] (ev_lu pg_c124) (fun _ => false) _ 1933 94 [some (.ref 6), some (.int g), some (.int v15), some (.int 2)] [] s62
            refine ⟨fun h => absurd h (by decide), fun _ => ?_⟩
            change ev_wp pg_F pg_lay none [] (ev_lu pg_c124) (fun _ => false) _ 1928 87 [some (.ref 6), some (.int g), some (.int v15), some (.int 3)] [] s62
            refine ⟨md_vp (md_j4 (md_l41 k16.1 h17)) 3 (by decide) rfl, ?_⟩
            rintro _ s66 ⟨k65, rfl⟩
            have r67 := r63.tr (md_wr.mj (md_l41 k16.1 h17) (by decide) (by decide : 3 < 8) rfl k65)
            have i68 := (md_wr.mj (md_l41 k16.1 h17) (by decide) (by decide : 3 < 8) rfl k65).2.2 i64
            change ev_wp pg_F pg_lay none [] (ev_lu pg_c124) (fun _ => false) _ 1923 94 [some (.ref 6), some (.int g), some (.int v15), some (.int 3)] [] s66
            refine ⟨fun h => absurd h (by decide), fun _ => ?_⟩
            change ev_wp pg_F pg_lay none [] (ev_lu pg_c124) (fun _ => false) _ 1918 87 [some (.ref 6), some (.int g), some (.int v15), some (.int 4)] [] s66
            refine ⟨md_vp (md_j4 (md_l41 k16.1 h17)) 4 (by decide) rfl, ?_⟩
            rintro _ s70 ⟨k69, rfl⟩
            have r71 := r67.tr (md_wr.mj (md_l41 k16.1 h17) (by decide) (by decide : 4 < 8) rfl k69)
            have i72 := (md_wr.mj (md_l41 k16.1 h17) (by decide) (by decide : 4 < 8) rfl k69).2.2 i68
            change ev_wp pg_F pg_lay none [] (ev_lu pg_c124) (fun _ => false) _ 1913 94 [some (.ref 6), some (.int g), some (.int v15), some (.int 4)] [] s70
            refine ⟨fun h => absurd h (by decide), fun _ => ?_⟩
            change ev_wp pg_F pg_lay none [] (ev_lu pg_c124) (fun _ => false) _ 1908 87 [some (.ref 6), some (.int g), some (.int v15), some (.int 5)] [] s70
            refine ⟨md_vp (md_j4 (md_l41 k16.1 h17)) 5 (by decide) rfl, ?_⟩
            rintro _ s74 ⟨k73, rfl⟩
            have r75 := r71.tr (md_wr.mj (md_l41 k16.1 h17) (by decide) (by decide : 5 < 8) rfl k73)
            have i76 := (md_wr.mj (md_l41 k16.1 h17) (by decide) (by decide : 5 < 8) rfl k73).2.2 i72
            change ev_wp pg_F pg_lay none [] (ev_lu pg_c124) (fun _ => false) _ 1903 94 [some (.ref 6), some (.int g), some (.int v15), some (.int 5)] [] s74
            refine ⟨fun h => absurd h (by decide), fun _ => ?_⟩
            change ev_wp pg_F pg_lay none [] (ev_lu pg_c124) (fun _ => false) _ 1898 87 [some (.ref 6), some (.int g), some (.int v15), some (.int 6)] [] s74
            refine ⟨md_vp (md_j4 (md_l41 k16.1 h17)) 6 (by decide) rfl, ?_⟩
            rintro _ s78 ⟨k77, rfl⟩
            have r79 := r75.tr (md_wr.mj (md_l41 k16.1 h17) (by decide) (by decide : 6 < 8) rfl k77)
            have i80 := (md_wr.mj (md_l41 k16.1 h17) (by decide) (by decide : 6 < 8) rfl k77).2.2 i76
            change ev_wp pg_F pg_lay none [] (ev_lu pg_c124) (fun _ => false) _ 1893 94 [some (.ref 6), some (.int g), some (.int v15), some (.int 6)] [] s78
            refine ⟨fun h => absurd h (by decide), fun _ => ?_⟩
            change ev_wp pg_F pg_lay none [] (ev_lu pg_c124) (fun _ => false) _ 1888 87 [some (.ref 6), some (.int g), some (.int v15), some (.int 7)] [] s78
            refine ⟨md_vp (md_j4 (md_l41 k16.1 h17)) 7 (by decide) rfl, ?_⟩
            rintro _ s82 ⟨k81, rfl⟩
            have r83 := r79.tr (md_wr.mj (md_l41 k16.1 h17) (by decide) (by decide : 7 < 8) rfl k81)
            have i84 := (md_wr.mj (md_l41 k16.1 h17) (by decide) (by decide : 7 < 8) rfl k81).2.2 i80
            change ev_wp pg_F pg_lay none [] (ev_lu pg_c124) (fun _ => false) _ 1883 94 [some (.ref 6), some (.int g), some (.int v15), some (.int 7)] [] s82
            refine ⟨fun _ => ?_, fun h => absurd (by decide) h⟩
            change ev_wp pg_F pg_lay none [] (ev_lu pg_c124) (fun _ => false) _ 1878 100 [some (.ref 6), some (.int g), some (.int v15), some (.int 8)] [] s82
            refine ⟨fun (h85 : (s82.1 6 10) = 0) => ?_, fun (h85 : ¬ (s82.1 6 10) = 0) => ?_⟩
            · skip
              change ev_wp pg_F pg_lay none [] (ev_lu pg_c124) (fun _ => false) _ 1875 109 [some (.ref 6), some (.int g), some (.int v15), some (.int 8)] [] s82
              refine ⟨trivial, ?_⟩
              rintro _ _ ⟨v86, k87, rfl, rfl⟩
              change ev_wp pg_F pg_lay none [] (ev_lu pg_c124) (fun _ => false) _ 1873 113 [some (.ref 6), some (.int g), some (.int v15), some (.int 8)] [.int v86] s82
              refine ⟨fun (h88 : v86 < 0) => ?_, fun (h88 : ¬ v86 < 0) => ?_⟩
              · skip
                change ev_wp pg_F pg_lay none [] (ev_lu pg_c124) (fun _ => false) _ 1870 141 [some (.ref 6), some (.int g), some (.int v15), some (.int v86)] [] s82
                refine ⟨fun (h89 : (s82.1 6 10) = 0) => ?_, fun (h89 : ¬ (s82.1 6 10) = 0) => ?_⟩
                · skip
                  change ev_wp pg_F pg_lay none [] (ev_lu pg_c124) (fun _ => false) _ 1867 152 [some (.ref 6), some (.int g), some (.int v15), some (.int v86)] [] s82
                  refine ⟨trivial, ?_⟩
                  rintro _ _ ⟨rfl, rfl⟩
                  exact ⟨_, rfl, Nat.le_of_eq (congrArg Prod.snd r83.2.1), _, r83, rfl⟩
                · skip
                  change ev_wp pg_F pg_lay none [] (ev_lu pg_c124) (fun _ => false) _ 1867 148 [some (.ref 6), some (.int g), some (.int v15), some (.int v86)] [] s82
                  exact ⟨_, rfl, Nat.le_of_eq (congrArg Prod.snd r83.2.1), _, r83, rfl⟩
              · skip
                change ev_wp pg_F pg_lay none [] (ev_lu pg_c124) (fun _ => false) _ 1870 118 [some (.ref 6), some (.int g), some (.int v15), some (.int v86)] [] s82
                refine ⟨md_vp (md_j4 (md_l41 k87 h88)) 0 (by decide) rfl, ?_⟩
                rintro _ _ ⟨rfl, rfl⟩
                change ev_wp pg_F pg_lay none [] (ev_lu pg_c124) (fun _ => false) _ 1865 125 [some (.ref 6), some (.int g), some (.int v15), some (.int v86)] [.int (s82.1 7 (Int32.toNatClampNeg (4 * v86 + 0))), .ref 6] s82
                refine ⟨(md_num i84 (md_l41 k87 h88)), ?_⟩
                rintro _ _ ⟨v90, k91, rfl, rfl⟩
                change ev_wp pg_F pg_lay none [] (ev_lu pg_c124) (fun _ => false) _ 1864 128 [some (.ref 6), some (.int g), some (.int v15), some (.int v86)] [.int v90] s82
                refine ⟨fun (h92 : v90 = 0) => ?_, fun (h92 : ¬ v90 = 0) => ?_⟩
                · skip
                  change ev_wp pg_F pg_lay none [] (ev_lu pg_c124) (fun _ => false) _ 1863 131 [some (.ref 6), some (.int g), some (.int v15), some (.int v86)] [] s82
                  refine ⟨⟨(md_l41 k87 h88), i84⟩, ?_⟩
                  rintro _ s94 ⟨k93, rfl⟩
                  have r95 := r83.tr k93
                  have i96 := k93.2.2 i84
                  change ev_wp pg_F pg_lay none [] (ev_lu pg_c124) (fun _ => false) _ 1860 136 [some (.ref 6), some (.int g), some (.int v15), some (.int v86)] [] s94
                  refine ⟨Or.inr rfl, ?_⟩
                  have r97 := r95.tr (md_up6 s94 6 1 (by decide) (by decide))
                  have i98 := (md_up6 s94 6 1 (by decide) (by decide)).2.2 i96
                  change ev_wp pg_F pg_lay none [] (ev_lu pg_c124) (fun _ => false) _ 1857 141 [some (.ref 6), some (.int g), some (.int v15), some (.int v86)] [] (ev_up s94 6 6 1)
                  refine ⟨fun (h99 : ((ev_up s94 6 6 1).1 6 10) = 0) => ?_, fun (h99 : ¬ ((ev_up s94 6 6 1).1 6 10) = 0) => ?_⟩
                  · skip
                    change ev_wp pg_F pg_lay none [] (ev_lu pg_c124) (fun _ => false) _ 1854 152 [some (.ref 6), some (.int g), some (.int v15), some (.int v86)] [] (ev_up s94 6 6 1)
                    refine ⟨trivial, ?_⟩
                    rintro _ _ ⟨rfl, rfl⟩
                    exact ⟨_, rfl, Nat.le_of_eq (congrArg Prod.snd r97.2.1), _, r97, rfl⟩
                  · skip
                    change ev_wp pg_F pg_lay none [] (ev_lu pg_c124) (fun _ => false) _ 1854 148 [some (.ref 6), some (.int g), some (.int v15), some (.int v86)] [] (ev_up s94 6 6 1)
                    exact ⟨_, rfl, Nat.le_of_eq (congrArg Prod.snd r97.2.1), _, r97, rfl⟩
                · skip
                  change ev_wp pg_F pg_lay none [] (ev_lu pg_c124) (fun _ => false) _ 1863 141 [some (.ref 6), some (.int g), some (.int v15), some (.int v86)] [] s82
                  refine ⟨fun (h100 : (s82.1 6 10) = 0) => ?_, fun (h100 : ¬ (s82.1 6 10) = 0) => ?_⟩
                  · skip
                    change ev_wp pg_F pg_lay none [] (ev_lu pg_c124) (fun _ => false) _ 1860 152 [some (.ref 6), some (.int g), some (.int v15), some (.int v86)] [] s82
                    refine ⟨trivial, ?_⟩
                    rintro _ _ ⟨rfl, rfl⟩
                    exact ⟨_, rfl, Nat.le_of_eq (congrArg Prod.snd r83.2.1), _, r83, rfl⟩
                  · skip
                    change ev_wp pg_F pg_lay none [] (ev_lu pg_c124) (fun _ => false) _ 1860 148 [some (.ref 6), some (.int g), some (.int v15), some (.int v86)] [] s82
                    exact ⟨_, rfl, Nat.le_of_eq (congrArg Prod.snd r83.2.1), _, r83, rfl⟩
            · skip
              change ev_wp pg_F pg_lay none [] (ev_lu pg_c124) (fun _ => false) _ 1875 107 [some (.ref 6), some (.int g), some (.int v15), some (.int 8)] [] s82
              exact ⟨_, rfl, Nat.le_of_eq (congrArg Prod.snd r83.2.1), _, r83, rfl⟩
      · skip
        change ev_wp pg_F pg_lay none [] (ev_lu pg_c124) (fun _ => false) _ 1985 32 [some (.ref 6), some (.int g), none, none] [.int 2, .ref 6] (ev_up σ 6 0 0)
        refine ⟨Or.inr rfl, ?_⟩
        rintro _ _ ⟨_, ⟨rfl, rfl⟩, rfl⟩
        have r101 := r4.tr (md_up6 (ev_up σ 6 0 0) 0 2 (by decide) (by decide))
        have i102 := (md_up6 (ev_up σ 6 0 0) 0 2 (by decide) (by decide)).2.2 i5
        change ev_wp pg_F pg_lay none [] (ev_lu pg_c124) (fun _ => false) _ 1982 40 [some (.ref 6), some (.int g), none, none] [.int 1] (ev_up (ev_up σ 6 0 0) 6 0 2)
        refine ⟨fun h => absurd h (by decide), fun _ => ?_⟩
        change ev_wp pg_F pg_lay none [] (ev_lu pg_c124) (fun _ => false) _ 1981 43 [some (.ref 6), some (.int g), none, none] [] (ev_up (ev_up σ 6 0 0) 6 0 2)
        exact ⟨_, rfl, Nat.le_of_eq (congrArg Prod.snd r101.2.1), _, r101, rfl⟩
  · cases h
theorem pr_111 : pg_Rn pg_F 111 pg_y111 [] pg_t111 := by
  intro vs σ P h hp
  replace h : pf_111 vs σ = some P := h
  unfold pf_111 at h
  split at h
  · rename_i k a b c
    cases h
    refine ⟨by simp [Value.category], Nat.le_of_ble_eq_true rfl, ev_go pg_hhs pg_cd pg_o111 (fun _ => false) 2000 (Q1 := ev_at (ev_tl pg_t111) σ.2.2 (sp_m (md_ok σ) (fun _ σ' => md_m σ σ')).2) ?_ (fun _ _ _ _ h => ev_fin h)⟩
    change ev_wp pg_F pg_lay none [] (ev_lu pg_c111) (fun _ => false) _ 2000 0 [some (.ref 6), some (.int k), some (.int a), some (.int b), some (.int c), none] [] σ
    refine ⟨trivial, ?_⟩
    rintro _ _ ⟨rfl, rfl⟩
    change ev_wp pg_F pg_lay none [] (ev_lu pg_c111) (fun _ => false) _ 1992 11 [some (.ref 6), some (.int k), some (.int a), some (.int b), some (.int c), none] [.int (sp_prod k a b c), .int 1, .ref 6] σ
    refine ⟨fun (h1 : (sp_prod k a b c) = 0) => ?_, fun (h1 : ¬ (sp_prod k a b c) = 0) => ?_⟩
    · skip
      change ev_wp pg_F pg_lay none [] (ev_lu pg_c111) (fun _ => false) _ 1991 14 [some (.ref 6), some (.int k), some (.int a), some (.int b), some (.int c), none] [.int 1, .ref 6] σ
      refine ⟨Or.inr rfl, ?_⟩
      rintro _ _ ⟨_, ⟨rfl, rfl⟩, rfl⟩
      have r2 := (md_m.rf σ).tr (md_up6 σ 0 1 (by decide) (by decide))
      have i3 := (md_up6 σ 0 1 (by decide) (by decide)).2.2 hp
      change ev_wp pg_F pg_lay none [] (ev_lu pg_c111) (fun _ => false) _ 1988 22 [some (.ref 6), some (.int k), some (.int a), some (.int b), some (.int c), none] [.int 1] (ev_up σ 6 0 1)
      refine ⟨fun h => absurd h (by decide), fun _ => ?_⟩
      change ev_wp pg_F pg_lay none [] (ev_lu pg_c111) (fun _ => false) _ 1987 52 [some (.ref 6), some (.int k), some (.int a), some (.int b), some (.int c), none] [] (ev_up σ 6 0 1)
      exact ⟨_, rfl, by first | exact Or.inl rfl | exact Or.inr rfl, Nat.le_of_eq (congrArg Prod.snd r2.2.1), _, r2, rfl⟩
    · skip
      change ev_wp pg_F pg_lay none [] (ev_lu pg_c111) (fun _ => false) _ 1991 18 [some (.ref 6), some (.int k), some (.int a), some (.int b), some (.int c), none] [.int 1, .ref 6] σ
      refine ⟨Or.inl rfl, ?_⟩
      rintro _ _ ⟨_, ⟨rfl, rfl⟩, rfl⟩
      have r4 := (md_m.rf σ).tr (md_up6 σ 0 0 (by decide) (by decide))
      have i5 := (md_up6 σ 0 0 (by decide) (by decide)).2.2 hp
      change ev_wp pg_F pg_lay none [] (ev_lu pg_c111) (fun _ => false) _ 1989 22 [some (.ref 6), some (.int k), some (.int a), some (.int b), some (.int c), none] [.int 0] (ev_up σ 6 0 0)
      refine ⟨fun _ => ?_, fun h => absurd (by decide) h⟩
      change ev_wp pg_F pg_lay none [] (ev_lu pg_c111) (fun _ => false) _ 1988 25 [some (.ref 6), some (.int k), some (.int a), some (.int b), some (.int c), none] [] (ev_up σ 6 0 0)
      refine ⟨fun (h6 : ((ev_up σ 6 0 0).1 6 5) < 0) => ?_, fun (h6 : ¬ ((ev_up σ 6 0 0).1 6 5) < 0) => ?_⟩
      · skip
        change ev_wp pg_F pg_lay none [] (ev_lu pg_c111) (fun _ => false) _ 1983 38 [some (.ref 6), some (.int k), some (.int a), some (.int b), some (.int c), none] [.int 2, .ref 6] (ev_up σ 6 0 0)
        refine ⟨Or.inl rfl, ?_⟩
        rintro _ _ ⟨_, ⟨rfl, rfl⟩, rfl⟩
        have r7 := r4.tr (md_up6 (ev_up σ 6 0 0) 0 0 (by decide) (by decide))
        have i8 := (md_up6 (ev_up σ 6 0 0) 0 0 (by decide) (by decide)).2.2 i5
        change ev_wp pg_F pg_lay none [] (ev_lu pg_c111) (fun _ => false) _ 1981 42 [some (.ref 6), some (.int k), some (.int a), some (.int b), some (.int c), none] [.int 0] (ev_up (ev_up σ 6 0 0) 6 0 0)
        refine ⟨fun _ => ?_, fun h => absurd (by decide) h⟩
        change ev_wp pg_F pg_lay none [] (ev_lu pg_c111) (fun _ => false) _ 1980 45 [some (.ref 6), some (.int k), some (.int a), some (.int b), some (.int c), none] [] (ev_up (ev_up σ 6 0 0) 6 0 0)
        refine ⟨trivial, ?_⟩
        rintro _ _ ⟨rfl, rfl⟩
        change ev_wp pg_F pg_lay none [] (ev_lu pg_c111) (fun _ => false) _ 1978 49 [some (.ref 6), some (.int k), some (.int a), some (.int b), some (.int c), none] [.int ((ev_up (ev_up σ 6 0 0) 6 0 0).1 7 0)] (ev_up (ev_up σ 6 0 0) 6 0 0)
        refine ⟨fun (h9 : ((ev_up (ev_up σ 6 0 0) 6 0 0).1 7 0) = 0) => ?_, fun (h9 : ¬ ((ev_up (ev_up σ 6 0 0) 6 0 0).1 7 0) = 0) => ?_⟩
        · skip
          change ev_wp pg_F pg_lay none [] (ev_lu pg_c111) (fun _ => false) _ 1977 54 [some (.ref 6), some (.int k), some (.int a), some (.int b), some (.int c), none] [] (ev_up (ev_up σ 6 0 0) 6 0 0)
          have r10 := r7.tr (md_up6 (ev_up (ev_up σ 6 0 0) 6 0 0) 8 (-1) (by decide) (by decide))
          have i11 := (md_up6 (ev_up (ev_up σ 6 0 0) 6 0 0) 8 (-1) (by decide) (by decide)).2.2 i8
          refine ⟨Or.inl rfl, ?_⟩
          have r12 := r10.tr (md_up6 (ev_up (ev_up (ev_up σ 6 0 0) 6 0 0) 6 8 (-1)) 10 0 (by decide) (by decide))
          have i13 := (md_up6 (ev_up (ev_up (ev_up σ 6 0 0) 6 0 0) 6 8 (-1)) 10 0 (by decide) (by decide)).2.2 i11
          change ev_wp pg_F pg_lay none [] (ev_lu pg_c111) (fun _ => false) _ 1968 70 [some (.ref 6), some (.int k), some (.int a), some (.int b), some (.int c), some (.int ((ev_up (ev_up σ 6 0 0) 6 0 0).1 6 8))] [] (ev_up (ev_up (ev_up (ev_up σ 6 0 0) 6 0 0) 6 8 (-1)) 6 10 0)
          refine ⟨sp_in rfl rfl, ?_⟩
          rintro _ s15 ⟨k14, rfl⟩
          change ev_wp pg_F pg_lay none [] (ev_lu pg_c111) (fun _ => false) _ 1963 77 [some (.ref 6), some (.int k), some (.int a), some (.int b), some (.int c), some (.int ((ev_up (ev_up σ 6 0 0) 6 0 0).1 6 8))] [] s15
          refine ⟨sp_in rfl rfl, ?_⟩
          rintro _ s17 ⟨k16, rfl⟩
          change ev_wp pg_F pg_lay none [] (ev_lu pg_c111) (fun _ => false) _ 1958 84 [some (.ref 6), some (.int k), some (.int a), some (.int b), some (.int c), some (.int ((ev_up (ev_up σ 6 0 0) 6 0 0).1 6 8))] [] s17
          refine ⟨sp_in rfl rfl, ?_⟩
          rintro _ s19 ⟨k18, rfl⟩
          change ev_wp pg_F pg_lay none [] (ev_lu pg_c111) (fun _ => false) _ 1953 91 [some (.ref 6), some (.int k), some (.int a), some (.int b), some (.int c), some (.int ((ev_up (ev_up σ 6 0 0) 6 0 0).1 6 8))] [] s19
          refine ⟨sp_in rfl rfl, ?_⟩
          rintro _ s21 ⟨k20, rfl⟩
          obtain ⟨m22, tm22, um22⟩ := md_w4 (s0 := (ev_up (ev_up (ev_up (ev_up σ 6 0 0) 6 0 0) 6 8 (-1)) 6 10 0)) rfl rfl k14 k16 k18 k20 (sp_prod_60 h1)
          have r23 := r12.tr m22
          have i24 := m22.2.2 i13
          change ev_wp pg_F pg_lay none [] (ev_lu pg_c111) (fun _ => false) _ 1948 99 [some (.ref 6), some (.int k), some (.int a), some (.int b), some (.int c), some (.int ((ev_up (ev_up σ 6 0 0) 6 0 0).1 6 8))] [] s21
          refine ⟨fun (h25 : k = 3) => ?_, fun (h25 : ¬ k = 3) => ?_⟩
          · skip
            change ev_wp pg_F pg_lay none [] (ev_lu pg_c111) (fun _ => false) _ 1945 104 [some (.ref 6), some (.int k), some (.int a), some (.int b), some (.int c), some (.int ((ev_up (ev_up σ 6 0 0) 6 0 0).1 6 8))] [] s21
            refine ⟨trivial, ?_⟩
            rintro _ s27 ⟨k26, rfl⟩
            have r28 := r23.tr k26.m
            have i29 := k26.m.2.2 i24
            have tk26 : s27.1 6 10 = 0 := by rw [k26.1 6 (by decide)]; exact tm22
            have uk26 : s27.1 6 8 = -1 := by rw [k26.1 6 (by decide)]; exact um22
            change ev_wp pg_F pg_lay none [] (ev_lu pg_c111) (fun _ => false) _ 1943 108 [some (.ref 6), some (.int k), some (.int a), some (.int b), some (.int c), some (.int ((ev_up (ev_up σ 6 0 0) 6 0 0).1 6 8))] [] s27
            refine ⟨sp_in rfl rfl, ?_⟩
            have r30 := r28.tr (md_upA s27 11 (by decide) (by decide) (Int32.toNatClampNeg 1) b)
            have i31 := (md_upA s27 11 (by decide) (by decide) (Int32.toNatClampNeg 1) b).2.2 i29
            change ev_wp pg_F pg_lay none [] (ev_lu pg_c111) (fun _ => false) _ 1938 115 [some (.ref 6), some (.int k), some (.int a), some (.int b), some (.int c), some (.int ((ev_up (ev_up σ 6 0 0) 6 0 0).1 6 8))] [] (ev_up s27 11 (Int32.toNatClampNeg 1) b)
            refine ⟨⟨Or.inl rfl, i31⟩, ?_⟩
            rintro _ s33 ⟨k32, rfl⟩
            have r34 := r30.tr k32.1
            have i35 := k32.1.2.2 i31
            have wk32 : md_tw 5 (ev_up s27 11 (Int32.toNatClampNeg 1) b) s33 := k32.2
            change ev_wp pg_F pg_lay none [] (ev_lu pg_c111) (fun _ => false) _ 1935 120 [some (.ref 6), some (.int k), some (.int a), some (.int b), some (.int c), some (.int ((ev_up (ev_up σ 6 0 0) 6 0 0).1 6 8))] [] s33
            have r36 := r34.tr (md_up6 s33 8 ((ev_up (ev_up σ 6 0 0) 6 0 0).1 6 8) (by decide) (by decide))
            have i37 := (md_up6 s33 8 ((ev_up (ev_up σ 6 0 0) 6 0 0).1 6 8) (by decide) (by decide)).2.2 i35
            exact ⟨_, rfl, by first | exact Or.inl rfl | exact Or.inr rfl, Nat.le_of_eq (congrArg Prod.snd r36.2.1), _, r36, rfl⟩
          · skip
            change ev_wp pg_F pg_lay none [] (ev_lu pg_c111) (fun _ => false) _ 1945 120 [some (.ref 6), some (.int k), some (.int a), some (.int b), some (.int c), some (.int ((ev_up (ev_up σ 6 0 0) 6 0 0).1 6 8))] [] s21
            have r38 := r23.tr (md_up6 s21 8 ((ev_up (ev_up σ 6 0 0) 6 0 0).1 6 8) (by decide) (by decide))
            have i39 := (md_up6 s21 8 ((ev_up (ev_up σ 6 0 0) 6 0 0).1 6 8) (by decide) (by decide)).2.2 i24
            exact ⟨_, rfl, by first | exact Or.inl rfl | exact Or.inr rfl, Nat.le_of_eq (congrArg Prod.snd r38.2.1), _, r38, rfl⟩
        · skip
          change ev_wp pg_F pg_lay none [] (ev_lu pg_c111) (fun _ => false) _ 1977 52 [some (.ref 6), some (.int k), some (.int a), some (.int b), some (.int c), none] [] (ev_up (ev_up σ 6 0 0) 6 0 0)
          exact ⟨_, rfl, by first | exact Or.inl rfl | exact Or.inr rfl, Nat.le_of_eq (congrArg Prod.snd r7.2.1), _, r7, rfl⟩
      · skip
        change ev_wp pg_F pg_lay none [] (ev_lu pg_c111) (fun _ => false) _ 1983 34 [some (.ref 6), some (.int k), some (.int a), some (.int b), some (.int c), none] [.int 2, .ref 6] (ev_up σ 6 0 0)
        refine ⟨Or.inr rfl, ?_⟩
        rintro _ _ ⟨_, ⟨rfl, rfl⟩, rfl⟩
        have r40 := r4.tr (md_up6 (ev_up σ 6 0 0) 0 2 (by decide) (by decide))
        have i41 := (md_up6 (ev_up σ 6 0 0) 0 2 (by decide) (by decide)).2.2 i5
        change ev_wp pg_F pg_lay none [] (ev_lu pg_c111) (fun _ => false) _ 1980 42 [some (.ref 6), some (.int k), some (.int a), some (.int b), some (.int c), none] [.int 1] (ev_up (ev_up σ 6 0 0) 6 0 2)
        refine ⟨fun h => absurd h (by decide), fun _ => ?_⟩
        change ev_wp pg_F pg_lay none [] (ev_lu pg_c111) (fun _ => false) _ 1979 52 [some (.ref 6), some (.int k), some (.int a), some (.int b), some (.int c), none] [] (ev_up (ev_up σ 6 0 0) 6 0 2)
        exact ⟨_, rfl, by first | exact Or.inl rfl | exact Or.inr rfl, Nat.le_of_eq (congrArg Prod.snd r40.2.1), _, r40, rfl⟩
  · cases h
theorem pr_29 : pg_Rn pg_F 29 pg_y29 [] pg_t29 := by
  intro vs σ P h hp
  replace h : pf_29 vs σ = some P := h
  unfold pf_29 at h
  split at h
  · cases h
    refine ⟨by simp [Value.category], Nat.le_of_ble_eq_true rfl, ev_go pg_hhs pg_cd pg_o29 (fun _ => false) 2000 (Q1 := ev_at (ev_tl pg_t29) σ.2.2 (sp_m (md_ok σ) (fun _ σ' => md_m σ σ')).2) ?_ (fun _ _ _ _ h => ev_fin h)⟩
    change ev_wp pg_F pg_lay none [] (ev_lu pg_c29) (fun _ => false) _ 2000 0 [some (.ref 6)] [] σ
    have r1 := (md_m.rf σ).tr (md_up6 σ 0 0 (by decide) (by decide))
    have i2 := (md_up6 σ 0 0 (by decide) (by decide)).2.2 hp
    exact ⟨_, rfl, Nat.le_of_eq (congrArg Prod.snd r1.2.1), _, r1, rfl⟩
  · cases h
theorem pr_20 : pg_Rn pg_F 20 pg_y20 [] pg_t20 := by
  intro vs σ P h hp
  replace h : pf_20 vs σ = some P := h
  unfold pf_20 at h
  split at h
  · cases h
    refine ⟨by simp [Value.category], Nat.le_of_ble_eq_true rfl, ev_go pg_hhs pg_cd pg_o20 (fun _ => false) 2000 (Q1 := ev_at (ev_tl pg_t20) σ.2.2 (sp_m (md_ok σ) (fun _ σ' => md_m σ σ')).2) ?_ (fun _ _ _ _ h => ev_fin h)⟩
    change ev_wp pg_F pg_lay none [] (ev_lu pg_c20) (fun _ => false) _ 2000 0 [some (.ref 6), none] [] σ
    have r1 := (md_m.rf σ).tr (md_up6 σ 0 0 (by decide) (by decide))
    have i2 := (md_up6 σ 0 0 (by decide) (by decide)).2.2 hp
    refine ⟨fun (h3 : ((ev_up σ 6 0 0).1 6 5) < 0) => ?_, fun (h3 : ¬ ((ev_up σ 6 0 0).1 6 5) < 0) => ?_⟩
    · skip
      change ev_wp pg_F pg_lay none [] (ev_lu pg_c20) (fun _ => false) _ 1994 16 [some (.ref 6), none] [] (ev_up σ 6 0 0)
      have r4 := r1.tr (md_gate (ev_up σ 6 0 0) (-1) (Or.inl rfl))
      have i5 := (md_gate (ev_up σ 6 0 0) (-1) (Or.inl rfl)).2.2 i2
      refine ⟨fun _ => ?_, fun h => absurd (by decide) h⟩
      change ev_wp pg_F pg_lay none [] (ev_lu pg_c20) (fun _ => false) _ 1987 32 [some (.ref 6), some (.int 0)] [] (ev_up (ev_up σ 6 0 0) 6 5 (-1))
      exact ⟨_, rfl, by first | exact Or.inl rfl | exact Or.inr rfl, Nat.le_of_eq (congrArg Prod.snd r4.2.1), _, r4, rfl⟩
    · skip
      change ev_wp pg_F pg_lay none [] (ev_lu pg_c20) (fun _ => false) _ 1994 12 [some (.ref 6), none] [] (ev_up σ 6 0 0)
      have r6 := r1.tr (md_gate (ev_up σ 6 0 0) (-1) (Or.inl rfl))
      have i7 := (md_gate (ev_up σ 6 0 0) (-1) (Or.inl rfl)).2.2 i2
      refine ⟨fun h => absurd h (by decide), fun _ => ?_⟩
      change ev_wp pg_F pg_lay none [] (ev_lu pg_c20) (fun _ => false) _ 1986 27 [some (.ref 6), some (.int 1)] [] (ev_up (ev_up σ 6 0 0) 6 5 (-1))
      have r8 := r6.tr (md_up6 (ev_up (ev_up σ 6 0 0) 6 5 (-1)) 8 (-1) (by decide) (by decide))
      have i9 := (md_up6 (ev_up (ev_up σ 6 0 0) 6 5 (-1)) 8 (-1) (by decide) (by decide)).2.2 i7
      exact ⟨_, rfl, by first | exact Or.inl rfl | exact Or.inr rfl, Nat.le_of_eq (congrArg Prod.snd r8.2.1), _, r8, rfl⟩
  · cases h
theorem pr_85 : pg_Rn pg_F 85 pg_y85 [] pg_t85 := by
  intro vs σ P h hp
  replace h : pf_85 vs σ = some P := h
  unfold pf_85 at h
  split at h
  · cases h
    refine ⟨by simp [Value.category], Nat.le_of_ble_eq_true rfl, ev_go pg_hhs pg_cd pg_o85 (fun _ => false) 2000 (Q1 := ev_at (ev_tl pg_t85) σ.2.2 (sp_m (md_ok σ) (fun _ σ' => md_m σ σ')).2) ?_ (fun _ _ _ _ h => ev_fin h)⟩
    change ev_wp pg_F pg_lay none [] (ev_lu pg_c85) (fun _ => false) _ 2000 0 [some (.ref 6)] [] σ
    have r1 := (md_m.rf σ).tr (md_up6 σ 0 0 (by decide) (by decide))
    have i2 := (md_up6 σ 0 0 (by decide) (by decide)).2.2 hp
    refine ⟨trivial, ?_⟩
    rintro _ _ ⟨rfl, rfl⟩
    change ev_wp pg_F pg_lay none [] (ev_lu pg_c85) (fun _ => false) _ 1995 9 [some (.ref 6)] [.int ((ev_up σ 6 0 0).1 7 0)] (ev_up σ 6 0 0)
    refine ⟨fun (h3 : ((ev_up σ 6 0 0).1 7 0) = 1) => ?_, fun (h3 : ¬ ((ev_up σ 6 0 0).1 7 0) = 1) => ?_⟩
    · skip
      change ev_wp pg_F pg_lay none [] (ev_lu pg_c85) (fun _ => false) _ 1993 13 [some (.ref 6)] [] (ev_up σ 6 0 0)
      refine ⟨sp_in rfl rfl, ?_⟩
      rintro _ _ ⟨rfl, rfl⟩
      change ev_wp pg_F pg_lay none [] (ev_lu pg_c85) (fun _ => false) _ 1989 19 [some (.ref 6)] [.int ((ev_up σ 6 0 0).1 7 1)] (ev_up σ 6 0 0)
      refine ⟨trivial, ?_⟩
      rintro _ _ ⟨rfl, rfl⟩
      change ev_wp pg_F pg_lay none [] (ev_lu pg_c85) (fun _ => false) _ 1987 23 [some (.ref 6)] [.int (md_cnt (ev_up σ 6 0 0) 64), .int ((ev_up σ 6 0 0).1 7 1)] (ev_up σ 6 0 0)
      refine ⟨trivial, ?_⟩
      rintro _ _ ⟨v4, k5, rfl, rfl⟩
      change ev_wp pg_F pg_lay none [] (ev_lu pg_c85) (fun _ => false) _ 1986 26 [some (.ref 6)] [.int v4] (ev_up σ 6 0 0)
      exact ⟨_, rfl, Nat.le_of_eq (congrArg Prod.snd r1.2.1), _, r1, rfl⟩
    · skip
      change ev_wp pg_F pg_lay none [] (ev_lu pg_c85) (fun _ => false) _ 1993 29 [some (.ref 6)] [] (ev_up σ 6 0 0)
      exact ⟨_, rfl, Nat.le_of_eq (congrArg Prod.snd r1.2.1), _, r1, rfl⟩
  · cases h
theorem pr_98 : pg_Rn pg_F 98 pg_y98 [] pg_t98 := by
  intro vs σ P h hp
  replace h : pf_98 vs σ = some P := h
  unfold pf_98 at h
  split at h
  · cases h
    refine ⟨by simp [Value.category], Nat.le_of_ble_eq_true rfl, ev_go pg_hhs pg_cd pg_o98 (fun _ => false) 2000 (Q1 := ev_at (ev_tl pg_t98) σ.2.2 (sp_m (md_ok σ) (fun _ σ' => md_m σ σ')).2) ?_ (fun _ _ _ _ h => ev_fin h)⟩
    change ev_wp pg_F pg_lay none [] (ev_lu pg_c98) (fun _ => false) _ 2000 0 [some (.ref 6), none] [] σ
    have r1 := (md_m.rf σ).tr (md_up6 σ 0 0 (by decide) (by decide))
    have i2 := (md_up6 σ 0 0 (by decide) (by decide)).2.2 hp
    refine ⟨Or.inl rfl, ?_⟩
    rintro _ _ ⟨v3, k4, rfl, rfl⟩
    change ev_wp pg_F pg_lay none [] (ev_lu pg_c98) (fun _ => false) _ 1994 10 [some (.ref 6), none] [.int v3] (ev_up σ 6 0 0)
    refine ⟨trivial, ?_⟩
    rintro _ _ ⟨rfl, rfl⟩
    change ev_wp pg_F pg_lay none [] (ev_lu pg_c98) (fun _ => false) _ 1991 15 [some (.ref 6), some (.int v3)] [.int ((ev_up σ 6 0 0).1 7 0)] (ev_up σ 6 0 0)
    refine ⟨fun (h5 : ((ev_up σ 6 0 0).1 7 0) = 3) => ?_, fun (h5 : ¬ ((ev_up σ 6 0 0).1 7 0) = 3) => ?_⟩
    · skip
      change ev_wp pg_F pg_lay none [] (ev_lu pg_c98) (fun _ => false) _ 1989 19 [some (.ref 6), some (.int v3)] [] (ev_up σ 6 0 0)
      refine ⟨fun (h6 : v3 < 0) => ?_, fun (h6 : ¬ v3 < 0) => ?_⟩
      · skip
        change ev_wp pg_F pg_lay none [] (ev_lu pg_c98) (fun _ => false) _ 1987 32 [some (.ref 6), some (.int v3)] [] (ev_up σ 6 0 0)
        exact ⟨_, rfl, Nat.le_of_eq (congrArg Prod.snd r1.2.1), _, r1, rfl⟩
      · skip
        change ev_wp pg_F pg_lay none [] (ev_lu pg_c98) (fun _ => false) _ 1987 23 [some (.ref 6), some (.int v3)] [] (ev_up σ 6 0 0)
        refine ⟨md_vp (md_j5 (md_l5 k4.1 h6)) 1 (by decide) rfl, ?_⟩
        rintro _ _ ⟨rfl, rfl⟩
        change ev_wp pg_F pg_lay none [] (ev_lu pg_c98) (fun _ => false) _ 1983 29 [some (.ref 6), some (.int v3)] [.int ((ev_up σ 6 0 0).1 7 (Int32.toNatClampNeg (4 * v3 + 1)))] (ev_up σ 6 0 0)
        exact ⟨_, rfl, Nat.le_of_eq (congrArg Prod.snd r1.2.1), _, r1, rfl⟩
    · skip
      change ev_wp pg_F pg_lay none [] (ev_lu pg_c98) (fun _ => false) _ 1989 32 [some (.ref 6), some (.int v3)] [] (ev_up σ 6 0 0)
      exact ⟨_, rfl, Nat.le_of_eq (congrArg Prod.snd r1.2.1), _, r1, rfl⟩
  · cases h
theorem pr_97 : pg_Rn pg_F 97 pg_y97 [] pg_t97 := by
  intro vs σ P h hp
  replace h : pf_97 vs σ = some P := h
  unfold pf_97 at h
  split at h
  · rename_i d
    cases h
    refine ⟨by simp [Value.category], Nat.le_of_ble_eq_true rfl, ev_go pg_hhs pg_cd pg_o97 (fun _ => false) 2000 (Q1 := ev_at (ev_tl pg_t97) σ.2.2 (sp_m (md_ok σ) (fun _ σ' => md_m σ σ')).2) ?_ (fun _ _ _ _ h => ev_fin h)⟩
    change ev_wp pg_F pg_lay none [] (ev_lu pg_c97) (fun _ => false) _ 2000 0 [some (.ref 6), some (.int d), none] [] σ
    have r1 := (md_m.rf σ).tr (md_up6 σ 0 0 (by decide) (by decide))
    have i2 := (md_up6 σ 0 0 (by decide) (by decide)).2.2 hp
    refine ⟨Or.inl rfl, ?_⟩
    rintro _ _ ⟨v3, k4, rfl, rfl⟩
    change ev_wp pg_F pg_lay none [] (ev_lu pg_c97) (fun _ => false) _ 1994 10 [some (.ref 6), some (.int d), none] [.int v3] (ev_up σ 6 0 0)
    refine ⟨trivial, ?_⟩
    rintro _ _ ⟨rfl, rfl⟩
    change ev_wp pg_F pg_lay none [] (ev_lu pg_c97) (fun _ => false) _ 1991 15 [some (.ref 6), some (.int d), some (.int v3)] [.int ((ev_up σ 6 0 0).1 7 0)] (ev_up σ 6 0 0)
    refine ⟨fun (h5 : ((ev_up σ 6 0 0).1 7 0) = 3) => ?_, fun (h5 : ¬ ((ev_up σ 6 0 0).1 7 0) = 3) => ?_⟩
    · skip
      change ev_wp pg_F pg_lay none [] (ev_lu pg_c97) (fun _ => false) _ 1989 19 [some (.ref 6), some (.int d), some (.int v3)] [] (ev_up σ 6 0 0)
      refine ⟨fun (h6 : v3 < 0) => ?_, fun (h6 : ¬ v3 < 0) => ?_⟩
      · skip
        change ev_wp pg_F pg_lay none [] (ev_lu pg_c97) (fun _ => false) _ 1987 32 [some (.ref 6), some (.int d), some (.int v3)] [] (ev_up σ 6 0 0)
        exact ⟨_, rfl, Nat.le_of_eq (congrArg Prod.snd r1.2.1), _, r1, rfl⟩
      · skip
        change ev_wp pg_F pg_lay none [] (ev_lu pg_c97) (fun _ => false) _ 1987 23 [some (.ref 6), some (.int d), some (.int v3)] [] (ev_up σ 6 0 0)
        refine ⟨sp_in rfl rfl, ?_⟩
        rintro _ _ ⟨rfl, rfl⟩
        change ev_wp pg_F pg_lay none [] (ev_lu pg_c97) (fun _ => false) _ 1983 29 [some (.ref 6), some (.int d), some (.int v3)] [.int ((ev_up σ 6 0 0).1 7 1)] (ev_up σ 6 0 0)
        refine ⟨fun (h7 : ((ev_up σ 6 0 0).1 7 1) = 0) => ?_, fun (h7 : ¬ ((ev_up σ 6 0 0).1 7 1) = 0) => ?_⟩
        · skip
          change ev_wp pg_F pg_lay none [] (ev_lu pg_c97) (fun _ => false) _ 1982 32 [some (.ref 6), some (.int d), some (.int v3)] [] (ev_up σ 6 0 0)
          exact ⟨_, rfl, Nat.le_of_eq (congrArg Prod.snd r1.2.1), _, r1, rfl⟩
        · skip
          change ev_wp pg_F pg_lay none [] (ev_lu pg_c97) (fun _ => false) _ 1982 34 [some (.ref 6), some (.int d), some (.int v3)] [] (ev_up σ 6 0 0)
          refine ⟨sp_in rfl rfl, ?_⟩
          rintro _ _ ⟨rfl, rfl⟩
          change ev_wp pg_F pg_lay none [] (ev_lu pg_c97) (fun _ => false) _ 1978 40 [some (.ref 6), some (.int d), some (.int v3)] [.int ((ev_up σ 6 0 0).1 7 1)] (ev_up σ 6 0 0)
          refine ⟨md_vp (md_j5 (md_l5 k4.1 h6)) 2 (by decide) rfl, ?_⟩
          rintro _ _ ⟨rfl, rfl⟩
          change ev_wp pg_F pg_lay none [] (ev_lu pg_c97) (fun _ => false) _ 1974 46 [some (.ref 6), some (.int d), some (.int v3)] [.int ((ev_up σ 6 0 0).1 7 (Int32.toNatClampNeg (4 * v3 + 2))), .int ((ev_up σ 6 0 0).1 7 1)] (ev_up σ 6 0 0)
          refine ⟨fun (h8 : ((ev_up σ 6 0 0).1 7 (Int32.toNatClampNeg (4 * v3 + 2))) = d) => ?_, fun (h8 : ¬ ((ev_up σ 6 0 0).1 7 (Int32.toNatClampNeg (4 * v3 + 2))) = d) => ?_⟩
          · skip
            change ev_wp pg_F pg_lay none [] (ev_lu pg_c97) (fun _ => false) _ 1972 50 [some (.ref 6), some (.int d), some (.int v3)] [.int ((ev_up σ 6 0 0).1 7 1)] (ev_up σ 6 0 0)
            refine ⟨md_vp (md_j5 (md_l5 k4.1 h6)) 3 (by decide) rfl, ?_⟩
            rintro _ _ ⟨rfl, rfl⟩
            change ev_wp pg_F pg_lay none [] (ev_lu pg_c97) (fun _ => false) _ 1968 56 [some (.ref 6), some (.int d), some (.int v3)] [.int ((ev_up σ 6 0 0).1 7 (Int32.toNatClampNeg (4 * v3 + 3))), .int ((ev_up σ 6 0 0).1 7 1)] (ev_up σ 6 0 0)
            refine ⟨trivial, ?_⟩
            rintro _ _ ⟨v9, k10, rfl, rfl⟩
            exact ⟨_, rfl, Nat.le_of_eq (congrArg Prod.snd r1.2.1), _, r1, rfl⟩
          · skip
            change ev_wp pg_F pg_lay none [] (ev_lu pg_c97) (fun _ => false) _ 1972 59 [some (.ref 6), some (.int d), some (.int v3)] [.int ((ev_up σ 6 0 0).1 7 1)] (ev_up σ 6 0 0)
            refine ⟨trivial, ?_⟩
            rintro _ _ ⟨v11, k12, rfl, rfl⟩
            exact ⟨_, rfl, Nat.le_of_eq (congrArg Prod.snd r1.2.1), _, r1, rfl⟩
    · skip
      change ev_wp pg_F pg_lay none [] (ev_lu pg_c97) (fun _ => false) _ 1989 32 [some (.ref 6), some (.int d), some (.int v3)] [] (ev_up σ 6 0 0)
      exact ⟨_, rfl, Nat.le_of_eq (congrArg Prod.snd r1.2.1), _, r1, rfl⟩
  · cases h
theorem pr_121 : pg_Rn pg_F 121 pg_y121 [] pg_t121 := by
  intro vs σ P h hp
  replace h : pf_121 vs σ = some P := h
  unfold pf_121 at h
  split at h
  · rename_i k a
    cases h
    refine ⟨by simp [Value.category], Nat.le_of_ble_eq_true rfl, ev_go pg_hhs pg_cd pg_o121 (fun _ => false) 2000 (Q1 := ev_at (ev_tl pg_t121) σ.2.2 (sp_m (md_ok σ) (fun _ σ' => md_m σ σ')).2) ?_ (fun _ _ _ _ h => ev_fin h)⟩
    change ev_wp pg_F pg_lay none [] (ev_lu pg_c121) (fun _ => false) _ 2000 0 [some (.ref 6), some (.int k), some (.int a), none, none, none] [] σ
    have r1 := (md_m.rf σ).tr (md_up6 σ 0 0 (by decide) (by decide))
    have i2 := (md_up6 σ 0 0 (by decide) (by decide)).2.2 hp
    refine ⟨trivial, ?_⟩
    rintro _ _ ⟨v3, k4, rfl, rfl⟩
    change ev_wp pg_F pg_lay none [] (ev_lu pg_c121) (fun _ => false) _ 1995 9 [some (.ref 6), some (.int k), some (.int a), none, none, none] [.int v3] (ev_up σ 6 0 0)
    refine ⟨fun (h5 : v3 < 0) => ?_, fun (h5 : ¬ v3 < 0) => ?_⟩
    · skip
      change ev_wp pg_F pg_lay none [] (ev_lu pg_c121) (fun _ => false) _ 1992 34 [some (.ref 6), some (.int k), some (.int a), some (.int v3), none, none] [] (ev_up σ 6 0 0)
      exact ⟨_, rfl, Nat.le_of_eq (congrArg Prod.snd r1.2.1), _, r1, rfl⟩
    · skip
      change ev_wp pg_F pg_lay none [] (ev_lu pg_c121) (fun _ => false) _ 1992 14 [some (.ref 6), some (.int k), some (.int a), some (.int v3), none, none] [] (ev_up σ 6 0 0)
      refine ⟨trivial, ?_⟩
      rintro _ _ ⟨rfl, rfl⟩
      change ev_wp pg_F pg_lay none [] (ev_lu pg_c121) (fun _ => false) _ 1988 21 [some (.ref 6), some (.int k), some (.int a), some (.int v3), none, none] [.int (sp_upto k 15)] (ev_up σ 6 0 0)
      refine ⟨fun (h6 : (sp_upto k 15) = 0) => ?_, fun (h6 : ¬ (sp_upto k 15) = 0) => ?_⟩
      · skip
        change ev_wp pg_F pg_lay none [] (ev_lu pg_c121) (fun _ => false) _ 1987 34 [some (.ref 6), some (.int k), some (.int a), some (.int v3), none, none] [] (ev_up σ 6 0 0)
        exact ⟨_, rfl, Nat.le_of_eq (congrArg Prod.snd r1.2.1), _, r1, rfl⟩
      · skip
        change ev_wp pg_F pg_lay none [] (ev_lu pg_c121) (fun _ => false) _ 1987 24 [some (.ref 6), some (.int k), some (.int a), some (.int v3), none, none] [] (ev_up σ 6 0 0)
        refine ⟨trivial, ?_⟩
        rintro _ _ ⟨rfl, rfl⟩
        change ev_wp pg_F pg_lay none [] (ev_lu pg_c121) (fun _ => false) _ 1983 31 [some (.ref 6), some (.int k), some (.int a), some (.int v3), none, none] [.int (sp_upto a 8)] (ev_up σ 6 0 0)
        refine ⟨fun (h7 : (sp_upto a 8) = 0) => ?_, fun (h7 : ¬ (sp_upto a 8) = 0) => ?_⟩
        · skip
          change ev_wp pg_F pg_lay none [] (ev_lu pg_c121) (fun _ => false) _ 1982 34 [some (.ref 6), some (.int k), some (.int a), some (.int v3), none, none] [] (ev_up σ 6 0 0)
          exact ⟨_, rfl, Nat.le_of_eq (congrArg Prod.snd r1.2.1), _, r1, rfl⟩
        · skip
          change ev_wp pg_F pg_lay none [] (ev_lu pg_c121) (fun _ => false) _ 1982 36 [some (.ref 6), some (.int k), some (.int a), some (.int v3), none, none] [] (ev_up σ 6 0 0)
          refine ⟨md_vp (md_j4 (md_l41 k4 h5)) 0 (by decide) rfl, ?_⟩
          rintro _ _ ⟨rfl, rfl⟩
          change ev_wp pg_F pg_lay none [] (ev_lu pg_c121) (fun _ => false) _ 1978 42 [some (.ref 6), some (.int k), some (.int a), some (.int v3), none, none] [.int ((ev_up σ 6 0 0).1 7 (Int32.toNatClampNeg (4 * v3 + 0)))] (ev_up σ 6 0 0)
          refine ⟨md_mask _, ?_⟩
          rintro _ _ ⟨v8, k9, rfl, rfl⟩
          change ev_wp pg_F pg_lay none [] (ev_lu pg_c121) (fun _ => false) _ 1970 55 [some (.ref 6), some (.int k), some (.int a), some (.int v3), some (.int ((((ev_up σ 6 0 0).1 7 (Int32.toNatClampNeg (4 * v3 + 0))) - k) &&& 65535)), none] [.int v8] (ev_up σ 6 0 0)
          refine ⟨fun (h10 : v8 = 0) => ?_, fun (h10 : ¬ v8 = 0) => ?_⟩
          · skip
            change ev_wp pg_F pg_lay none [] (ev_lu pg_c121) (fun _ => false) _ 1969 58 [some (.ref 6), some (.int k), some (.int a), some (.int v3), some (.int ((((ev_up σ 6 0 0).1 7 (Int32.toNatClampNeg (4 * v3 + 0))) - k) &&& 65535)), none] [] (ev_up σ 6 0 0)
            exact ⟨_, rfl, Nat.le_of_eq (congrArg Prod.snd r1.2.1), _, r1, rfl⟩
          · skip
            change ev_wp pg_F pg_lay none [] (ev_lu pg_c121) (fun _ => false) _ 1969 60 [some (.ref 6), some (.int k), some (.int a), some (.int v3), some (.int ((((ev_up σ 6 0 0).1 7 (Int32.toNatClampNeg (4 * v3 + 0))) - k) &&& 65535)), none] [] (ev_up σ 6 0 0)
            refine ⟨md_mask _, ?_⟩
            rintro _ _ ⟨v11, k12, rfl, rfl⟩
            change ev_wp pg_F pg_lay none [] (ev_lu pg_c121) (fun _ => false) _ 1966 66 [some (.ref 6), some (.int k), some (.int a), some (.int v3), some (.int ((((ev_up σ 6 0 0).1 7 (Int32.toNatClampNeg (4 * v3 + 0))) - k) &&& 65535)), none] [.int v11] (ev_up σ 6 0 0)
            refine ⟨fun (h13 : a = 0) => ?_, fun (h13 : ¬ a = 0) => ?_⟩
            · skip
              change ev_wp pg_F pg_lay none [] (ev_lu pg_c121) (fun _ => false) _ 1963 116 [some (.ref 6), some (.int k), some (.int a), some (.int v3), some (.int ((((ev_up σ 6 0 0).1 7 (Int32.toNatClampNeg (4 * v3 + 0))) - k) &&& 65535)), some (.int v11)] [] (ev_up σ 6 0 0)
              refine ⟨md_vp (md_jp k12) 1 (by decide) rfl, ?_⟩
              rintro _ _ ⟨rfl, rfl⟩
              exact ⟨_, rfl, Nat.le_of_eq (congrArg Prod.snd r1.2.1), _, r1, rfl⟩
            refine ⟨fun (h14 : a = 1) => ?_, fun (h14 : ¬ a = 1) => ?_⟩
            · skip
              change ev_wp pg_F pg_lay none [] (ev_lu pg_c121) (fun _ => false) _ 1963 124 [some (.ref 6), some (.int k), some (.int a), some (.int v3), some (.int ((((ev_up σ 6 0 0).1 7 (Int32.toNatClampNeg (4 * v3 + 0))) - k) &&& 65535)), some (.int v11)] [] (ev_up σ 6 0 0)
              refine ⟨md_vp (md_jp k12) 2 (by decide) rfl, ?_⟩
              rintro _ _ ⟨rfl, rfl⟩
              exact ⟨_, rfl, Nat.le_of_eq (congrArg Prod.snd r1.2.1), _, r1, rfl⟩
            refine ⟨fun (h15 : a = 2) => ?_, fun (h15 : ¬ a = 2) => ?_⟩
            · skip
              change ev_wp pg_F pg_lay none [] (ev_lu pg_c121) (fun _ => false) _ 1963 132 [some (.ref 6), some (.int k), some (.int a), some (.int v3), some (.int ((((ev_up σ 6 0 0).1 7 (Int32.toNatClampNeg (4 * v3 + 0))) - k) &&& 65535)), some (.int v11)] [] (ev_up σ 6 0 0)
              refine ⟨md_vp (md_jp k12) 3 (by decide) rfl, ?_⟩
              rintro _ _ ⟨rfl, rfl⟩
              change ev_wp pg_F pg_lay none [] (ev_lu pg_c121) (fun _ => false) _ 1959 139 [some (.ref 6), some (.int k), some (.int a), some (.int v3), some (.int ((((ev_up σ 6 0 0).1 7 (Int32.toNatClampNeg (4 * v3 + 0))) - k) &&& 65535)), some (.int v11)] [.int ((ev_up σ 6 0 0).1 7 (Int32.toNatClampNeg (4 * v11 + 3)))] (ev_up σ 6 0 0)
              exact ⟨_, rfl, Nat.le_of_eq (congrArg Prod.snd r1.2.1), _, r1, rfl⟩
            refine ⟨fun (h16 : a = 3) => ?_, fun (h16 : ¬ a = 3) => ?_⟩
            · skip
              change ev_wp pg_F pg_lay none [] (ev_lu pg_c121) (fun _ => false) _ 1963 144 [some (.ref 6), some (.int k), some (.int a), some (.int v3), some (.int ((((ev_up σ 6 0 0).1 7 (Int32.toNatClampNeg (4 * v3 + 0))) - k) &&& 65535)), some (.int v11)] [] (ev_up σ 6 0 0)
              refine ⟨md_vp (md_jp k12) 3 (by decide) rfl, ?_⟩
              rintro _ _ ⟨rfl, rfl⟩
              change ev_wp pg_F pg_lay none [] (ev_lu pg_c121) (fun _ => false) _ 1959 151 [some (.ref 6), some (.int k), some (.int a), some (.int v3), some (.int ((((ev_up σ 6 0 0).1 7 (Int32.toNatClampNeg (4 * v3 + 0))) - k) &&& 65535)), some (.int v11)] [.int ((ev_up σ 6 0 0).1 7 (Int32.toNatClampNeg (4 * v11 + 3)))] (ev_up σ 6 0 0)
              exact ⟨_, rfl, Nat.le_of_eq (congrArg Prod.snd r1.2.1), _, r1, rfl⟩
            refine ⟨fun (h17 : a = 4) => ?_, fun (h17 : ¬ a = 4) => ?_⟩
            · skip
              change ev_wp pg_F pg_lay none [] (ev_lu pg_c121) (fun _ => false) _ 1963 155 [some (.ref 6), some (.int k), some (.int a), some (.int v3), some (.int ((((ev_up σ 6 0 0).1 7 (Int32.toNatClampNeg (4 * v3 + 0))) - k) &&& 65535)), some (.int v11)] [] (ev_up σ 6 0 0)
              refine ⟨md_vp (md_jp k12) 4 (by decide) rfl, ?_⟩
              rintro _ _ ⟨rfl, rfl⟩
              change ev_wp pg_F pg_lay none [] (ev_lu pg_c121) (fun _ => false) _ 1959 162 [some (.ref 6), some (.int k), some (.int a), some (.int v3), some (.int ((((ev_up σ 6 0 0).1 7 (Int32.toNatClampNeg (4 * v3 + 0))) - k) &&& 65535)), some (.int v11)] [.int ((ev_up σ 6 0 0).1 7 (Int32.toNatClampNeg (4 * v11 + 4)))] (ev_up σ 6 0 0)
              exact ⟨_, rfl, Nat.le_of_eq (congrArg Prod.snd r1.2.1), _, r1, rfl⟩
            refine ⟨fun (h18 : a = 5) => ?_, fun (h18 : ¬ a = 5) => ?_⟩
            · skip
              change ev_wp pg_F pg_lay none [] (ev_lu pg_c121) (fun _ => false) _ 1963 166 [some (.ref 6), some (.int k), some (.int a), some (.int v3), some (.int ((((ev_up σ 6 0 0).1 7 (Int32.toNatClampNeg (4 * v3 + 0))) - k) &&& 65535)), some (.int v11)] [] (ev_up σ 6 0 0)
              refine ⟨md_vp (md_jp k12) 4 (by decide) rfl, ?_⟩
              rintro _ _ ⟨rfl, rfl⟩
              change ev_wp pg_F pg_lay none [] (ev_lu pg_c121) (fun _ => false) _ 1959 173 [some (.ref 6), some (.int k), some (.int a), some (.int v3), some (.int ((((ev_up σ 6 0 0).1 7 (Int32.toNatClampNeg (4 * v3 + 0))) - k) &&& 65535)), some (.int v11)] [.int ((ev_up σ 6 0 0).1 7 (Int32.toNatClampNeg (4 * v11 + 4)))] (ev_up σ 6 0 0)
              exact ⟨_, rfl, Nat.le_of_eq (congrArg Prod.snd r1.2.1), _, r1, rfl⟩
            refine ⟨fun (h19 : a = 6) => ?_, fun (h19 : ¬ a = 6) => ?_⟩
            · skip
              change ev_wp pg_F pg_lay none [] (ev_lu pg_c121) (fun _ => false) _ 1963 179 [some (.ref 6), some (.int k), some (.int a), some (.int v3), some (.int ((((ev_up σ 6 0 0).1 7 (Int32.toNatClampNeg (4 * v3 + 0))) - k) &&& 65535)), some (.int v11)] [] (ev_up σ 6 0 0)
              refine ⟨md_vp (md_jp k12) 4 (by decide) rfl, ?_⟩
              rintro _ _ ⟨rfl, rfl⟩
              change ev_wp pg_F pg_lay none [] (ev_lu pg_c121) (fun _ => false) _ 1959 186 [some (.ref 6), some (.int k), some (.int a), some (.int v3), some (.int ((((ev_up σ 6 0 0).1 7 (Int32.toNatClampNeg (4 * v3 + 0))) - k) &&& 65535)), some (.int v11)] [.int ((ev_up σ 6 0 0).1 7 (Int32.toNatClampNeg (4 * v11 + 4)))] (ev_up σ 6 0 0)
              exact ⟨_, rfl, Nat.le_of_eq (congrArg Prod.snd r1.2.1), _, r1, rfl⟩
            refine ⟨fun (h20 : a = 7) => ?_, fun (h20 : ¬ a = 7) => ?_⟩
            · skip
              change ev_wp pg_F pg_lay none [] (ev_lu pg_c121) (fun _ => false) _ 1963 190 [some (.ref 6), some (.int k), some (.int a), some (.int v3), some (.int ((((ev_up σ 6 0 0).1 7 (Int32.toNatClampNeg (4 * v3 + 0))) - k) &&& 65535)), some (.int v11)] [] (ev_up σ 6 0 0)
              refine ⟨md_vp (md_jp k12) 5 (by decide) rfl, ?_⟩
              rintro _ _ ⟨rfl, rfl⟩
              exact ⟨_, rfl, Nat.le_of_eq (congrArg Prod.snd r1.2.1), _, r1, rfl⟩
            change ev_wp pg_F pg_lay none [] (ev_lu pg_c121) (fun _ => false) _ 1963 198 [some (.ref 6), some (.int k), some (.int a), some (.int v3), some (.int ((((ev_up σ 6 0 0).1 7 (Int32.toNatClampNeg (4 * v3 + 0))) - k) &&& 65535)), some (.int v11)] [] (ev_up σ 6 0 0)
            refine ⟨md_vp (md_jp k12) 6 (by decide) rfl, ?_⟩
            rintro _ _ ⟨rfl, rfl⟩
            exact ⟨_, rfl, Nat.le_of_eq (congrArg Prod.snd r1.2.1), _, r1, rfl⟩
  · cases h
theorem pr_122 : pg_Rn pg_F 122 pg_y122 [] pg_t122 := by
  intro vs σ P h hp
  replace h : pf_122 vs σ = some P := h
  unfold pf_122 at h
  split at h
  · rename_i a
    cases h
    refine ⟨by simp [Value.category], Nat.le_of_ble_eq_true rfl, ev_go pg_hhs pg_cd pg_o122 (fun _ => false) 2000 (Q1 := ev_at (ev_tl pg_t122) σ.2.2 (sp_m (md_ok σ) (fun _ σ' => md_m σ σ')).2) ?_ (fun _ _ _ _ h => ev_fin h)⟩
    change ev_wp pg_F pg_lay none [] (ev_lu pg_c122) (fun _ => false) _ 2000 0 [some (.ref 6), some (.int a), none] [] σ
    have r1 := (md_m.rf σ).tr (md_up6 σ 0 0 (by decide) (by decide))
    have i2 := (md_up6 σ 0 0 (by decide) (by decide)).2.2 hp
    refine ⟨trivial, ?_⟩
    rintro _ _ ⟨v3, k4, rfl, rfl⟩
    change ev_wp pg_F pg_lay none [] (ev_lu pg_c122) (fun _ => false) _ 1995 9 [some (.ref 6), some (.int a), none] [.int v3] (ev_up σ 6 0 0)
    refine ⟨fun (h5 : 0 ≤ v3) => ?_, fun (h5 : ¬ 0 ≤ v3) => ?_⟩
    · skip
      change ev_wp pg_F pg_lay none [] (ev_lu pg_c122) (fun _ => false) _ 1992 16 [some (.ref 6), some (.int a), some (.int v3)] [] (ev_up σ 6 0 0)
      refine ⟨fun (h6 : a = 0) => ?_, fun (h6 : ¬ a = 0) => ?_⟩
      · skip
        change ev_wp pg_F pg_lay none [] (ev_lu pg_c122) (fun _ => false) _ 1990 64 [some (.ref 6), some (.int a), some (.int v3)] [] (ev_up σ 6 0 0)
        refine ⟨md_vp (md_j4 (md_l41 k4 (md_nlt h5))) 1 (by decide) rfl, ?_⟩
        rintro _ _ ⟨rfl, rfl⟩
        exact ⟨_, rfl, Nat.le_of_eq (congrArg Prod.snd r1.2.1), _, r1, rfl⟩
      refine ⟨fun (h7 : a = 1) => ?_, fun (h7 : ¬ a = 1) => ?_⟩
      · skip
        change ev_wp pg_F pg_lay none [] (ev_lu pg_c122) (fun _ => false) _ 1990 71 [some (.ref 6), some (.int a), some (.int v3)] [] (ev_up σ 6 0 0)
        refine ⟨md_vp (md_j4 (md_l41 k4 (md_nlt h5))) 2 (by decide) rfl, ?_⟩
        rintro _ _ ⟨rfl, rfl⟩
        change ev_wp pg_F pg_lay none [] (ev_lu pg_c122) (fun _ => false) _ 1986 77 [some (.ref 6), some (.int a), some (.int v3)] [.int ((ev_up σ 6 0 0).1 7 (Int32.toNatClampNeg (4 * v3 + 2)))] (ev_up σ 6 0 0)
        exact ⟨_, rfl, Nat.le_of_eq (congrArg Prod.snd r1.2.1), _, r1, rfl⟩
      refine ⟨fun (h8 : a = 2) => ?_, fun (h8 : ¬ a = 2) => ?_⟩
      · skip
        change ev_wp pg_F pg_lay none [] (ev_lu pg_c122) (fun _ => false) _ 1990 82 [some (.ref 6), some (.int a), some (.int v3)] [] (ev_up σ 6 0 0)
        refine ⟨(md_l41 k4 (md_nlt h5)), ?_⟩
        rintro _ _ ⟨v9, k10, rfl, rfl⟩
        exact ⟨_, rfl, Nat.le_of_eq (congrArg Prod.snd r1.2.1), _, r1, rfl⟩
      refine ⟨fun (h11 : a = 3) => ?_, fun (h11 : ¬ a = 3) => ?_⟩
      · skip
        change ev_wp pg_F pg_lay none [] (ev_lu pg_c122) (fun _ => false) _ 1990 88 [some (.ref 6), some (.int a), some (.int v3)] [] (ev_up σ 6 0 0)
        refine ⟨md_vp (md_j4 (md_l41 k4 (md_nlt h5))) 4 (by decide) rfl, ?_⟩
        rintro _ _ ⟨rfl, rfl⟩
        change ev_wp pg_F pg_lay none [] (ev_lu pg_c122) (fun _ => false) _ 1986 94 [some (.ref 6), some (.int a), some (.int v3)] [.int ((ev_up σ 6 0 0).1 7 (Int32.toNatClampNeg (4 * v3 + 4)))] (ev_up σ 6 0 0)
        exact ⟨_, rfl, Nat.le_of_eq (congrArg Prod.snd r1.2.1), _, r1, rfl⟩
      refine ⟨fun (h12 : a = 4) => ?_, fun (h12 : ¬ a = 4) => ?_⟩
      · skip
        change ev_wp pg_F pg_lay none [] (ev_lu pg_c122) (fun _ => false) _ 1990 98 [some (.ref 6), some (.int a), some (.int v3)] [] (ev_up σ 6 0 0)
        refine ⟨md_vp (md_j4 (md_l41 k4 (md_nlt h5))) 3 (by decide) rfl, ?_⟩
        rintro _ _ ⟨rfl, rfl⟩
        change ev_wp pg_F pg_lay none [] (ev_lu pg_c122) (fun _ => false) _ 1986 104 [some (.ref 6), some (.int a), some (.int v3)] [.int ((ev_up σ 6 0 0).1 7 (Int32.toNatClampNeg (4 * v3 + 3)))] (ev_up σ 6 0 0)
        exact ⟨_, rfl, Nat.le_of_eq (congrArg Prod.snd r1.2.1), _, r1, rfl⟩
      refine ⟨fun (h13 : a = 5) => ?_, fun (h13 : ¬ a = 5) => ?_⟩
      · skip
        change ev_wp pg_F pg_lay none [] (ev_lu pg_c122) (fun _ => false) _ 1990 109 [some (.ref 6), some (.int a), some (.int v3)] [] (ev_up σ 6 0 0)
        refine ⟨md_vp (md_j4 (md_l41 k4 (md_nlt h5))) 4 (by decide) rfl, ?_⟩
        rintro _ _ ⟨rfl, rfl⟩
        change ev_wp pg_F pg_lay none [] (ev_lu pg_c122) (fun _ => false) _ 1986 115 [some (.ref 6), some (.int a), some (.int v3)] [.int ((ev_up σ 6 0 0).1 7 (Int32.toNatClampNeg (4 * v3 + 4)))] (ev_up σ 6 0 0)
        exact ⟨_, rfl, Nat.le_of_eq (congrArg Prod.snd r1.2.1), _, r1, rfl⟩
      refine ⟨fun (h14 : a = 6) => ?_, fun (h14 : ¬ a = 6) => ?_⟩
      · skip
        change ev_wp pg_F pg_lay none [] (ev_lu pg_c122) (fun _ => false) _ 1990 121 [some (.ref 6), some (.int a), some (.int v3)] [] (ev_up σ 6 0 0)
        refine ⟨md_vp (md_j4 (md_l41 k4 (md_nlt h5))) 0 (by decide) rfl, ?_⟩
        rintro _ _ ⟨rfl, rfl⟩
        exact ⟨_, rfl, Nat.le_of_eq (congrArg Prod.snd r1.2.1), _, r1, rfl⟩
      refine ⟨fun (h15 : a = 7) => ?_, fun (h15 : ¬ a = 7) => ?_⟩
      · skip
        change ev_wp pg_F pg_lay none [] (ev_lu pg_c122) (fun _ => false) _ 1990 128 [some (.ref 6), some (.int a), some (.int v3)] [] (ev_up σ 6 0 0)
        refine ⟨md_vp (md_j4 (md_l41 k4 (md_nlt h5))) 0 (by decide) rfl, ?_⟩
        rintro _ _ ⟨rfl, rfl⟩
        change ev_wp pg_F pg_lay none [] (ev_lu pg_c122) (fun _ => false) _ 1985 135 [some (.ref 6), some (.int a), some (.int v3)] [.int ((ev_up σ 6 0 0).1 7 (Int32.toNatClampNeg (4 * v3 + 0))), .ref 6] (ev_up σ 6 0 0)
        refine ⟨(md_num i2 (md_l41 k4 (md_nlt h5))), ?_⟩
        rintro _ _ ⟨v16, k17, rfl, rfl⟩
        change ev_wp pg_F pg_lay none [] (ev_lu pg_c122) (fun _ => false) _ 1984 138 [some (.ref 6), some (.int a), some (.int v3)] [.int v16] (ev_up σ 6 0 0)
        refine ⟨fun (h18 : v16 = 0) => ?_, fun (h18 : ¬ v16 = 0) => ?_⟩
        · skip
          change ev_wp pg_F pg_lay none [] (ev_lu pg_c122) (fun _ => false) _ 1983 145 [some (.ref 6), some (.int a), some (.int v3)] [] (ev_up σ 6 0 0)
          exact ⟨_, rfl, Nat.le_of_eq (congrArg Prod.snd r1.2.1), _, r1, rfl⟩
        · skip
          change ev_wp pg_F pg_lay none [] (ev_lu pg_c122) (fun _ => false) _ 1983 141 [some (.ref 6), some (.int a), some (.int v3)] [] (ev_up σ 6 0 0)
          exact ⟨_, rfl, Nat.le_of_eq (congrArg Prod.snd r1.2.1), _, r1, rfl⟩
      change ev_wp pg_F pg_lay none [] (ev_lu pg_c122) (fun _ => false) _ 1990 147 [some (.ref 6), some (.int a), some (.int v3)] [] (ev_up σ 6 0 0)
      exact ⟨_, rfl, Nat.le_of_eq (congrArg Prod.snd r1.2.1), _, r1, rfl⟩
    · skip
      change ev_wp pg_F pg_lay none [] (ev_lu pg_c122) (fun _ => false) _ 1992 14 [some (.ref 6), some (.int a), some (.int v3)] [] (ev_up σ 6 0 0)
      exact ⟨_, rfl, Nat.le_of_eq (congrArg Prod.snd r1.2.1), _, r1, rfl⟩
  · cases h
theorem pr_120 : pg_Rn pg_F 120 pg_y120 [] pg_t120 := by
  intro vs σ P h hp
  replace h : pf_120 vs σ = some P := h
  unfold pf_120 at h
  split at h
  · rename_i d m z
    cases h
    refine ⟨by simp [Value.category], Nat.le_of_ble_eq_true rfl, ev_go pg_hhs pg_cd pg_o120 (fun _ => false) 2000 (Q1 := ev_at (ev_tl pg_t120) σ.2.2 (sp_m (md_ok σ) (fun _ σ' => md_m σ σ')).2) ?_ (fun _ _ _ _ h => ev_fin h)⟩
    change ev_wp pg_F pg_lay none [] (ev_lu pg_c120) (fun _ => false) _ 2000 0 [some (.ref 6), some (.int d), some (.int m), some (.int z), none] [] σ
    refine ⟨trivial, ?_⟩
    rintro _ _ ⟨rfl, rfl⟩
    change ev_wp pg_F pg_lay none [] (ev_lu pg_c120) (fun _ => false) _ 1994 10 [some (.ref 6), some (.int d), some (.int m), some (.int z), none] [.int (sp_upto d 9999), .int 1, .ref 6] σ
    refine ⟨fun (h1 : (sp_upto d 9999) = 0) => ?_, fun (h1 : ¬ (sp_upto d 9999) = 0) => ?_⟩
    · skip
      change ev_wp pg_F pg_lay none [] (ev_lu pg_c120) (fun _ => false) _ 1993 34 [some (.ref 6), some (.int d), some (.int m), some (.int z), none] [.int 1, .ref 6] σ
      refine ⟨Or.inr rfl, ?_⟩
      rintro _ _ ⟨_, ⟨rfl, rfl⟩, rfl⟩
      have r2 := (md_m.rf σ).tr (md_up6 σ 0 1 (by decide) (by decide))
      have i3 := (md_up6 σ 0 1 (by decide) (by decide)).2.2 hp
      change ev_wp pg_F pg_lay none [] (ev_lu pg_c120) (fun _ => false) _ 1990 42 [some (.ref 6), some (.int d), some (.int m), some (.int z), none] [.int 1] (ev_up σ 6 0 1)
      refine ⟨fun h => absurd h (by decide), fun _ => ?_⟩
      change ev_wp pg_F pg_lay none [] (ev_lu pg_c120) (fun _ => false) _ 1989 45 [some (.ref 6), some (.int d), some (.int m), some (.int z), none] [] (ev_up σ 6 0 1)
      exact ⟨_, rfl, Nat.le_of_eq (congrArg Prod.snd r2.2.1), _, r2, rfl⟩
    · skip
      change ev_wp pg_F pg_lay none [] (ev_lu pg_c120) (fun _ => false) _ 1993 13 [some (.ref 6), some (.int d), some (.int m), some (.int z), none] [.int 1, .ref 6] σ
      refine ⟨trivial, ?_⟩
      rintro _ _ ⟨rfl, rfl⟩
      change ev_wp pg_F pg_lay none [] (ev_lu pg_c120) (fun _ => false) _ 1989 21 [some (.ref 6), some (.int d), some (.int m), some (.int z), none] [.int (sp_upto m 1439), .int 1, .ref 6] σ
      refine ⟨fun (h4 : (sp_upto m 1439) = 0) => ?_, fun (h4 : ¬ (sp_upto m 1439) = 0) => ?_⟩
      · skip
        change ev_wp pg_F pg_lay none [] (ev_lu pg_c120) (fun _ => false) _ 1988 34 [some (.ref 6), some (.int d), some (.int m), some (.int z), none] [.int 1, .ref 6] σ
        refine ⟨Or.inr rfl, ?_⟩
        rintro _ _ ⟨_, ⟨rfl, rfl⟩, rfl⟩
        have r5 := (md_m.rf σ).tr (md_up6 σ 0 1 (by decide) (by decide))
        have i6 := (md_up6 σ 0 1 (by decide) (by decide)).2.2 hp
        change ev_wp pg_F pg_lay none [] (ev_lu pg_c120) (fun _ => false) _ 1985 42 [some (.ref 6), some (.int d), some (.int m), some (.int z), none] [.int 1] (ev_up σ 6 0 1)
        refine ⟨fun h => absurd h (by decide), fun _ => ?_⟩
        change ev_wp pg_F pg_lay none [] (ev_lu pg_c120) (fun _ => false) _ 1984 45 [some (.ref 6), some (.int d), some (.int m), some (.int z), none] [] (ev_up σ 6 0 1)
        exact ⟨_, rfl, Nat.le_of_eq (congrArg Prod.snd r5.2.1), _, r5, rfl⟩
      · skip
        change ev_wp pg_F pg_lay none [] (ev_lu pg_c120) (fun _ => false) _ 1988 24 [some (.ref 6), some (.int d), some (.int m), some (.int z), none] [.int 1, .ref 6] σ
        refine ⟨trivial, ?_⟩
        rintro _ _ ⟨rfl, rfl⟩
        change ev_wp pg_F pg_lay none [] (ev_lu pg_c120) (fun _ => false) _ 1984 31 [some (.ref 6), some (.int d), some (.int m), some (.int z), none] [.int (sp_upto z 15), .int 1, .ref 6] σ
        refine ⟨fun (h7 : (sp_upto z 15) = 0) => ?_, fun (h7 : ¬ (sp_upto z 15) = 0) => ?_⟩
        · skip
          change ev_wp pg_F pg_lay none [] (ev_lu pg_c120) (fun _ => false) _ 1983 34 [some (.ref 6), some (.int d), some (.int m), some (.int z), none] [.int 1, .ref 6] σ
          refine ⟨Or.inr rfl, ?_⟩
          rintro _ _ ⟨_, ⟨rfl, rfl⟩, rfl⟩
          have r8 := (md_m.rf σ).tr (md_up6 σ 0 1 (by decide) (by decide))
          have i9 := (md_up6 σ 0 1 (by decide) (by decide)).2.2 hp
          change ev_wp pg_F pg_lay none [] (ev_lu pg_c120) (fun _ => false) _ 1980 42 [some (.ref 6), some (.int d), some (.int m), some (.int z), none] [.int 1] (ev_up σ 6 0 1)
          refine ⟨fun h => absurd h (by decide), fun _ => ?_⟩
          change ev_wp pg_F pg_lay none [] (ev_lu pg_c120) (fun _ => false) _ 1979 45 [some (.ref 6), some (.int d), some (.int m), some (.int z), none] [] (ev_up σ 6 0 1)
          exact ⟨_, rfl, Nat.le_of_eq (congrArg Prod.snd r8.2.1), _, r8, rfl⟩
        · skip
          change ev_wp pg_F pg_lay none [] (ev_lu pg_c120) (fun _ => false) _ 1983 38 [some (.ref 6), some (.int d), some (.int m), some (.int z), none] [.int 1, .ref 6] σ
          refine ⟨Or.inl rfl, ?_⟩
          rintro _ _ ⟨_, ⟨rfl, rfl⟩, rfl⟩
          have r10 := (md_m.rf σ).tr (md_up6 σ 0 0 (by decide) (by decide))
          have i11 := (md_up6 σ 0 0 (by decide) (by decide)).2.2 hp
          change ev_wp pg_F pg_lay none [] (ev_lu pg_c120) (fun _ => false) _ 1981 42 [some (.ref 6), some (.int d), some (.int m), some (.int z), none] [.int 0] (ev_up σ 6 0 0)
          refine ⟨fun _ => ?_, fun h => absurd (by decide) h⟩
          change ev_wp pg_F pg_lay none [] (ev_lu pg_c120) (fun _ => false) _ 1980 47 [some (.ref 6), some (.int d), some (.int m), some (.int z), none] [] (ev_up σ 6 0 0)
          refine ⟨trivial, ?_⟩
          rintro _ _ ⟨rfl, rfl⟩
          change ev_wp pg_F pg_lay none [] (ev_lu pg_c120) (fun _ => false) _ 1978 51 [some (.ref 6), some (.int d), some (.int m), some (.int z), none] [.int ((ev_up σ 6 0 0).1 7 0)] (ev_up σ 6 0 0)
          refine ⟨fun (h12 : ((ev_up σ 6 0 0).1 7 0) = 0) => ?_, fun (h12 : ¬ ((ev_up σ 6 0 0).1 7 0) = 0) => ?_⟩
          · skip
            change ev_wp pg_F pg_lay none [] (ev_lu pg_c120) (fun _ => false) _ 1977 54 [some (.ref 6), some (.int d), some (.int m), some (.int z), none] [] (ev_up σ 6 0 0)
            exact ⟨_, rfl, Nat.le_of_eq (congrArg Prod.snd r10.2.1), _, r10, rfl⟩
          · skip
            change ev_wp pg_F pg_lay none [] (ev_lu pg_c120) (fun _ => false) _ 1977 56 [some (.ref 6), some (.int d), some (.int m), some (.int z), none] [] (ev_up σ 6 0 0)
            refine ⟨trivial, ?_⟩
            rintro _ _ ⟨rfl, rfl⟩
            change ev_wp pg_F pg_lay none [] (ev_lu pg_c120) (fun _ => false) _ 1975 60 [some (.ref 6), some (.int d), some (.int m), some (.int z), none] [.int ((ev_up σ 6 0 0).1 7 0)] (ev_up σ 6 0 0)
            refine ⟨fun (h13 : ((ev_up σ 6 0 0).1 7 0) = 2) => ?_, fun (h13 : ¬ ((ev_up σ 6 0 0).1 7 0) = 2) => ?_⟩
            · skip
              change ev_wp pg_F pg_lay none [] (ev_lu pg_c120) (fun _ => false) _ 1973 64 [some (.ref 6), some (.int d), some (.int m), some (.int z), none] [] (ev_up σ 6 0 0)
              refine ⟨sp_in rfl rfl, ?_⟩
              rintro _ _ ⟨rfl, rfl⟩
              change ev_wp pg_F pg_lay none [] (ev_lu pg_c120) (fun _ => false) _ 1968 71 [some (.ref 6), some (.int d), some (.int m), some (.int z), none] [.int ((ev_up σ 6 0 0).1 7 2), .int d] (ev_up σ 6 0 0)
              refine ⟨sp_in rfl rfl, ?_⟩
              rintro _ _ ⟨rfl, rfl⟩
              change ev_wp pg_F pg_lay none [] (ev_lu pg_c120) (fun _ => false) _ 1964 77 [some (.ref 6), some (.int d), some (.int m), some (.int z), none] [.int ((ev_up σ 6 0 0).1 7 3), .int ((ev_up σ 6 0 0).1 7 2), .int d] (ev_up σ 6 0 0)
              refine ⟨trivial, ?_⟩
              rintro _ _ ⟨rfl, rfl⟩
              change ev_wp pg_F pg_lay none [] (ev_lu pg_c120) (fun _ => false) _ 1963 80 [some (.ref 6), some (.int d), some (.int m), some (.int z), none] [.int (sp_isin d ((ev_up σ 6 0 0).1 7 2) ((ev_up σ 6 0 0).1 7 3))] (ev_up σ 6 0 0)
              refine ⟨fun (h14 : (sp_isin d ((ev_up σ 6 0 0).1 7 2) ((ev_up σ 6 0 0).1 7 3)) = 0) => ?_, fun (h14 : ¬ (sp_isin d ((ev_up σ 6 0 0).1 7 2) ((ev_up σ 6 0 0).1 7 3)) = 0) => ?_⟩
              · skip
                change ev_wp pg_F pg_lay none [] (ev_lu pg_c120) (fun _ => false) _ 1962 83 [some (.ref 6), some (.int d), some (.int m), some (.int z), none] [] (ev_up σ 6 0 0)
                exact ⟨_, rfl, Nat.le_of_eq (congrArg Prod.snd r10.2.1), _, r10, rfl⟩
              · skip
                change ev_wp pg_F pg_lay none [] (ev_lu pg_c120) (fun _ => false) _ 1962 87 [some (.ref 6), some (.int d), some (.int m), some (.int z), none] [] (ev_up σ 6 0 0)
                refine ⟨sp_in rfl rfl, ?_⟩
                rintro _ _ ⟨rfl, rfl⟩
                change ev_wp pg_F pg_lay none [] (ev_lu pg_c120) (fun _ => false) _ 1958 93 [some (.ref 6), some (.int d), some (.int m), some (.int z), none] [.int ((ev_up σ 6 0 0).1 7 1)] (ev_up σ 6 0 0)
                refine ⟨fun (h15 : (((((ev_up σ 6 0 0).1 7 1) : Int32) >>> ((z : Int32) &&& 31)) &&& 1) = 0) => ?_, fun (h15 : ¬ (((((ev_up σ 6 0 0).1 7 1) : Int32) >>> ((z : Int32) &&& 31)) &&& 1) = 0) => ?_⟩
                · skip
                  change ev_wp pg_F pg_lay none [] (ev_lu pg_c120) (fun _ => false) _ 1953 100 [some (.ref 6), some (.int d), some (.int m), some (.int z), none] [] (ev_up σ 6 0 0)
                  exact ⟨_, rfl, Nat.le_of_eq (congrArg Prod.snd r10.2.1), _, r10, rfl⟩
                · skip
                  change ev_wp pg_F pg_lay none [] (ev_lu pg_c120) (fun _ => false) _ 1953 104 [some (.ref 6), some (.int d), some (.int m), some (.int z), none] [] (ev_up σ 6 0 0)
                  exact ⟨_, rfl, Nat.le_of_eq (congrArg Prod.snd r10.2.1), _, r10, rfl⟩
            · skip
              change ev_wp pg_F pg_lay none [] (ev_lu pg_c120) (fun _ => false) _ 1973 106 [some (.ref 6), some (.int d), some (.int m), some (.int z), none] [] (ev_up σ 6 0 0)
              refine ⟨trivial, ?_⟩
              rintro _ _ ⟨v16, k17, rfl, rfl⟩
              change ev_wp pg_F pg_lay none [] (ev_lu pg_c120) (fun _ => false) _ 1971 110 [some (.ref 6), some (.int d), some (.int m), some (.int z), none] [.int v16] (ev_up σ 6 0 0)
              refine ⟨fun (h18 : v16 < 0) => ?_, fun (h18 : ¬ v16 < 0) => ?_⟩
              · skip
                change ev_wp pg_F pg_lay none [] (ev_lu pg_c120) (fun _ => false) _ 1968 142 [some (.ref 6), some (.int d), some (.int m), some (.int z), some (.int v16)] [] (ev_up σ 6 0 0)
                exact ⟨_, rfl, Nat.le_of_eq (congrArg Prod.snd r10.2.1), _, r10, rfl⟩
              · skip
                change ev_wp pg_F pg_lay none [] (ev_lu pg_c120) (fun _ => false) _ 1968 117 [some (.ref 6), some (.int d), some (.int m), some (.int z), some (.int v16)] [] (ev_up σ 6 0 0)
                refine ⟨(md_l41 k17 h18), ?_⟩
                rintro _ _ ⟨v19, k20, rfl, rfl⟩
                change ev_wp pg_F pg_lay none [] (ev_lu pg_c120) (fun _ => false) _ 1965 123 [some (.ref 6), some (.int d), some (.int m), some (.int z), some (.int v16)] [.int v19] (ev_up σ 6 0 0)
                refine ⟨trivial, ?_⟩
                rintro _ _ ⟨v21, k22, rfl, rfl⟩
                change ev_wp pg_F pg_lay none [] (ev_lu pg_c120) (fun _ => false) _ 1958 135 [some (.ref 6), some (.int d), some (.int m), some (.int z), some (.int v16)] [.int v21] (ev_up σ 6 0 0)
                refine ⟨fun (h23 : v21 = 0) => ?_, fun (h23 : ¬ v21 = 0) => ?_⟩
                · skip
                  change ev_wp pg_F pg_lay none [] (ev_lu pg_c120) (fun _ => false) _ 1957 142 [some (.ref 6), some (.int d), some (.int m), some (.int z), some (.int v16)] [] (ev_up σ 6 0 0)
                  exact ⟨_, rfl, Nat.le_of_eq (congrArg Prod.snd r10.2.1), _, r10, rfl⟩
                · skip
                  change ev_wp pg_F pg_lay none [] (ev_lu pg_c120) (fun _ => false) _ 1957 138 [some (.ref 6), some (.int d), some (.int m), some (.int z), some (.int v16)] [] (ev_up σ 6 0 0)
                  exact ⟨_, rfl, Nat.le_of_eq (congrArg Prod.snd r10.2.1), _, r10, rfl⟩
  · cases h
theorem pr_82 : pg_Rn pg_F 82 pg_y82 [] pg_t82 := by
  intro vs σ P h hp
  replace h : pf_82 vs σ = some P := h
  unfold pf_82 at h
  split at h
  · rename_i a
    cases h
    refine ⟨by simp [Value.category], Nat.le_of_ble_eq_true rfl, ev_go pg_hhs pg_cd pg_o82 (fun _ => false) 2000 (Q1 := ev_at (ev_tl pg_t82) σ.2.2 (sp_m (md_ok σ) (fun _ σ' => md_m σ σ')).2) ?_ (fun _ _ _ _ h => ev_fin h)⟩
    change ev_wp pg_F pg_lay none [] (ev_lu pg_c82) (fun _ => false) _ 2000 0 [some (.ref 6), some (.int a)] [] σ
    have r1 := (md_m.rf σ).tr (md_up6 σ 0 0 (by decide) (by decide))
    have i2 := (md_up6 σ 0 0 (by decide) (by decide)).2.2 hp
    refine ⟨fun (h3 : a = 0) => ?_, fun (h3 : ¬ a = 0) => ?_⟩
    · skip
      change ev_wp pg_F pg_lay none [] (ev_lu pg_c82) (fun _ => false) _ 1995 36 [some (.ref 6), some (.int a)] [] (ev_up σ 6 0 0)
      exact ⟨_, rfl, Nat.le_of_eq (congrArg Prod.snd r1.2.1), _, r1, rfl⟩
    refine ⟨fun (h4 : a = 1) => ?_, fun (h4 : ¬ a = 1) => ?_⟩
    · skip
      change ev_wp pg_F pg_lay none [] (ev_lu pg_c82) (fun _ => false) _ 1995 41 [some (.ref 6), some (.int a)] [] (ev_up σ 6 0 0)
      refine ⟨trivial, ?_⟩
      rintro _ _ ⟨rfl, rfl⟩
      exact ⟨_, rfl, Nat.le_of_eq (congrArg Prod.snd r1.2.1), _, r1, rfl⟩
    refine ⟨fun (h5 : a = 2) => ?_, fun (h5 : ¬ a = 2) => ?_⟩
    · skip
      change ev_wp pg_F pg_lay none [] (ev_lu pg_c82) (fun _ => false) _ 1995 46 [some (.ref 6), some (.int a)] [] (ev_up σ 6 0 0)
      exact ⟨_, rfl, Nat.le_of_eq (congrArg Prod.snd r1.2.1), _, r1, rfl⟩
    refine ⟨fun (h6 : a = 3) => ?_, fun (h6 : ¬ a = 3) => ?_⟩
    · skip
      change ev_wp pg_F pg_lay none [] (ev_lu pg_c82) (fun _ => false) _ 1995 51 [some (.ref 6), some (.int a)] [] (ev_up σ 6 0 0)
      refine ⟨fun (h7 : ((ev_up σ 6 0 0).1 6 5) < 0) => ?_, fun (h7 : ¬ ((ev_up σ 6 0 0).1 6 5) < 0) => ?_⟩
      · skip
        change ev_wp pg_F pg_lay none [] (ev_lu pg_c82) (fun _ => false) _ 1992 62 [some (.ref 6), some (.int a)] [] (ev_up σ 6 0 0)
        exact ⟨_, rfl, Nat.le_of_eq (congrArg Prod.snd r1.2.1), _, r1, rfl⟩
      · skip
        change ev_wp pg_F pg_lay none [] (ev_lu pg_c82) (fun _ => false) _ 1992 58 [some (.ref 6), some (.int a)] [] (ev_up σ 6 0 0)
        exact ⟨_, rfl, Nat.le_of_eq (congrArg Prod.snd r1.2.1), _, r1, rfl⟩
    change ev_wp pg_F pg_lay none [] (ev_lu pg_c82) (fun _ => false) _ 1995 64 [some (.ref 6), some (.int a)] [] (ev_up σ 6 0 0)
    exact ⟨_, rfl, Nat.le_of_eq (congrArg Prod.snd r1.2.1), _, r1, rfl⟩
  · cases h
theorem pr_68 : pg_Rn pg_F 68 pg_y68 [] pg_t68 := by
  intro vs σ P h hp
  replace h : pf_68 vs σ = some P := h
  unfold pf_68 at h
  split at h
  · rename_i b w
    cases h
    refine ⟨by simp [Value.category], Nat.le_of_ble_eq_true rfl, ev_go pg_hhs pg_cd pg_o68 (fun _ => false) 2000 (Q1 := ev_at (ev_tl pg_t68) σ.2.2 (sp_m (md_ok σ) (fun _ σ' => md_m σ σ')).2) ?_ (fun _ _ _ _ h => ev_fin h)⟩
    change ev_wp pg_F pg_lay none [] (ev_lu pg_c68) (fun _ => false) _ 2000 0 [some (.ref 6), some (.int b), some (.int w)] [] σ
    refine ⟨trivial, ?_⟩
    rintro _ _ ⟨rfl, rfl⟩
    change ev_wp pg_F pg_lay none [] (ev_lu pg_c68) (fun _ => false) _ 1994 9 [some (.ref 6), some (.int b), some (.int w)] [.int (sp_upto b 63), .int 1, .ref 6] σ
    refine ⟨fun (h1 : (sp_upto b 63) = 0) => ?_, fun (h1 : ¬ (sp_upto b 63) = 0) => ?_⟩
    · skip
      change ev_wp pg_F pg_lay none [] (ev_lu pg_c68) (fun _ => false) _ 1993 21 [some (.ref 6), some (.int b), some (.int w)] [.int 1, .ref 6] σ
      refine ⟨Or.inr rfl, ?_⟩
      rintro _ _ ⟨_, ⟨rfl, rfl⟩, rfl⟩
      have r2 := (md_m.rf σ).tr (md_up6 σ 0 1 (by decide) (by decide))
      have i3 := (md_up6 σ 0 1 (by decide) (by decide)).2.2 hp
      change ev_wp pg_F pg_lay none [] (ev_lu pg_c68) (fun _ => false) _ 1990 29 [some (.ref 6), some (.int b), some (.int w)] [.int 1] (ev_up σ 6 0 1)
      refine ⟨fun h => absurd h (by decide), fun _ => ?_⟩
      change ev_wp pg_F pg_lay none [] (ev_lu pg_c68) (fun _ => false) _ 1989 32 [some (.ref 6), some (.int b), some (.int w)] [] (ev_up σ 6 0 1)
      exact ⟨_, rfl, Nat.le_of_eq (congrArg Prod.snd r2.2.1), _, r2, rfl⟩
    · skip
      change ev_wp pg_F pg_lay none [] (ev_lu pg_c68) (fun _ => false) _ 1993 12 [some (.ref 6), some (.int b), some (.int w)] [.int 1, .ref 6] σ
      refine ⟨trivial, ?_⟩
      rintro _ _ ⟨rfl, rfl⟩
      change ev_wp pg_F pg_lay none [] (ev_lu pg_c68) (fun _ => false) _ 1989 18 [some (.ref 6), some (.int b), some (.int w)] [.int (sp_upto w 3), .int 1, .ref 6] σ
      refine ⟨fun (h4 : (sp_upto w 3) = 0) => ?_, fun (h4 : ¬ (sp_upto w 3) = 0) => ?_⟩
      · skip
        change ev_wp pg_F pg_lay none [] (ev_lu pg_c68) (fun _ => false) _ 1988 21 [some (.ref 6), some (.int b), some (.int w)] [.int 1, .ref 6] σ
        refine ⟨Or.inr rfl, ?_⟩
        rintro _ _ ⟨_, ⟨rfl, rfl⟩, rfl⟩
        have r5 := (md_m.rf σ).tr (md_up6 σ 0 1 (by decide) (by decide))
        have i6 := (md_up6 σ 0 1 (by decide) (by decide)).2.2 hp
        change ev_wp pg_F pg_lay none [] (ev_lu pg_c68) (fun _ => false) _ 1985 29 [some (.ref 6), some (.int b), some (.int w)] [.int 1] (ev_up σ 6 0 1)
        refine ⟨fun h => absurd h (by decide), fun _ => ?_⟩
        change ev_wp pg_F pg_lay none [] (ev_lu pg_c68) (fun _ => false) _ 1984 32 [some (.ref 6), some (.int b), some (.int w)] [] (ev_up σ 6 0 1)
        exact ⟨_, rfl, Nat.le_of_eq (congrArg Prod.snd r5.2.1), _, r5, rfl⟩
      · skip
        change ev_wp pg_F pg_lay none [] (ev_lu pg_c68) (fun _ => false) _ 1988 25 [some (.ref 6), some (.int b), some (.int w)] [.int 1, .ref 6] σ
        refine ⟨Or.inl rfl, ?_⟩
        rintro _ _ ⟨_, ⟨rfl, rfl⟩, rfl⟩
        have r7 := (md_m.rf σ).tr (md_up6 σ 0 0 (by decide) (by decide))
        have i8 := (md_up6 σ 0 0 (by decide) (by decide)).2.2 hp
        change ev_wp pg_F pg_lay none [] (ev_lu pg_c68) (fun _ => false) _ 1986 29 [some (.ref 6), some (.int b), some (.int w)] [.int 0] (ev_up σ 6 0 0)
        refine ⟨fun _ => ?_, fun h => absurd (by decide) h⟩
        change ev_wp pg_F pg_lay none [] (ev_lu pg_c68) (fun _ => false) _ 1985 36 [some (.ref 6), some (.int b), some (.int w)] [] (ev_up σ 6 0 0)
        refine ⟨md_wd_in h1 h4, ?_⟩
        rintro _ _ ⟨rfl, rfl⟩
        exact ⟨_, rfl, Nat.le_of_eq (congrArg Prod.snd r7.2.1), _, r7, rfl⟩
  · cases h
theorem pr_65 : pg_Rn pg_F 65 pg_y65 [] pg_t65 := by
  intro vs σ P h hp
  replace h : pf_65 vs σ = some P := h
  unfold pf_65 at h
  split at h
  · rename_i g d m
    cases h
    refine ⟨by simp [Value.category], Nat.le_of_ble_eq_true rfl, ev_go pg_hhs pg_cd pg_o65 (fun _ => false) 2000 (Q1 := ev_at (ev_tl pg_t65) σ.2.2 (sp_v (md_ok σ) (fun σ' => md_m σ σ' ∧ (sp_clk g d m = 0 ∧ σ'.1 6 0 = 1 ∨ ¬ sp_clk g d m = 0 ∧ σ'.1 6 0 = 0))).2) ?_ (fun _ _ _ _ h => ev_fin h)⟩
    change ev_wp pg_F pg_lay none [] (ev_lu pg_c65) (fun _ => false) _ 2000 0 [some (.ref 6), some (.int g), some (.int d), some (.int m)] [] σ
    refine ⟨trivial, ?_⟩
    rintro _ _ ⟨rfl, rfl⟩
    change ev_wp pg_F pg_lay none [] (ev_lu pg_c65) (fun _ => false) _ 1994 9 [some (.ref 6), some (.int g), some (.int d), some (.int m)] [.int (sp_upto g 11), .int 1, .ref 6] σ
    refine ⟨fun (h1 : (sp_upto g 11) = 0) => ?_, fun (h1 : ¬ (sp_upto g 11) = 0) => ?_⟩
    · skip
      change ev_wp pg_F pg_lay none [] (ev_lu pg_c65) (fun _ => false) _ 1993 34 [some (.ref 6), some (.int g), some (.int d), some (.int m)] [.int 1, .ref 6] σ
      refine ⟨Or.inr rfl, ?_⟩
      rintro _ _ ⟨_, ⟨rfl, rfl⟩, rfl⟩
      have r2 := (md_m.rf σ).tr (md_up6 σ 0 1 (by decide) (by decide))
      have i3 := (md_up6 σ 0 1 (by decide) (by decide)).2.2 hp
      change ev_wp pg_F pg_lay none [] (ev_lu pg_c65) (fun _ => false) _ 1990 42 [some (.ref 6), some (.int g), some (.int d), some (.int m)] [.int 1] (ev_up σ 6 0 1)
      refine ⟨fun h => absurd h (by decide), fun _ => ?_⟩
      change ev_wp pg_F pg_lay none [] (ev_lu pg_c65) (fun _ => false) _ 1989 45 [some (.ref 6), some (.int g), some (.int d), some (.int m)] [] (ev_up σ 6 0 1)
      exact ⟨rfl, Nat.le_of_eq (congrArg Prod.snd r2.2.1), ⟨r2, Or.inl ⟨(by rw [← md_clk_eq g d m]; unfold md_clk; rw [if_pos h1]), rfl⟩⟩, rfl⟩
    · skip
      change ev_wp pg_F pg_lay none [] (ev_lu pg_c65) (fun _ => false) _ 1993 12 [some (.ref 6), some (.int g), some (.int d), some (.int m)] [.int 1, .ref 6] σ
      refine ⟨trivial, ?_⟩
      rintro _ _ ⟨rfl, rfl⟩
      change ev_wp pg_F pg_lay none [] (ev_lu pg_c65) (fun _ => false) _ 1989 20 [some (.ref 6), some (.int g), some (.int d), some (.int m)] [.int (sp_upto d 9999), .int 1, .ref 6] σ
      refine ⟨fun (h4 : (sp_upto d 9999) = 0) => ?_, fun (h4 : ¬ (sp_upto d 9999) = 0) => ?_⟩
      · skip
        change ev_wp pg_F pg_lay none [] (ev_lu pg_c65) (fun _ => false) _ 1988 34 [some (.ref 6), some (.int g), some (.int d), some (.int m)] [.int 1, .ref 6] σ
        refine ⟨Or.inr rfl, ?_⟩
        rintro _ _ ⟨_, ⟨rfl, rfl⟩, rfl⟩
        have r5 := (md_m.rf σ).tr (md_up6 σ 0 1 (by decide) (by decide))
        have i6 := (md_up6 σ 0 1 (by decide) (by decide)).2.2 hp
        change ev_wp pg_F pg_lay none [] (ev_lu pg_c65) (fun _ => false) _ 1985 42 [some (.ref 6), some (.int g), some (.int d), some (.int m)] [.int 1] (ev_up σ 6 0 1)
        refine ⟨fun h => absurd h (by decide), fun _ => ?_⟩
        change ev_wp pg_F pg_lay none [] (ev_lu pg_c65) (fun _ => false) _ 1984 45 [some (.ref 6), some (.int g), some (.int d), some (.int m)] [] (ev_up σ 6 0 1)
        exact ⟨rfl, Nat.le_of_eq (congrArg Prod.snd r5.2.1), ⟨r5, Or.inl ⟨(by rw [← md_clk_eq g d m]; unfold md_clk; rw [if_neg h1, if_pos h4]), rfl⟩⟩, rfl⟩
      · skip
        change ev_wp pg_F pg_lay none [] (ev_lu pg_c65) (fun _ => false) _ 1988 23 [some (.ref 6), some (.int g), some (.int d), some (.int m)] [.int 1, .ref 6] σ
        refine ⟨trivial, ?_⟩
        rintro _ _ ⟨rfl, rfl⟩
        change ev_wp pg_F pg_lay none [] (ev_lu pg_c65) (fun _ => false) _ 1984 31 [some (.ref 6), some (.int g), some (.int d), some (.int m)] [.int (sp_upto m 1439), .int 1, .ref 6] σ
        refine ⟨fun (h7 : (sp_upto m 1439) = 0) => ?_, fun (h7 : ¬ (sp_upto m 1439) = 0) => ?_⟩
        · skip
          change ev_wp pg_F pg_lay none [] (ev_lu pg_c65) (fun _ => false) _ 1983 34 [some (.ref 6), some (.int g), some (.int d), some (.int m)] [.int 1, .ref 6] σ
          refine ⟨Or.inr rfl, ?_⟩
          rintro _ _ ⟨_, ⟨rfl, rfl⟩, rfl⟩
          have r8 := (md_m.rf σ).tr (md_up6 σ 0 1 (by decide) (by decide))
          have i9 := (md_up6 σ 0 1 (by decide) (by decide)).2.2 hp
          change ev_wp pg_F pg_lay none [] (ev_lu pg_c65) (fun _ => false) _ 1980 42 [some (.ref 6), some (.int g), some (.int d), some (.int m)] [.int 1] (ev_up σ 6 0 1)
          refine ⟨fun h => absurd h (by decide), fun _ => ?_⟩
          change ev_wp pg_F pg_lay none [] (ev_lu pg_c65) (fun _ => false) _ 1979 45 [some (.ref 6), some (.int g), some (.int d), some (.int m)] [] (ev_up σ 6 0 1)
          exact ⟨rfl, Nat.le_of_eq (congrArg Prod.snd r8.2.1), ⟨r8, Or.inl ⟨(by rw [← md_clk_eq g d m]; unfold md_clk; rw [if_neg h1, if_neg h4, if_pos h7]), rfl⟩⟩, rfl⟩
        · skip
          change ev_wp pg_F pg_lay none [] (ev_lu pg_c65) (fun _ => false) _ 1983 38 [some (.ref 6), some (.int g), some (.int d), some (.int m)] [.int 1, .ref 6] σ
          refine ⟨Or.inl rfl, ?_⟩
          rintro _ _ ⟨_, ⟨rfl, rfl⟩, rfl⟩
          have r10 := (md_m.rf σ).tr (md_up6 σ 0 0 (by decide) (by decide))
          have i11 := (md_up6 σ 0 0 (by decide) (by decide)).2.2 hp
          change ev_wp pg_F pg_lay none [] (ev_lu pg_c65) (fun _ => false) _ 1981 42 [some (.ref 6), some (.int g), some (.int d), some (.int m)] [.int 0] (ev_up σ 6 0 0)
          refine ⟨fun _ => ?_, fun h => absurd (by decide) h⟩
          change ev_wp pg_F pg_lay none [] (ev_lu pg_c65) (fun _ => false) _ 1980 46 [some (.ref 6), some (.int g), some (.int d), some (.int m)] [] (ev_up σ 6 0 0)
          refine ⟨sp_upto_in h1, ?_⟩
          have r12 := r10.tr (md_upA (ev_up σ 6 0 0) 8 (by decide) (by decide) (Int32.toNatClampNeg g) d)
          have i13 := (md_upA (ev_up σ 6 0 0) 8 (by decide) (by decide) (Int32.toNatClampNeg g) d).2.2 i11
          change ev_wp pg_F pg_lay none [] (ev_lu pg_c65) (fun _ => false) _ 1975 53 [some (.ref 6), some (.int g), some (.int d), some (.int m)] [] (ev_up (ev_up σ 6 0 0) 8 (Int32.toNatClampNeg g) d)
          refine ⟨sp_upto_in h1, ?_⟩
          have r14 := r12.tr (md_upA (ev_up (ev_up σ 6 0 0) 8 (Int32.toNatClampNeg g) d) 9 (by decide) (by decide) (Int32.toNatClampNeg g) m)
          have i15 := (md_upA (ev_up (ev_up σ 6 0 0) 8 (Int32.toNatClampNeg g) d) 9 (by decide) (by decide) (Int32.toNatClampNeg g) m).2.2 i13
          exact ⟨rfl, Nat.le_of_eq (congrArg Prod.snd r14.2.1), ⟨r14, Or.inr ⟨(by rw [← md_clk_eq g d m]; unfold md_clk; rw [if_neg h1, if_neg h4, if_neg h7]; decide), rfl⟩⟩, rfl⟩
  · cases h
theorem pr_59 : pg_Rn pg_F 59 pg_y59 [] pg_t59 := by
  intro vs σ P h hp
  replace h : pf_59 vs σ = some P := h
  unfold pf_59 at h
  split at h
  · rename_i g x
    cases h
    refine ⟨by simp [Value.category], Nat.le_of_ble_eq_true rfl, ev_go pg_hhs pg_cd pg_o59 (fun _ => false) 2000 (Q1 := ev_at (ev_tl pg_t59) σ.2.2 (sp_v (md_ok σ) (fun σ' => md_m σ σ' ∧ (sp_upto g 11 = 0 ∧ σ'.1 6 0 = 1 ∨ ¬ sp_upto g 11 = 0 ∧ σ'.1 6 0 = 0))).2) ?_ (fun _ _ _ _ h => ev_fin h)⟩
    change ev_wp pg_F pg_lay none [] (ev_lu pg_c59) (fun _ => false) _ 2000 0 [some (.ref 6), some (.int g), some (.int x)] [] σ
    refine ⟨trivial, ?_⟩
    rintro _ _ ⟨rfl, rfl⟩
    change ev_wp pg_F pg_lay none [] (ev_lu pg_c59) (fun _ => false) _ 1994 9 [some (.ref 6), some (.int g), some (.int x)] [.int (sp_upto g 11), .int 1, .ref 6] σ
    refine ⟨fun (h1 : (sp_upto g 11) = 0) => ?_, fun (h1 : ¬ (sp_upto g 11) = 0) => ?_⟩
    · skip
      change ev_wp pg_F pg_lay none [] (ev_lu pg_c59) (fun _ => false) _ 1993 12 [some (.ref 6), some (.int g), some (.int x)] [.int 1, .ref 6] σ
      refine ⟨Or.inr rfl, ?_⟩
      rintro _ _ ⟨_, ⟨rfl, rfl⟩, rfl⟩
      have r2 := (md_m.rf σ).tr (md_up6 σ 0 1 (by decide) (by decide))
      have i3 := (md_up6 σ 0 1 (by decide) (by decide)).2.2 hp
      change ev_wp pg_F pg_lay none [] (ev_lu pg_c59) (fun _ => false) _ 1990 20 [some (.ref 6), some (.int g), some (.int x)] [.int 1] (ev_up σ 6 0 1)
      refine ⟨fun h => absurd h (by decide), fun _ => ?_⟩
      change ev_wp pg_F pg_lay none [] (ev_lu pg_c59) (fun _ => false) _ 1989 30 [some (.ref 6), some (.int g), some (.int x)] [] (ev_up σ 6 0 1)
      exact ⟨rfl, Nat.le_of_eq (congrArg Prod.snd r2.2.1), ⟨r2, Or.inl ⟨h1, rfl⟩⟩, rfl⟩
    · skip
      change ev_wp pg_F pg_lay none [] (ev_lu pg_c59) (fun _ => false) _ 1993 16 [some (.ref 6), some (.int g), some (.int x)] [.int 1, .ref 6] σ
      refine ⟨Or.inl rfl, ?_⟩
      rintro _ _ ⟨_, ⟨rfl, rfl⟩, rfl⟩
      have r4 := (md_m.rf σ).tr (md_up6 σ 0 0 (by decide) (by decide))
      have i5 := (md_up6 σ 0 0 (by decide) (by decide)).2.2 hp
      change ev_wp pg_F pg_lay none [] (ev_lu pg_c59) (fun _ => false) _ 1991 20 [some (.ref 6), some (.int g), some (.int x)] [.int 0] (ev_up σ 6 0 0)
      refine ⟨fun _ => ?_, fun h => absurd (by decide) h⟩
      change ev_wp pg_F pg_lay none [] (ev_lu pg_c59) (fun _ => false) _ 1990 23 [some (.ref 6), some (.int g), some (.int x)] [] (ev_up σ 6 0 0)
      refine ⟨sp_upto_in h1, ?_⟩
      have r6 := r4.tr (md_upA (ev_up σ 6 0 0) 10 (by decide) (by decide) (Int32.toNatClampNeg g) (vp_nar .boolean x))
      have i7 := (md_upA (ev_up σ 6 0 0) 10 (by decide) (by decide) (Int32.toNatClampNeg g) (vp_nar .boolean x)).2.2 i5
      exact ⟨rfl, Nat.le_of_eq (congrArg Prod.snd r6.2.1), ⟨r6, Or.inr ⟨h1, rfl⟩⟩, rfl⟩
  · cases h
theorem pr_66 : pg_Rn pg_F 66 pg_y66 [] pg_t66 := by
  intro vs σ P h hp
  replace h : pf_66 vs σ = some P := h
  unfold pf_66 at h
  split at h
  · rename_i n j
    cases h
    refine ⟨by simp [Value.category], Nat.le_of_ble_eq_true rfl, ev_go pg_hhs pg_cd pg_o66 (fun _ => false) 2000 (Q1 := ev_at (ev_tl pg_t66) σ.2.2 (sp_v (md_ok σ) (fun σ' => md_m σ σ' ∧ (sp_tr n j = 0 ∧ σ'.1 6 0 = 1 ∨ ¬ sp_tr n j = 0 ∧ σ'.1 6 0 = 0))).2) ?_ (fun _ _ _ _ h => ev_fin h)⟩
    change ev_wp pg_F pg_lay none [] (ev_lu pg_c66) (fun _ => false) _ 2000 0 [some (.ref 6), some (.int n), some (.int j)] [] σ
    refine ⟨trivial, ?_⟩
    rintro _ _ ⟨rfl, rfl⟩
    change ev_wp pg_F pg_lay none [] (ev_lu pg_c66) (fun _ => false) _ 1994 9 [some (.ref 6), some (.int n), some (.int j)] [.int (sp_upto n 100), .int 1, .ref 6] σ
    refine ⟨fun (h1 : (sp_upto n 100) = 0) => ?_, fun (h1 : ¬ (sp_upto n 100) = 0) => ?_⟩
    · skip
      change ev_wp pg_F pg_lay none [] (ev_lu pg_c66) (fun _ => false) _ 1993 22 [some (.ref 6), some (.int n), some (.int j)] [.int 1, .ref 6] σ
      refine ⟨Or.inr rfl, ?_⟩
      rintro _ _ ⟨_, ⟨rfl, rfl⟩, rfl⟩
      have r2 := (md_m.rf σ).tr (md_up6 σ 0 1 (by decide) (by decide))
      have i3 := (md_up6 σ 0 1 (by decide) (by decide)).2.2 hp
      change ev_wp pg_F pg_lay none [] (ev_lu pg_c66) (fun _ => false) _ 1990 30 [some (.ref 6), some (.int n), some (.int j)] [.int 1] (ev_up σ 6 0 1)
      refine ⟨fun h => absurd h (by decide), fun _ => ?_⟩
      change ev_wp pg_F pg_lay none [] (ev_lu pg_c66) (fun _ => false) _ 1989 33 [some (.ref 6), some (.int n), some (.int j)] [] (ev_up σ 6 0 1)
      exact ⟨rfl, Nat.le_of_eq (congrArg Prod.snd r2.2.1), ⟨r2, Or.inl ⟨(by unfold sp_tr; rw [if_pos h1]), rfl⟩⟩, rfl⟩
    · skip
      change ev_wp pg_F pg_lay none [] (ev_lu pg_c66) (fun _ => false) _ 1993 12 [some (.ref 6), some (.int n), some (.int j)] [.int 1, .ref 6] σ
      refine ⟨trivial, ?_⟩
      rintro _ _ ⟨rfl, rfl⟩
      change ev_wp pg_F pg_lay none [] (ev_lu pg_c66) (fun _ => false) _ 1989 19 [some (.ref 6), some (.int n), some (.int j)] [.int (sp_upto j 65535), .int 1, .ref 6] σ
      refine ⟨fun (h4 : (sp_upto j 65535) = 0) => ?_, fun (h4 : ¬ (sp_upto j 65535) = 0) => ?_⟩
      · skip
        change ev_wp pg_F pg_lay none [] (ev_lu pg_c66) (fun _ => false) _ 1988 22 [some (.ref 6), some (.int n), some (.int j)] [.int 1, .ref 6] σ
        refine ⟨Or.inr rfl, ?_⟩
        rintro _ _ ⟨_, ⟨rfl, rfl⟩, rfl⟩
        have r5 := (md_m.rf σ).tr (md_up6 σ 0 1 (by decide) (by decide))
        have i6 := (md_up6 σ 0 1 (by decide) (by decide)).2.2 hp
        change ev_wp pg_F pg_lay none [] (ev_lu pg_c66) (fun _ => false) _ 1985 30 [some (.ref 6), some (.int n), some (.int j)] [.int 1] (ev_up σ 6 0 1)
        refine ⟨fun h => absurd h (by decide), fun _ => ?_⟩
        change ev_wp pg_F pg_lay none [] (ev_lu pg_c66) (fun _ => false) _ 1984 33 [some (.ref 6), some (.int n), some (.int j)] [] (ev_up σ 6 0 1)
        exact ⟨rfl, Nat.le_of_eq (congrArg Prod.snd r5.2.1), ⟨r5, Or.inl ⟨(by unfold sp_tr; rw [if_neg h1, if_pos h4]), rfl⟩⟩, rfl⟩
      · skip
        change ev_wp pg_F pg_lay none [] (ev_lu pg_c66) (fun _ => false) _ 1988 26 [some (.ref 6), some (.int n), some (.int j)] [.int 1, .ref 6] σ
        refine ⟨Or.inl rfl, ?_⟩
        rintro _ _ ⟨_, ⟨rfl, rfl⟩, rfl⟩
        have r7 := (md_m.rf σ).tr (md_up6 σ 0 0 (by decide) (by decide))
        have i8 := (md_up6 σ 0 0 (by decide) (by decide)).2.2 hp
        change ev_wp pg_F pg_lay none [] (ev_lu pg_c66) (fun _ => false) _ 1986 30 [some (.ref 6), some (.int n), some (.int j)] [.int 0] (ev_up σ 6 0 0)
        refine ⟨fun _ => ?_, fun h => absurd (by decide) h⟩
        change ev_wp pg_F pg_lay none [] (ev_lu pg_c66) (fun _ => false) _ 1985 34 [some (.ref 6), some (.int n), some (.int j)] [] (ev_up σ 6 0 0)
        have r9 := r7.tr (md_up6 (ev_up σ 6 0 0) 8 n (by decide) (by decide))
        have i10 := (md_up6 (ev_up σ 6 0 0) 8 n (by decide) (by decide)).2.2 i8
        have r11 := r9.tr (md_junk (ev_up (ev_up σ 6 0 0) 6 8 n) j (sp_upto_nn h4))
        have i12 := (md_junk (ev_up (ev_up σ 6 0 0) 6 8 n) j (sp_upto_nn h4)).2.2 i10
        exact ⟨rfl, Nat.le_of_eq (congrArg Prod.snd r11.2.1), ⟨r11, Or.inr ⟨(by unfold sp_tr; rw [if_neg h1, if_neg h4]; decide), rfl⟩⟩, rfl⟩
  · cases h
