/-! THE RUNS OF THE BODIES (laid by wip/gen/spec.py) -/
theorem pr_119 : pg_Rn pg_F 119 pg_y119 [] pg_t119 := by
  intro vs σ P h hp
  replace h : pf_119 vs σ = some P := h
  unfold pf_119 at h
  split at h
  · rename_i l z d
    cases h
    refine ⟨by simp [Value.category], Nat.le_of_ble_eq_true rfl, ev_go pg_hhs pg_cd pg_o119 (fun _ => false) 2000 (Q1 := ev_at (ev_tl pg_t119) σ.2.2 (sp_m (md_ok σ ∧ vp_in (σ.1 6 5) 12 ∧ σ.1 7 0 = 1) (fun _ σ' => md_m σ σ')).2) ?_ (fun _ _ _ _ h => ev_fin h)⟩
    change ev_wp pg_F pg_lay none [] (ev_lu pg_c119) (fun _ => false) _ 2000 0 [some (.ref 6), some (.int l), some (.int z), some (.int d), none, none] [] σ
    refine ⟨trivial, ?_⟩
    rintro _ _ ⟨rfl, rfl⟩
    change ev_wp pg_F pg_lay none [] (ev_lu pg_c119) (fun _ => false) _ 1998 4 [some (.ref 6), some (.int l), some (.int z), some (.int d), none, none] [.int (md_cnt σ 64)] σ
    refine ⟨sp_in rfl rfl, ?_⟩
    rintro _ _ ⟨rfl, rfl⟩
    change ev_wp pg_F pg_lay none [] (ev_lu pg_c119) (fun _ => false) _ 1992 14 [some (.ref 6), some (.int l), some (.int z), some (.int d), some (.int (md_cnt σ 64)), none] [.int (σ.1 7 1), .int (md_cnt σ 64)] σ
    refine ⟨fun (h1 : (md_cnt σ 64) < (σ.1 7 1)) => ?_, fun (h1 : ¬ (md_cnt σ 64) < (σ.1 7 1)) => ?_⟩
    · skip
      change ev_wp pg_F pg_lay none [] (ev_lu pg_c119) (fun _ => false) _ 1991 23 [some (.ref 6), some (.int l), some (.int z), some (.int d), some (.int (md_cnt σ 64)), none] [] σ
      refine ⟨hp.2.1, ?_⟩
      rintro _ _ ⟨v2, k3, rfl, rfl⟩
      change ev_wp pg_F pg_lay none [] (ev_lu pg_c119) (fun _ => false) _ 1984 32 [some (.ref 6), some (.int l), some (.int z), some (.int d), some (.int (md_cnt σ 64)), none] [.int v2, .int 0, .int d, .int z, .int l, .ref 6] σ
      refine ⟨⟨hp.1, hp.2.1⟩, ?_⟩
      rintro _ s5 ⟨k4, rfl⟩
      have r6 := (md_m.rf σ).tr k4.1
      have i7 := k4.1.2.2 hp.1
      change ev_wp pg_F pg_lay none [] (ev_lu pg_c119) (fun _ => false) _ 1978 41 [some (.ref 6), some (.int l), some (.int z), some (.int d), some (.int (md_cnt σ 64)), none] [] s5
      refine ⟨sp_in rfl rfl, ?_⟩
      rintro _ _ ⟨rfl, rfl⟩
      change ev_wp pg_F pg_lay none [] (ev_lu pg_c119) (fun _ => false) _ 1970 54 [some (.ref 6), some (.int l), some (.int z), some (.int d), some (.int (md_cnt σ 64)), some (.int 0)] [.int (s5.1 7 16)] s5
      refine ⟨fun (h8 : ((((s5.1 7 16) : Int32) >>> ((0 : Int32) &&& 31)) &&& 1) = 1) => ?_, fun (h8 : ¬ ((((s5.1 7 16) : Int32) >>> ((0 : Int32) &&& 31)) &&& 1) = 1) => ?_⟩
      · skip
        change ev_wp pg_F pg_lay none [] (ev_lu pg_c119) (fun _ => false) _ 1962 66 [some (.ref 6), some (.int l), some (.int z), some (.int d), some (.int (md_cnt σ 64)), some (.int 0)] [] s5
        refine ⟨sp_in rfl rfl, ?_⟩
        rintro _ _ ⟨rfl, rfl⟩
        change ev_wp pg_F pg_lay none [] (ev_lu pg_c119) (fun _ => false) _ 1954 54 [some (.ref 6), some (.int l), some (.int z), some (.int d), some (.int (md_cnt σ 64)), some (.int 1)] [.int (s5.1 7 16)] s5
        refine ⟨fun (h9 : ((((s5.1 7 16) : Int32) >>> ((1 : Int32) &&& 31)) &&& 1) = 1) => ?_, fun (h9 : ¬ ((((s5.1 7 16) : Int32) >>> ((1 : Int32) &&& 31)) &&& 1) = 1) => ?_⟩
        · skip
          change ev_wp pg_F pg_lay none [] (ev_lu pg_c119) (fun _ => false) _ 1946 66 [some (.ref 6), some (.int l), some (.int z), some (.int d), some (.int (md_cnt σ 64)), some (.int 1)] [] s5
          refine ⟨sp_in rfl rfl, ?_⟩
          rintro _ _ ⟨rfl, rfl⟩
          change ev_wp pg_F pg_lay none [] (ev_lu pg_c119) (fun _ => false) _ 1938 54 [some (.ref 6), some (.int l), some (.int z), some (.int d), some (.int (md_cnt σ 64)), some (.int 2)] [.int (s5.1 7 16)] s5
          refine ⟨fun (h10 : ((((s5.1 7 16) : Int32) >>> ((2 : Int32) &&& 31)) &&& 1) = 1) => ?_, fun (h10 : ¬ ((((s5.1 7 16) : Int32) >>> ((2 : Int32) &&& 31)) &&& 1) = 1) => ?_⟩
          · skip
            change ev_wp pg_F pg_lay none [] (ev_lu pg_c119) (fun _ => false) _ 1930 66 [some (.ref 6), some (.int l), some (.int z), some (.int d), some (.int (md_cnt σ 64)), some (.int 2)] [] s5
            refine ⟨sp_in rfl rfl, ?_⟩
            rintro _ _ ⟨rfl, rfl⟩
            change ev_wp pg_F pg_lay none [] (ev_lu pg_c119) (fun _ => false) _ 1922 54 [some (.ref 6), some (.int l), some (.int z), some (.int d), some (.int (md_cnt σ 64)), some (.int 3)] [.int (s5.1 7 16)] s5
            refine ⟨fun (h11 : ((((s5.1 7 16) : Int32) >>> ((3 : Int32) &&& 31)) &&& 1) = 1) => ?_, fun (h11 : ¬ ((((s5.1 7 16) : Int32) >>> ((3 : Int32) &&& 31)) &&& 1) = 1) => ?_⟩
            · skip
              change ev_wp pg_F pg_lay none [] (ev_lu pg_c119) (fun _ => false) _ 1914 66 [some (.ref 6), some (.int l), some (.int z), some (.int d), some (.int (md_cnt σ 64)), some (.int 3)] [] s5
              refine ⟨sp_in rfl rfl, ?_⟩
              rintro _ _ ⟨rfl, rfl⟩
              change ev_wp pg_F pg_lay none [] (ev_lu pg_c119) (fun _ => false) _ 1906 54 [some (.ref 6), some (.int l), some (.int z), some (.int d), some (.int (md_cnt σ 64)), some (.int 4)] [.int (s5.1 7 16)] s5
              refine ⟨fun (h12 : ((((s5.1 7 16) : Int32) >>> ((4 : Int32) &&& 31)) &&& 1) = 1) => ?_, fun (h12 : ¬ ((((s5.1 7 16) : Int32) >>> ((4 : Int32) &&& 31)) &&& 1) = 1) => ?_⟩
              · skip
                change ev_wp pg_F pg_lay none [] (ev_lu pg_c119) (fun _ => false) _ 1898 66 [some (.ref 6), some (.int l), some (.int z), some (.int d), some (.int (md_cnt σ 64)), some (.int 4)] [] s5
                refine ⟨sp_in rfl rfl, ?_⟩
                rintro _ _ ⟨rfl, rfl⟩
                change ev_wp pg_F pg_lay none [] (ev_lu pg_c119) (fun _ => false) _ 1890 54 [some (.ref 6), some (.int l), some (.int z), some (.int d), some (.int (md_cnt σ 64)), some (.int 5)] [.int (s5.1 7 16)] s5
                refine ⟨fun (h13 : ((((s5.1 7 16) : Int32) >>> ((5 : Int32) &&& 31)) &&& 1) = 1) => ?_, fun (h13 : ¬ ((((s5.1 7 16) : Int32) >>> ((5 : Int32) &&& 31)) &&& 1) = 1) => ?_⟩
                · skip
                  change ev_wp pg_F pg_lay none [] (ev_lu pg_c119) (fun _ => false) _ 1882 66 [some (.ref 6), some (.int l), some (.int z), some (.int d), some (.int (md_cnt σ 64)), some (.int 5)] [] s5
                  refine ⟨sp_in rfl rfl, ?_⟩
                  rintro _ _ ⟨rfl, rfl⟩
                  change ev_wp pg_F pg_lay none [] (ev_lu pg_c119) (fun _ => false) _ 1874 54 [some (.ref 6), some (.int l), some (.int z), some (.int d), some (.int (md_cnt σ 64)), some (.int 6)] [.int (s5.1 7 16)] s5
                  refine ⟨fun (h14 : ((((s5.1 7 16) : Int32) >>> ((6 : Int32) &&& 31)) &&& 1) = 1) => ?_, fun (h14 : ¬ ((((s5.1 7 16) : Int32) >>> ((6 : Int32) &&& 31)) &&& 1) = 1) => ?_⟩
                  · skip
                    change ev_wp pg_F pg_lay none [] (ev_lu pg_c119) (fun _ => false) _ 1866 66 [some (.ref 6), some (.int l), some (.int z), some (.int d), some (.int (md_cnt σ 64)), some (.int 6)] [] s5
                    refine ⟨sp_in rfl rfl, ?_⟩
                    rintro _ _ ⟨rfl, rfl⟩
                    change ev_wp pg_F pg_lay none [] (ev_lu pg_c119) (fun _ => false) _ 1858 54 [some (.ref 6), some (.int l), some (.int z), some (.int d), some (.int (md_cnt σ 64)), some (.int 7)] [.int (s5.1 7 16)] s5
                    refine ⟨fun (h15 : ((((s5.1 7 16) : Int32) >>> ((7 : Int32) &&& 31)) &&& 1) = 1) => ?_, fun (h15 : ¬ ((((s5.1 7 16) : Int32) >>> ((7 : Int32) &&& 31)) &&& 1) = 1) => ?_⟩
                    · skip
                      change ev_wp pg_F pg_lay none [] (ev_lu pg_c119) (fun _ => false) _ 1850 66 [some (.ref 6), some (.int l), some (.int z), some (.int d), some (.int (md_cnt σ 64)), some (.int 7)] [] s5
                      refine ⟨sp_in rfl rfl, ?_⟩
                      rintro _ _ ⟨rfl, rfl⟩
                      change ev_wp pg_F pg_lay none [] (ev_lu pg_c119) (fun _ => false) _ 1842 54 [some (.ref 6), some (.int l), some (.int z), some (.int d), some (.int (md_cnt σ 64)), some (.int 8)] [.int (s5.1 7 16)] s5
                      refine ⟨fun (h16 : ((((s5.1 7 16) : Int32) >>> ((8 : Int32) &&& 31)) &&& 1) = 1) => ?_, fun (h16 : ¬ ((((s5.1 7 16) : Int32) >>> ((8 : Int32) &&& 31)) &&& 1) = 1) => ?_⟩
                      · skip
                        change ev_wp pg_F pg_lay none [] (ev_lu pg_c119) (fun _ => false) _ 1834 66 [some (.ref 6), some (.int l), some (.int z), some (.int d), some (.int (md_cnt σ 64)), some (.int 8)] [] s5
                        refine ⟨sp_in rfl rfl, ?_⟩
                        rintro _ _ ⟨rfl, rfl⟩
                        change ev_wp pg_F pg_lay none [] (ev_lu pg_c119) (fun _ => false) _ 1826 54 [some (.ref 6), some (.int l), some (.int z), some (.int d), some (.int (md_cnt σ 64)), some (.int 9)] [.int (s5.1 7 16)] s5
                        refine ⟨fun (h17 : ((((s5.1 7 16) : Int32) >>> ((9 : Int32) &&& 31)) &&& 1) = 1) => ?_, fun (h17 : ¬ ((((s5.1 7 16) : Int32) >>> ((9 : Int32) &&& 31)) &&& 1) = 1) => ?_⟩
                        · skip
                          change ev_wp pg_F pg_lay none [] (ev_lu pg_c119) (fun _ => false) _ 1818 66 [some (.ref 6), some (.int l), some (.int z), some (.int d), some (.int (md_cnt σ 64)), some (.int 9)] [] s5
                          refine ⟨sp_in rfl rfl, ?_⟩
                          rintro _ _ ⟨rfl, rfl⟩
                          change ev_wp pg_F pg_lay none [] (ev_lu pg_c119) (fun _ => false) _ 1810 54 [some (.ref 6), some (.int l), some (.int z), some (.int d), some (.int (md_cnt σ 64)), some (.int 10)] [.int (s5.1 7 16)] s5
                          refine ⟨fun (h18 : ((((s5.1 7 16) : Int32) >>> ((10 : Int32) &&& 31)) &&& 1) = 1) => ?_, fun (h18 : ¬ ((((s5.1 7 16) : Int32) >>> ((10 : Int32) &&& 31)) &&& 1) = 1) => ?_⟩
                          · skip
                            change ev_wp pg_F pg_lay none [] (ev_lu pg_c119) (fun _ => false) _ 1802 66 [some (.ref 6), some (.int l), some (.int z), some (.int d), some (.int (md_cnt σ 64)), some (.int 10)] [] s5
                            refine ⟨sp_in rfl rfl, ?_⟩
                            rintro _ _ ⟨rfl, rfl⟩
                            change ev_wp pg_F pg_lay none [] (ev_lu pg_c119) (fun _ => false) _ 1794 54 [some (.ref 6), some (.int l), some (.int z), some (.int d), some (.int (md_cnt σ 64)), some (.int 11)] [.int (s5.1 7 16)] s5
                            refine ⟨fun (h19 : ((((s5.1 7 16) : Int32) >>> ((11 : Int32) &&& 31)) &&& 1) = 1) => ?_, fun (h19 : ¬ ((((s5.1 7 16) : Int32) >>> ((11 : Int32) &&& 31)) &&& 1) = 1) => ?_⟩
                            · skip
                              change ev_wp pg_F pg_lay none [] (ev_lu pg_c119) (fun _ => false) _ 1786 66 [some (.ref 6), some (.int l), some (.int z), some (.int d), some (.int (md_cnt σ 64)), some (.int 11)] [] s5
                              refine ⟨sp_in rfl rfl, ?_⟩
                              rintro _ _ ⟨rfl, rfl⟩
                              change ev_wp pg_F pg_lay none [] (ev_lu pg_c119) (fun _ => false) _ 1778 54 [some (.ref 6), some (.int l), some (.int z), some (.int d), some (.int (md_cnt σ 64)), some (.int 12)] [.int (s5.1 7 16)] s5
                              refine ⟨fun (h20 : ((((s5.1 7 16) : Int32) >>> ((12 : Int32) &&& 31)) &&& 1) = 1) => ?_, fun (h20 : ¬ ((((s5.1 7 16) : Int32) >>> ((12 : Int32) &&& 31)) &&& 1) = 1) => ?_⟩
                              · skip
                                change ev_wp pg_F pg_lay none [] (ev_lu pg_c119) (fun _ => false) _ 1770 66 [some (.ref 6), some (.int l), some (.int z), some (.int d), some (.int (md_cnt σ 64)), some (.int 12)] [] s5
                                refine ⟨sp_in rfl rfl, ?_⟩
                                rintro _ _ ⟨rfl, rfl⟩
                                change ev_wp pg_F pg_lay none [] (ev_lu pg_c119) (fun _ => false) _ 1762 54 [some (.ref 6), some (.int l), some (.int z), some (.int d), some (.int (md_cnt σ 64)), some (.int 13)] [.int (s5.1 7 16)] s5
                                refine ⟨fun (h21 : ((((s5.1 7 16) : Int32) >>> ((13 : Int32) &&& 31)) &&& 1) = 1) => ?_, fun (h21 : ¬ ((((s5.1 7 16) : Int32) >>> ((13 : Int32) &&& 31)) &&& 1) = 1) => ?_⟩
                                · skip
                                  change ev_wp pg_F pg_lay none [] (ev_lu pg_c119) (fun _ => false) _ 1754 66 [some (.ref 6), some (.int l), some (.int z), some (.int d), some (.int (md_cnt σ 64)), some (.int 13)] [] s5
                                  refine ⟨sp_in rfl rfl, ?_⟩
                                  rintro _ _ ⟨rfl, rfl⟩
                                  change ev_wp pg_F pg_lay none [] (ev_lu pg_c119) (fun _ => false) _ 1746 54 [some (.ref 6), some (.int l), some (.int z), some (.int d), some (.int (md_cnt σ 64)), some (.int 14)] [.int (s5.1 7 16)] s5
                                  refine ⟨fun (h22 : ((((s5.1 7 16) : Int32) >>> ((14 : Int32) &&& 31)) &&& 1) = 1) => ?_, fun (h22 : ¬ ((((s5.1 7 16) : Int32) >>> ((14 : Int32) &&& 31)) &&& 1) = 1) => ?_⟩
                                  · skip
                                    change ev_wp pg_F pg_lay none [] (ev_lu pg_c119) (fun _ => false) _ 1738 66 [some (.ref 6), some (.int l), some (.int z), some (.int d), some (.int (md_cnt σ 64)), some (.int 14)] [] s5
                                    refine ⟨sp_in rfl rfl, ?_⟩
                                    rintro _ _ ⟨rfl, rfl⟩
                                    change ev_wp pg_F pg_lay none [] (ev_lu pg_c119) (fun _ => false) _ 1730 54 [some (.ref 6), some (.int l), some (.int z), some (.int d), some (.int (md_cnt σ 64)), some (.int 15)] [.int (s5.1 7 16)] s5
                                    refine ⟨fun (h23 : ((((s5.1 7 16) : Int32) >>> ((15 : Int32) &&& 31)) &&& 1) = 1) => ?_, fun (h23 : ¬ ((((s5.1 7 16) : Int32) >>> ((15 : Int32) &&& 31)) &&& 1) = 1) => ?_⟩
                                    · skip
                                      change ev_wp pg_F pg_lay none [] (ev_lu pg_c119) (fun _ => false) _ 1722 66 [some (.ref 6), some (.int l), some (.int z), some (.int d), some (.int (md_cnt σ 64)), some (.int 15)] [] s5
                                      refine ⟨sp_in rfl rfl, ?_⟩
                                      rintro _ _ ⟨rfl, rfl⟩
                                      change ev_wp pg_F pg_lay none [] (ev_lu pg_c119) (fun _ => false) _ 1714 54 [some (.ref 6), some (.int l), some (.int z), some (.int d), some (.int (md_cnt σ 64)), some (.int 16)] [.int (s5.1 7 17)] s5
                                      refine ⟨fun (h24 : ((((s5.1 7 17) : Int32) >>> ((0 : Int32) &&& 31)) &&& 1) = 1) => ?_, fun (h24 : ¬ ((((s5.1 7 17) : Int32) >>> ((0 : Int32) &&& 31)) &&& 1) = 1) => ?_⟩
                                      · skip
                                        change ev_wp pg_F pg_lay none [] (ev_lu pg_c119) (fun _ => false) _ 1706 66 [some (.ref 6), some (.int l), some (.int z), some (.int d), some (.int (md_cnt σ 64)), some (.int 16)] [] s5
                                        refine ⟨sp_in rfl rfl, ?_⟩
                                        rintro _ _ ⟨rfl, rfl⟩
                                        change ev_wp pg_F pg_lay none [] (ev_lu pg_c119) (fun _ => false) _ 1698 54 [some (.ref 6), some (.int l), some (.int z), some (.int d), some (.int (md_cnt σ 64)), some (.int 17)] [.int (s5.1 7 17)] s5
                                        refine ⟨fun (h25 : ((((s5.1 7 17) : Int32) >>> ((1 : Int32) &&& 31)) &&& 1) = 1) => ?_, fun (h25 : ¬ ((((s5.1 7 17) : Int32) >>> ((1 : Int32) &&& 31)) &&& 1) = 1) => ?_⟩
                                        · skip
                                          change ev_wp pg_F pg_lay none [] (ev_lu pg_c119) (fun _ => false) _ 1690 66 [some (.ref 6), some (.int l), some (.int z), some (.int d), some (.int (md_cnt σ 64)), some (.int 17)] [] s5
                                          refine ⟨sp_in rfl rfl, ?_⟩
                                          rintro _ _ ⟨rfl, rfl⟩
                                          change ev_wp pg_F pg_lay none [] (ev_lu pg_c119) (fun _ => false) _ 1682 54 [some (.ref 6), some (.int l), some (.int z), some (.int d), some (.int (md_cnt σ 64)), some (.int 18)] [.int (s5.1 7 17)] s5
                                          refine ⟨fun (h26 : ((((s5.1 7 17) : Int32) >>> ((2 : Int32) &&& 31)) &&& 1) = 1) => ?_, fun (h26 : ¬ ((((s5.1 7 17) : Int32) >>> ((2 : Int32) &&& 31)) &&& 1) = 1) => ?_⟩
                                          · skip
                                            change ev_wp pg_F pg_lay none [] (ev_lu pg_c119) (fun _ => false) _ 1674 66 [some (.ref 6), some (.int l), some (.int z), some (.int d), some (.int (md_cnt σ 64)), some (.int 18)] [] s5
                                            refine ⟨sp_in rfl rfl, ?_⟩
                                            rintro _ _ ⟨rfl, rfl⟩
                                            change ev_wp pg_F pg_lay none [] (ev_lu pg_c119) (fun _ => false) _ 1666 54 [some (.ref 6), some (.int l), some (.int z), some (.int d), some (.int (md_cnt σ 64)), some (.int 19)] [.int (s5.1 7 17)] s5
                                            refine ⟨fun (h27 : ((((s5.1 7 17) : Int32) >>> ((3 : Int32) &&& 31)) &&& 1) = 1) => ?_, fun (h27 : ¬ ((((s5.1 7 17) : Int32) >>> ((3 : Int32) &&& 31)) &&& 1) = 1) => ?_⟩
                                            · skip
                                              change ev_wp pg_F pg_lay none [] (ev_lu pg_c119) (fun _ => false) _ 1658 66 [some (.ref 6), some (.int l), some (.int z), some (.int d), some (.int (md_cnt σ 64)), some (.int 19)] [] s5
                                              refine ⟨sp_in rfl rfl, ?_⟩
                                              rintro _ _ ⟨rfl, rfl⟩
                                              change ev_wp pg_F pg_lay none [] (ev_lu pg_c119) (fun _ => false) _ 1650 54 [some (.ref 6), some (.int l), some (.int z), some (.int d), some (.int (md_cnt σ 64)), some (.int 20)] [.int (s5.1 7 17)] s5
                                              refine ⟨fun (h28 : ((((s5.1 7 17) : Int32) >>> ((4 : Int32) &&& 31)) &&& 1) = 1) => ?_, fun (h28 : ¬ ((((s5.1 7 17) : Int32) >>> ((4 : Int32) &&& 31)) &&& 1) = 1) => ?_⟩
                                              · skip
                                                change ev_wp pg_F pg_lay none [] (ev_lu pg_c119) (fun _ => false) _ 1642 66 [some (.ref 6), some (.int l), some (.int z), some (.int d), some (.int (md_cnt σ 64)), some (.int 20)] [] s5
                                                refine ⟨sp_in rfl rfl, ?_⟩
                                                rintro _ _ ⟨rfl, rfl⟩
                                                change ev_wp pg_F pg_lay none [] (ev_lu pg_c119) (fun _ => false) _ 1634 54 [some (.ref 6), some (.int l), some (.int z), some (.int d), some (.int (md_cnt σ 64)), some (.int 21)] [.int (s5.1 7 17)] s5
                                                refine ⟨fun (h29 : ((((s5.1 7 17) : Int32) >>> ((5 : Int32) &&& 31)) &&& 1) = 1) => ?_, fun (h29 : ¬ ((((s5.1 7 17) : Int32) >>> ((5 : Int32) &&& 31)) &&& 1) = 1) => ?_⟩
                                                · skip
                                                  change ev_wp pg_F pg_lay none [] (ev_lu pg_c119) (fun _ => false) _ 1626 66 [some (.ref 6), some (.int l), some (.int z), some (.int d), some (.int (md_cnt σ 64)), some (.int 21)] [] s5
                                                  refine ⟨sp_in rfl rfl, ?_⟩
                                                  rintro _ _ ⟨rfl, rfl⟩
                                                  change ev_wp pg_F pg_lay none [] (ev_lu pg_c119) (fun _ => false) _ 1618 54 [some (.ref 6), some (.int l), some (.int z), some (.int d), some (.int (md_cnt σ 64)), some (.int 22)] [.int (s5.1 7 17)] s5
                                                  refine ⟨fun (h30 : ((((s5.1 7 17) : Int32) >>> ((6 : Int32) &&& 31)) &&& 1) = 1) => ?_, fun (h30 : ¬ ((((s5.1 7 17) : Int32) >>> ((6 : Int32) &&& 31)) &&& 1) = 1) => ?_⟩
                                                  · skip
                                                    change ev_wp pg_F pg_lay none [] (ev_lu pg_c119) (fun _ => false) _ 1610 66 [some (.ref 6), some (.int l), some (.int z), some (.int d), some (.int (md_cnt σ 64)), some (.int 22)] [] s5
                                                    refine ⟨sp_in rfl rfl, ?_⟩
                                                    rintro _ _ ⟨rfl, rfl⟩
                                                    change ev_wp pg_F pg_lay none [] (ev_lu pg_c119) (fun _ => false) _ 1602 54 [some (.ref 6), some (.int l), some (.int z), some (.int d), some (.int (md_cnt σ 64)), some (.int 23)] [.int (s5.1 7 17)] s5
                                                    refine ⟨fun (h31 : ((((s5.1 7 17) : Int32) >>> ((7 : Int32) &&& 31)) &&& 1) = 1) => ?_, fun (h31 : ¬ ((((s5.1 7 17) : Int32) >>> ((7 : Int32) &&& 31)) &&& 1) = 1) => ?_⟩
                                                    · skip
                                                      change ev_wp pg_F pg_lay none [] (ev_lu pg_c119) (fun _ => false) _ 1594 66 [some (.ref 6), some (.int l), some (.int z), some (.int d), some (.int (md_cnt σ 64)), some (.int 23)] [] s5
                                                      refine ⟨sp_in rfl rfl, ?_⟩
                                                      rintro _ _ ⟨rfl, rfl⟩
                                                      change ev_wp pg_F pg_lay none [] (ev_lu pg_c119) (fun _ => false) _ 1586 54 [some (.ref 6), some (.int l), some (.int z), some (.int d), some (.int (md_cnt σ 64)), some (.int 24)] [.int (s5.1 7 17)] s5
                                                      refine ⟨fun (h32 : ((((s5.1 7 17) : Int32) >>> ((8 : Int32) &&& 31)) &&& 1) = 1) => ?_, fun (h32 : ¬ ((((s5.1 7 17) : Int32) >>> ((8 : Int32) &&& 31)) &&& 1) = 1) => ?_⟩
                                                      · skip
                                                        change ev_wp pg_F pg_lay none [] (ev_lu pg_c119) (fun _ => false) _ 1578 66 [some (.ref 6), some (.int l), some (.int z), some (.int d), some (.int (md_cnt σ 64)), some (.int 24)] [] s5
                                                        refine ⟨sp_in rfl rfl, ?_⟩
                                                        rintro _ _ ⟨rfl, rfl⟩
                                                        change ev_wp pg_F pg_lay none [] (ev_lu pg_c119) (fun _ => false) _ 1570 54 [some (.ref 6), some (.int l), some (.int z), some (.int d), some (.int (md_cnt σ 64)), some (.int 25)] [.int (s5.1 7 17)] s5
                                                        refine ⟨fun (h33 : ((((s5.1 7 17) : Int32) >>> ((9 : Int32) &&& 31)) &&& 1) = 1) => ?_, fun (h33 : ¬ ((((s5.1 7 17) : Int32) >>> ((9 : Int32) &&& 31)) &&& 1) = 1) => ?_⟩
                                                        · skip
                                                          change ev_wp pg_F pg_lay none [] (ev_lu pg_c119) (fun _ => false) _ 1562 66 [some (.ref 6), some (.int l), some (.int z), some (.int d), some (.int (md_cnt σ 64)), some (.int 25)] [] s5
                                                          refine ⟨sp_in rfl rfl, ?_⟩
                                                          rintro _ _ ⟨rfl, rfl⟩
                                                          change ev_wp pg_F pg_lay none [] (ev_lu pg_c119) (fun _ => false) _ 1554 54 [some (.ref 6), some (.int l), some (.int z), some (.int d), some (.int (md_cnt σ 64)), some (.int 26)] [.int (s5.1 7 17)] s5
                                                          refine ⟨fun (h34 : ((((s5.1 7 17) : Int32) >>> ((10 : Int32) &&& 31)) &&& 1) = 1) => ?_, fun (h34 : ¬ ((((s5.1 7 17) : Int32) >>> ((10 : Int32) &&& 31)) &&& 1) = 1) => ?_⟩
                                                          · skip
                                                            change ev_wp pg_F pg_lay none [] (ev_lu pg_c119) (fun _ => false) _ 1546 66 [some (.ref 6), some (.int l), some (.int z), some (.int d), some (.int (md_cnt σ 64)), some (.int 26)] [] s5
                                                            refine ⟨sp_in rfl rfl, ?_⟩
                                                            rintro _ _ ⟨rfl, rfl⟩
                                                            change ev_wp pg_F pg_lay none [] (ev_lu pg_c119) (fun _ => false) _ 1538 54 [some (.ref 6), some (.int l), some (.int z), some (.int d), some (.int (md_cnt σ 64)), some (.int 27)] [.int (s5.1 7 17)] s5
                                                            refine ⟨fun (h35 : ((((s5.1 7 17) : Int32) >>> ((11 : Int32) &&& 31)) &&& 1) = 1) => ?_, fun (h35 : ¬ ((((s5.1 7 17) : Int32) >>> ((11 : Int32) &&& 31)) &&& 1) = 1) => ?_⟩
                                                            · skip
                                                              change ev_wp pg_F pg_lay none [] (ev_lu pg_c119) (fun _ => false) _ 1530 66 [some (.ref 6), some (.int l), some (.int z), some (.int d), some (.int (md_cnt σ 64)), some (.int 27)] [] s5
                                                              refine ⟨sp_in rfl rfl, ?_⟩
                                                              rintro _ _ ⟨rfl, rfl⟩
                                                              change ev_wp pg_F pg_lay none [] (ev_lu pg_c119) (fun _ => false) _ 1522 54 [some (.ref 6), some (.int l), some (.int z), some (.int d), some (.int (md_cnt σ 64)), some (.int 28)] [.int (s5.1 7 17)] s5
                                                              refine ⟨fun (h36 : ((((s5.1 7 17) : Int32) >>> ((12 : Int32) &&& 31)) &&& 1) = 1) => ?_, fun (h36 : ¬ ((((s5.1 7 17) : Int32) >>> ((12 : Int32) &&& 31)) &&& 1) = 1) => ?_⟩
                                                              · skip
                                                                change ev_wp pg_F pg_lay none [] (ev_lu pg_c119) (fun _ => false) _ 1514 66 [some (.ref 6), some (.int l), some (.int z), some (.int d), some (.int (md_cnt σ 64)), some (.int 28)] [] s5
                                                                refine ⟨sp_in rfl rfl, ?_⟩
                                                                rintro _ _ ⟨rfl, rfl⟩
                                                                change ev_wp pg_F pg_lay none [] (ev_lu pg_c119) (fun _ => false) _ 1506 54 [some (.ref 6), some (.int l), some (.int z), some (.int d), some (.int (md_cnt σ 64)), some (.int 29)] [.int (s5.1 7 17)] s5
                                                                refine ⟨fun (h37 : ((((s5.1 7 17) : Int32) >>> ((13 : Int32) &&& 31)) &&& 1) = 1) => ?_, fun (h37 : ¬ ((((s5.1 7 17) : Int32) >>> ((13 : Int32) &&& 31)) &&& 1) = 1) => ?_⟩
                                                                · skip
                                                                  change ev_wp pg_F pg_lay none [] (ev_lu pg_c119) (fun _ => false) _ 1498 66 [some (.ref 6), some (.int l), some (.int z), some (.int d), some (.int (md_cnt σ 64)), some (.int 29)] [] s5
                                                                  refine ⟨sp_in rfl rfl, ?_⟩
                                                                  rintro _ _ ⟨rfl, rfl⟩
                                                                  change ev_wp pg_F pg_lay none [] (ev_lu pg_c119) (fun _ => false) _ 1490 54 [some (.ref 6), some (.int l), some (.int z), some (.int d), some (.int (md_cnt σ 64)), some (.int 30)] [.int (s5.1 7 17)] s5
                                                                  refine ⟨fun (h38 : ((((s5.1 7 17) : Int32) >>> ((14 : Int32) &&& 31)) &&& 1) = 1) => ?_, fun (h38 : ¬ ((((s5.1 7 17) : Int32) >>> ((14 : Int32) &&& 31)) &&& 1) = 1) => ?_⟩
                                                                  · skip
                                                                    change ev_wp pg_F pg_lay none [] (ev_lu pg_c119) (fun _ => false) _ 1482 66 [some (.ref 6), some (.int l), some (.int z), some (.int d), some (.int (md_cnt σ 64)), some (.int 30)] [] s5
                                                                    refine ⟨sp_in rfl rfl, ?_⟩
                                                                    rintro _ _ ⟨rfl, rfl⟩
                                                                    change ev_wp pg_F pg_lay none [] (ev_lu pg_c119) (fun _ => false) _ 1474 54 [some (.ref 6), some (.int l), some (.int z), some (.int d), some (.int (md_cnt σ 64)), some (.int 31)] [.int (s5.1 7 17)] s5
                                                                    refine ⟨fun (h39 : ((((s5.1 7 17) : Int32) >>> ((15 : Int32) &&& 31)) &&& 1) = 1) => ?_, fun (h39 : ¬ ((((s5.1 7 17) : Int32) >>> ((15 : Int32) &&& 31)) &&& 1) = 1) => ?_⟩
                                                                    · skip
                                                                      change ev_wp pg_F pg_lay none [] (ev_lu pg_c119) (fun _ => false) _ 1466 66 [some (.ref 6), some (.int l), some (.int z), some (.int d), some (.int (md_cnt σ 64)), some (.int 31)] [] s5
                                                                      refine ⟨sp_in rfl rfl, ?_⟩
                                                                      rintro _ _ ⟨rfl, rfl⟩
                                                                      change ev_wp pg_F pg_lay none [] (ev_lu pg_c119) (fun _ => false) _ 1458 54 [some (.ref 6), some (.int l), some (.int z), some (.int d), some (.int (md_cnt σ 64)), some (.int 32)] [.int (s5.1 7 18)] s5
                                                                      refine ⟨fun (h40 : ((((s5.1 7 18) : Int32) >>> ((0 : Int32) &&& 31)) &&& 1) = 1) => ?_, fun (h40 : ¬ ((((s5.1 7 18) : Int32) >>> ((0 : Int32) &&& 31)) &&& 1) = 1) => ?_⟩
                                                                      · skip
                                                                        change ev_wp pg_F pg_lay none [] (ev_lu pg_c119) (fun _ => false) _ 1450 66 [some (.ref 6), some (.int l), some (.int z), some (.int d), some (.int (md_cnt σ 64)), some (.int 32)] [] s5
                                                                        refine ⟨sp_in rfl rfl, ?_⟩
                                                                        rintro _ _ ⟨rfl, rfl⟩
                                                                        change ev_wp pg_F pg_lay none [] (ev_lu pg_c119) (fun _ => false) _ 1442 54 [some (.ref 6), some (.int l), some (.int z), some (.int d), some (.int (md_cnt σ 64)), some (.int 33)] [.int (s5.1 7 18)] s5
                                                                        refine ⟨fun (h41 : ((((s5.1 7 18) : Int32) >>> ((1 : Int32) &&& 31)) &&& 1) = 1) => ?_, fun (h41 : ¬ ((((s5.1 7 18) : Int32) >>> ((1 : Int32) &&& 31)) &&& 1) = 1) => ?_⟩
                                                                        · skip
                                                                          change ev_wp pg_F pg_lay none [] (ev_lu pg_c119) (fun _ => false) _ 1434 66 [some (.ref 6), some (.int l), some (.int z), some (.int d), some (.int (md_cnt σ 64)), some (.int 33)] [] s5
                                                                          refine ⟨sp_in rfl rfl, ?_⟩
                                                                          rintro _ _ ⟨rfl, rfl⟩
                                                                          change ev_wp pg_F pg_lay none [] (ev_lu pg_c119) (fun _ => false) _ 1426 54 [some (.ref 6), some (.int l), some (.int z), some (.int d), some (.int (md_cnt σ 64)), some (.int 34)] [.int (s5.1 7 18)] s5
                                                                          refine ⟨fun (h42 : ((((s5.1 7 18) : Int32) >>> ((2 : Int32) &&& 31)) &&& 1) = 1) => ?_, fun (h42 : ¬ ((((s5.1 7 18) : Int32) >>> ((2 : Int32) &&& 31)) &&& 1) = 1) => ?_⟩
                                                                          · skip
                                                                            change ev_wp pg_F pg_lay none [] (ev_lu pg_c119) (fun _ => false) _ 1418 66 [some (.ref 6), some (.int l), some (.int z), some (.int d), some (.int (md_cnt σ 64)), some (.int 34)] [] s5
                                                                            refine ⟨sp_in rfl rfl, ?_⟩
                                                                            rintro _ _ ⟨rfl, rfl⟩
                                                                            change ev_wp pg_F pg_lay none [] (ev_lu pg_c119) (fun _ => false) _ 1410 54 [some (.ref 6), some (.int l), some (.int z), some (.int d), some (.int (md_cnt σ 64)), some (.int 35)] [.int (s5.1 7 18)] s5
                                                                            refine ⟨fun (h43 : ((((s5.1 7 18) : Int32) >>> ((3 : Int32) &&& 31)) &&& 1) = 1) => ?_, fun (h43 : ¬ ((((s5.1 7 18) : Int32) >>> ((3 : Int32) &&& 31)) &&& 1) = 1) => ?_⟩
                                                                            · skip
                                                                              change ev_wp pg_F pg_lay none [] (ev_lu pg_c119) (fun _ => false) _ 1402 66 [some (.ref 6), some (.int l), some (.int z), some (.int d), some (.int (md_cnt σ 64)), some (.int 35)] [] s5
                                                                              refine ⟨sp_in rfl rfl, ?_⟩
                                                                              rintro _ _ ⟨rfl, rfl⟩
                                                                              change ev_wp pg_F pg_lay none [] (ev_lu pg_c119) (fun _ => false) _ 1394 54 [some (.ref 6), some (.int l), some (.int z), some (.int d), some (.int (md_cnt σ 64)), some (.int 36)] [.int (s5.1 7 18)] s5
                                                                              refine ⟨fun (h44 : ((((s5.1 7 18) : Int32) >>> ((4 : Int32) &&& 31)) &&& 1) = 1) => ?_, fun (h44 : ¬ ((((s5.1 7 18) : Int32) >>> ((4 : Int32) &&& 31)) &&& 1) = 1) => ?_⟩
                                                                              · skip
                                                                                change ev_wp pg_F pg_lay none [] (ev_lu pg_c119) (fun _ => false) _ 1386 66 [some (.ref 6), some (.int l), some (.int z), some (.int d), some (.int (md_cnt σ 64)), some (.int 36)] [] s5
                                                                                refine ⟨sp_in rfl rfl, ?_⟩
                                                                                rintro _ _ ⟨rfl, rfl⟩
                                                                                change ev_wp pg_F pg_lay none [] (ev_lu pg_c119) (fun _ => false) _ 1378 54 [some (.ref 6), some (.int l), some (.int z), some (.int d), some (.int (md_cnt σ 64)), some (.int 37)] [.int (s5.1 7 18)] s5
                                                                                refine ⟨fun (h45 : ((((s5.1 7 18) : Int32) >>> ((5 : Int32) &&& 31)) &&& 1) = 1) => ?_, fun (h45 : ¬ ((((s5.1 7 18) : Int32) >>> ((5 : Int32) &&& 31)) &&& 1) = 1) => ?_⟩
                                                                                · skip
                                                                                  change ev_wp pg_F pg_lay none [] (ev_lu pg_c119) (fun _ => false) _ 1370 66 [some (.ref 6), some (.int l), some (.int z), some (.int d), some (.int (md_cnt σ 64)), some (.int 37)] [] s5
                                                                                  refine ⟨sp_in rfl rfl, ?_⟩
                                                                                  rintro _ _ ⟨rfl, rfl⟩
                                                                                  change ev_wp pg_F pg_lay none [] (ev_lu pg_c119) (fun _ => false) _ 1362 54 [some (.ref 6), some (.int l), some (.int z), some (.int d), some (.int (md_cnt σ 64)), some (.int 38)] [.int (s5.1 7 18)] s5
                                                                                  refine ⟨fun (h46 : ((((s5.1 7 18) : Int32) >>> ((6 : Int32) &&& 31)) &&& 1) = 1) => ?_, fun (h46 : ¬ ((((s5.1 7 18) : Int32) >>> ((6 : Int32) &&& 31)) &&& 1) = 1) => ?_⟩
                                                                                  · skip
                                                                                    change ev_wp pg_F pg_lay none [] (ev_lu pg_c119) (fun _ => false) _ 1354 66 [some (.ref 6), some (.int l), some (.int z), some (.int d), some (.int (md_cnt σ 64)), some (.int 38)] [] s5
                                                                                    refine ⟨sp_in rfl rfl, ?_⟩
                                                                                    rintro _ _ ⟨rfl, rfl⟩
                                                                                    change ev_wp pg_F pg_lay none [] (ev_lu pg_c119) (fun _ => false) _ 1346 54 [some (.ref 6), some (.int l), some (.int z), some (.int d), some (.int (md_cnt σ 64)), some (.int 39)] [.int (s5.1 7 18)] s5
                                                                                    refine ⟨fun (h47 : ((((s5.1 7 18) : Int32) >>> ((7 : Int32) &&& 31)) &&& 1) = 1) => ?_, fun (h47 : ¬ ((((s5.1 7 18) : Int32) >>> ((7 : Int32) &&& 31)) &&& 1) = 1) => ?_⟩
                                                                                    · skip
                                                                                      change ev_wp pg_F pg_lay none [] (ev_lu pg_c119) (fun _ => false) _ 1338 66 [some (.ref 6), some (.int l), some (.int z), some (.int d), some (.int (md_cnt σ 64)), some (.int 39)] [] s5
                                                                                      refine ⟨sp_in rfl rfl, ?_⟩
                                                                                      rintro _ _ ⟨rfl, rfl⟩
                                                                                      change ev_wp pg_F pg_lay none [] (ev_lu pg_c119) (fun _ => false) _ 1330 54 [some (.ref 6), some (.int l), some (.int z), some (.int d), some (.int (md_cnt σ 64)), some (.int 40)] [.int (s5.1 7 18)] s5
                                                                                      refine ⟨fun (h48 : ((((s5.1 7 18) : Int32) >>> ((8 : Int32) &&& 31)) &&& 1) = 1) => ?_, fun (h48 : ¬ ((((s5.1 7 18) : Int32) >>> ((8 : Int32) &&& 31)) &&& 1) = 1) => ?_⟩
                                                                                      · skip
                                                                                        change ev_wp pg_F pg_lay none [] (ev_lu pg_c119) (fun _ => false) _ 1322 66 [some (.ref 6), some (.int l), some (.int z), some (.int d), some (.int (md_cnt σ 64)), some (.int 40)] [] s5
                                                                                        refine ⟨sp_in rfl rfl, ?_⟩
                                                                                        rintro _ _ ⟨rfl, rfl⟩
                                                                                        change ev_wp pg_F pg_lay none [] (ev_lu pg_c119) (fun _ => false) _ 1314 54 [some (.ref 6), some (.int l), some (.int z), some (.int d), some (.int (md_cnt σ 64)), some (.int 41)] [.int (s5.1 7 18)] s5
                                                                                        refine ⟨fun (h49 : ((((s5.1 7 18) : Int32) >>> ((9 : Int32) &&& 31)) &&& 1) = 1) => ?_, fun (h49 : ¬ ((((s5.1 7 18) : Int32) >>> ((9 : Int32) &&& 31)) &&& 1) = 1) => ?_⟩
                                                                                        · skip
                                                                                          change ev_wp pg_F pg_lay none [] (ev_lu pg_c119) (fun _ => false) _ 1306 66 [some (.ref 6), some (.int l), some (.int z), some (.int d), some (.int (md_cnt σ 64)), some (.int 41)] [] s5
                                                                                          refine ⟨sp_in rfl rfl, ?_⟩
                                                                                          rintro _ _ ⟨rfl, rfl⟩
                                                                                          change ev_wp pg_F pg_lay none [] (ev_lu pg_c119) (fun _ => false) _ 1298 54 [some (.ref 6), some (.int l), some (.int z), some (.int d), some (.int (md_cnt σ 64)), some (.int 42)] [.int (s5.1 7 18)] s5
                                                                                          refine ⟨fun (h50 : ((((s5.1 7 18) : Int32) >>> ((10 : Int32) &&& 31)) &&& 1) = 1) => ?_, fun (h50 : ¬ ((((s5.1 7 18) : Int32) >>> ((10 : Int32) &&& 31)) &&& 1) = 1) => ?_⟩
                                                                                          · skip
                                                                                            change ev_wp pg_F pg_lay none [] (ev_lu pg_c119) (fun _ => false) _ 1290 66 [some (.ref 6), some (.int l), some (.int z), some (.int d), some (.int (md_cnt σ 64)), some (.int 42)] [] s5
                                                                                            refine ⟨sp_in rfl rfl, ?_⟩
                                                                                            rintro _ _ ⟨rfl, rfl⟩
                                                                                            change ev_wp pg_F pg_lay none [] (ev_lu pg_c119) (fun _ => false) _ 1282 54 [some (.ref 6), some (.int l), some (.int z), some (.int d), some (.int (md_cnt σ 64)), some (.int 43)] [.int (s5.1 7 18)] s5
                                                                                            refine ⟨fun (h51 : ((((s5.1 7 18) : Int32) >>> ((11 : Int32) &&& 31)) &&& 1) = 1) => ?_, fun (h51 : ¬ ((((s5.1 7 18) : Int32) >>> ((11 : Int32) &&& 31)) &&& 1) = 1) => ?_⟩
                                                                                            · skip
                                                                                              change ev_wp pg_F pg_lay none [] (ev_lu pg_c119) (fun _ => false) _ 1274 66 [some (.ref 6), some (.int l), some (.int z), some (.int d), some (.int (md_cnt σ 64)), some (.int 43)] [] s5
                                                                                              refine ⟨sp_in rfl rfl, ?_⟩
                                                                                              rintro _ _ ⟨rfl, rfl⟩
                                                                                              change ev_wp pg_F pg_lay none [] (ev_lu pg_c119) (fun _ => false) _ 1266 54 [some (.ref 6), some (.int l), some (.int z), some (.int d), some (.int (md_cnt σ 64)), some (.int 44)] [.int (s5.1 7 18)] s5
                                                                                              refine ⟨fun (h52 : ((((s5.1 7 18) : Int32) >>> ((12 : Int32) &&& 31)) &&& 1) = 1) => ?_, fun (h52 : ¬ ((((s5.1 7 18) : Int32) >>> ((12 : Int32) &&& 31)) &&& 1) = 1) => ?_⟩
                                                                                              · skip
                                                                                                change ev_wp pg_F pg_lay none [] (ev_lu pg_c119) (fun _ => false) _ 1258 66 [some (.ref 6), some (.int l), some (.int z), some (.int d), some (.int (md_cnt σ 64)), some (.int 44)] [] s5
                                                                                                refine ⟨sp_in rfl rfl, ?_⟩
                                                                                                rintro _ _ ⟨rfl, rfl⟩
                                                                                                change ev_wp pg_F pg_lay none [] (ev_lu pg_c119) (fun _ => false) _ 1250 54 [some (.ref 6), some (.int l), some (.int z), some (.int d), some (.int (md_cnt σ 64)), some (.int 45)] [.int (s5.1 7 18)] s5
                                                                                                refine ⟨fun (h53 : ((((s5.1 7 18) : Int32) >>> ((13 : Int32) &&& 31)) &&& 1) = 1) => ?_, fun (h53 : ¬ ((((s5.1 7 18) : Int32) >>> ((13 : Int32) &&& 31)) &&& 1) = 1) => ?_⟩
                                                                                                · skip
                                                                                                  change ev_wp pg_F pg_lay none [] (ev_lu pg_c119) (fun _ => false) _ 1242 66 [some (.ref 6), some (.int l), some (.int z), some (.int d), some (.int (md_cnt σ 64)), some (.int 45)] [] s5
                                                                                                  refine ⟨sp_in rfl rfl, ?_⟩
                                                                                                  rintro _ _ ⟨rfl, rfl⟩
                                                                                                  change ev_wp pg_F pg_lay none [] (ev_lu pg_c119) (fun _ => false) _ 1234 54 [some (.ref 6), some (.int l), some (.int z), some (.int d), some (.int (md_cnt σ 64)), some (.int 46)] [.int (s5.1 7 18)] s5
                                                                                                  refine ⟨fun (h54 : ((((s5.1 7 18) : Int32) >>> ((14 : Int32) &&& 31)) &&& 1) = 1) => ?_, fun (h54 : ¬ ((((s5.1 7 18) : Int32) >>> ((14 : Int32) &&& 31)) &&& 1) = 1) => ?_⟩
                                                                                                  · skip
                                                                                                    change ev_wp pg_F pg_lay none [] (ev_lu pg_c119) (fun _ => false) _ 1226 66 [some (.ref 6), some (.int l), some (.int z), some (.int d), some (.int (md_cnt σ 64)), some (.int 46)] [] s5
                                                                                                    refine ⟨sp_in rfl rfl, ?_⟩
                                                                                                    rintro _ _ ⟨rfl, rfl⟩
                                                                                                    change ev_wp pg_F pg_lay none [] (ev_lu pg_c119) (fun _ => false) _ 1218 54 [some (.ref 6), some (.int l), some (.int z), some (.int d), some (.int (md_cnt σ 64)), some (.int 47)] [.int (s5.1 7 18)] s5
                                                                                                    refine ⟨fun (h55 : ((((s5.1 7 18) : Int32) >>> ((15 : Int32) &&& 31)) &&& 1) = 1) => ?_, fun (h55 : ¬ ((((s5.1 7 18) : Int32) >>> ((15 : Int32) &&& 31)) &&& 1) = 1) => ?_⟩
                                                                                                    · skip
                                                                                                      change ev_wp pg_F pg_lay none [] (ev_lu pg_c119) (fun _ => false) _ 1210 66 [some (.ref 6), some (.int l), some (.int z), some (.int d), some (.int (md_cnt σ 64)), some (.int 47)] [] s5
                                                                                                      refine ⟨sp_in rfl rfl, ?_⟩
                                                                                                      rintro _ _ ⟨rfl, rfl⟩
                                                                                                      change ev_wp pg_F pg_lay none [] (ev_lu pg_c119) (fun _ => false) _ 1202 54 [some (.ref 6), some (.int l), some (.int z), some (.int d), some (.int (md_cnt σ 64)), some (.int 48)] [.int (s5.1 7 19)] s5
                                                                                                      refine ⟨fun (h56 : ((((s5.1 7 19) : Int32) >>> ((0 : Int32) &&& 31)) &&& 1) = 1) => ?_, fun (h56 : ¬ ((((s5.1 7 19) : Int32) >>> ((0 : Int32) &&& 31)) &&& 1) = 1) => ?_⟩
                                                                                                      · skip
                                                                                                        change ev_wp pg_F pg_lay none [] (ev_lu pg_c119) (fun _ => false) _ 1194 66 [some (.ref 6), some (.int l), some (.int z), some (.int d), some (.int (md_cnt σ 64)), some (.int 48)] [] s5
                                                                                                        refine ⟨sp_in rfl rfl, ?_⟩
                                                                                                        rintro _ _ ⟨rfl, rfl⟩
                                                                                                        change ev_wp pg_F pg_lay none [] (ev_lu pg_c119) (fun _ => false) _ 1186 54 [some (.ref 6), some (.int l), some (.int z), some (.int d), some (.int (md_cnt σ 64)), some (.int 49)] [.int (s5.1 7 19)] s5
                                                                                                        refine ⟨fun (h57 : ((((s5.1 7 19) : Int32) >>> ((1 : Int32) &&& 31)) &&& 1) = 1) => ?_, fun (h57 : ¬ ((((s5.1 7 19) : Int32) >>> ((1 : Int32) &&& 31)) &&& 1) = 1) => ?_⟩
                                                                                                        · skip
                                                                                                          change ev_wp pg_F pg_lay none [] (ev_lu pg_c119) (fun _ => false) _ 1178 66 [some (.ref 6), some (.int l), some (.int z), some (.int d), some (.int (md_cnt σ 64)), some (.int 49)] [] s5
                                                                                                          refine ⟨sp_in rfl rfl, ?_⟩
                                                                                                          rintro _ _ ⟨rfl, rfl⟩
                                                                                                          change ev_wp pg_F pg_lay none [] (ev_lu pg_c119) (fun _ => false) _ 1170 54 [some (.ref 6), some (.int l), some (.int z), some (.int d), some (.int (md_cnt σ 64)), some (.int 50)] [.int (s5.1 7 19)] s5
                                                                                                          refine ⟨fun (h58 : ((((s5.1 7 19) : Int32) >>> ((2 : Int32) &&& 31)) &&& 1) = 1) => ?_, fun (h58 : ¬ ((((s5.1 7 19) : Int32) >>> ((2 : Int32) &&& 31)) &&& 1) = 1) => ?_⟩
                                                                                                          · skip
                                                                                                            change ev_wp pg_F pg_lay none [] (ev_lu pg_c119) (fun _ => false) _ 1162 66 [some (.ref 6), some (.int l), some (.int z), some (.int d), some (.int (md_cnt σ 64)), some (.int 50)] [] s5
                                                                                                            refine ⟨sp_in rfl rfl, ?_⟩
                                                                                                            rintro _ _ ⟨rfl, rfl⟩
                                                                                                            change ev_wp pg_F pg_lay none [] (ev_lu pg_c119) (fun _ => false) _ 1154 54 [some (.ref 6), some (.int l), some (.int z), some (.int d), some (.int (md_cnt σ 64)), some (.int 51)] [.int (s5.1 7 19)] s5
                                                                                                            refine ⟨fun (h59 : ((((s5.1 7 19) : Int32) >>> ((3 : Int32) &&& 31)) &&& 1) = 1) => ?_, fun (h59 : ¬ ((((s5.1 7 19) : Int32) >>> ((3 : Int32) &&& 31)) &&& 1) = 1) => ?_⟩
                                                                                                            · skip
                                                                                                              change ev_wp pg_F pg_lay none [] (ev_lu pg_c119) (fun _ => false) _ 1146 66 [some (.ref 6), some (.int l), some (.int z), some (.int d), some (.int (md_cnt σ 64)), some (.int 51)] [] s5
                                                                                                              refine ⟨sp_in rfl rfl, ?_⟩
                                                                                                              rintro _ _ ⟨rfl, rfl⟩
                                                                                                              change ev_wp pg_F pg_lay none [] (ev_lu pg_c119) (fun _ => false) _ 1138 54 [some (.ref 6), some (.int l), some (.int z), some (.int d), some (.int (md_cnt σ 64)), some (.int 52)] [.int (s5.1 7 19)] s5
                                                                                                              refine ⟨fun (h60 : ((((s5.1 7 19) : Int32) >>> ((4 : Int32) &&& 31)) &&& 1) = 1) => ?_, fun (h60 : ¬ ((((s5.1 7 19) : Int32) >>> ((4 : Int32) &&& 31)) &&& 1) = 1) => ?_⟩
                                                                                                              · skip
                                                                                                                change ev_wp pg_F pg_lay none [] (ev_lu pg_c119) (fun _ => false) _ 1130 66 [some (.ref 6), some (.int l), some (.int z), some (.int d), some (.int (md_cnt σ 64)), some (.int 52)] [] s5
                                                                                                                refine ⟨sp_in rfl rfl, ?_⟩
                                                                                                                rintro _ _ ⟨rfl, rfl⟩
                                                                                                                change ev_wp pg_F pg_lay none [] (ev_lu pg_c119) (fun _ => false) _ 1122 54 [some (.ref 6), some (.int l), some (.int z), some (.int d), some (.int (md_cnt σ 64)), some (.int 53)] [.int (s5.1 7 19)] s5
                                                                                                                refine ⟨fun (h61 : ((((s5.1 7 19) : Int32) >>> ((5 : Int32) &&& 31)) &&& 1) = 1) => ?_, fun (h61 : ¬ ((((s5.1 7 19) : Int32) >>> ((5 : Int32) &&& 31)) &&& 1) = 1) => ?_⟩
                                                                                                                · skip
                                                                                                                  change ev_wp pg_F pg_lay none [] (ev_lu pg_c119) (fun _ => false) _ 1114 66 [some (.ref 6), some (.int l), some (.int z), some (.int d), some (.int (md_cnt σ 64)), some (.int 53)] [] s5
                                                                                                                  refine ⟨sp_in rfl rfl, ?_⟩
                                                                                                                  rintro _ _ ⟨rfl, rfl⟩
                                                                                                                  change ev_wp pg_F pg_lay none [] (ev_lu pg_c119) (fun _ => false) _ 1106 54 [some (.ref 6), some (.int l), some (.int z), some (.int d), some (.int (md_cnt σ 64)), some (.int 54)] [.int (s5.1 7 19)] s5
                                                                                                                  refine ⟨fun (h62 : ((((s5.1 7 19) : Int32) >>> ((6 : Int32) &&& 31)) &&& 1) = 1) => ?_, fun (h62 : ¬ ((((s5.1 7 19) : Int32) >>> ((6 : Int32) &&& 31)) &&& 1) = 1) => ?_⟩
                                                                                                                  · skip
                                                                                                                    change ev_wp pg_F pg_lay none [] (ev_lu pg_c119) (fun _ => false) _ 1098 66 [some (.ref 6), some (.int l), some (.int z), some (.int d), some (.int (md_cnt σ 64)), some (.int 54)] [] s5
                                                                                                                    refine ⟨sp_in rfl rfl, ?_⟩
                                                                                                                    rintro _ _ ⟨rfl, rfl⟩
                                                                                                                    change ev_wp pg_F pg_lay none [] (ev_lu pg_c119) (fun _ => false) _ 1090 54 [some (.ref 6), some (.int l), some (.int z), some (.int d), some (.int (md_cnt σ 64)), some (.int 55)] [.int (s5.1 7 19)] s5
                                                                                                                    refine ⟨fun (h63 : ((((s5.1 7 19) : Int32) >>> ((7 : Int32) &&& 31)) &&& 1) = 1) => ?_, fun (h63 : ¬ ((((s5.1 7 19) : Int32) >>> ((7 : Int32) &&& 31)) &&& 1) = 1) => ?_⟩
                                                                                                                    · skip
                                                                                                                      change ev_wp pg_F pg_lay none [] (ev_lu pg_c119) (fun _ => false) _ 1082 66 [some (.ref 6), some (.int l), some (.int z), some (.int d), some (.int (md_cnt σ 64)), some (.int 55)] [] s5
                                                                                                                      refine ⟨sp_in rfl rfl, ?_⟩
                                                                                                                      rintro _ _ ⟨rfl, rfl⟩
                                                                                                                      change ev_wp pg_F pg_lay none [] (ev_lu pg_c119) (fun _ => false) _ 1074 54 [some (.ref 6), some (.int l), some (.int z), some (.int d), some (.int (md_cnt σ 64)), some (.int 56)] [.int (s5.1 7 19)] s5
                                                                                                                      refine ⟨fun (h64 : ((((s5.1 7 19) : Int32) >>> ((8 : Int32) &&& 31)) &&& 1) = 1) => ?_, fun (h64 : ¬ ((((s5.1 7 19) : Int32) >>> ((8 : Int32) &&& 31)) &&& 1) = 1) => ?_⟩
                                                                                                                      · skip
                                                                                                                        change ev_wp pg_F pg_lay none [] (ev_lu pg_c119) (fun _ => false) _ 1066 66 [some (.ref 6), some (.int l), some (.int z), some (.int d), some (.int (md_cnt σ 64)), some (.int 56)] [] s5
                                                                                                                        refine ⟨sp_in rfl rfl, ?_⟩
                                                                                                                        rintro _ _ ⟨rfl, rfl⟩
                                                                                                                        change ev_wp pg_F pg_lay none [] (ev_lu pg_c119) (fun _ => false) _ 1058 54 [some (.ref 6), some (.int l), some (.int z), some (.int d), some (.int (md_cnt σ 64)), some (.int 57)] [.int (s5.1 7 19)] s5
                                                                                                                        refine ⟨fun (h65 : ((((s5.1 7 19) : Int32) >>> ((9 : Int32) &&& 31)) &&& 1) = 1) => ?_, fun (h65 : ¬ ((((s5.1 7 19) : Int32) >>> ((9 : Int32) &&& 31)) &&& 1) = 1) => ?_⟩
                                                                                                                        · skip
                                                                                                                          change ev_wp pg_F pg_lay none [] (ev_lu pg_c119) (fun _ => false) _ 1050 66 [some (.ref 6), some (.int l), some (.int z), some (.int d), some (.int (md_cnt σ 64)), some (.int 57)] [] s5
                                                                                                                          refine ⟨sp_in rfl rfl, ?_⟩
                                                                                                                          rintro _ _ ⟨rfl, rfl⟩
                                                                                                                          change ev_wp pg_F pg_lay none [] (ev_lu pg_c119) (fun _ => false) _ 1042 54 [some (.ref 6), some (.int l), some (.int z), some (.int d), some (.int (md_cnt σ 64)), some (.int 58)] [.int (s5.1 7 19)] s5
                                                                                                                          refine ⟨fun (h66 : ((((s5.1 7 19) : Int32) >>> ((10 : Int32) &&& 31)) &&& 1) = 1) => ?_, fun (h66 : ¬ ((((s5.1 7 19) : Int32) >>> ((10 : Int32) &&& 31)) &&& 1) = 1) => ?_⟩
                                                                                                                          · skip
                                                                                                                            change ev_wp pg_F pg_lay none [] (ev_lu pg_c119) (fun _ => false) _ 1034 66 [some (.ref 6), some (.int l), some (.int z), some (.int d), some (.int (md_cnt σ 64)), some (.int 58)] [] s5
                                                                                                                            refine ⟨sp_in rfl rfl, ?_⟩
                                                                                                                            rintro _ _ ⟨rfl, rfl⟩
                                                                                                                            change ev_wp pg_F pg_lay none [] (ev_lu pg_c119) (fun _ => false) _ 1026 54 [some (.ref 6), some (.int l), some (.int z), some (.int d), some (.int (md_cnt σ 64)), some (.int 59)] [.int (s5.1 7 19)] s5
                                                                                                                            refine ⟨fun (h67 : ((((s5.1 7 19) : Int32) >>> ((11 : Int32) &&& 31)) &&& 1) = 1) => ?_, fun (h67 : ¬ ((((s5.1 7 19) : Int32) >>> ((11 : Int32) &&& 31)) &&& 1) = 1) => ?_⟩
                                                                                                                            · skip
                                                                                                                              change ev_wp pg_F pg_lay none [] (ev_lu pg_c119) (fun _ => false) _ 1018 66 [some (.ref 6), some (.int l), some (.int z), some (.int d), some (.int (md_cnt σ 64)), some (.int 59)] [] s5
                                                                                                                              refine ⟨sp_in rfl rfl, ?_⟩
                                                                                                                              rintro _ _ ⟨rfl, rfl⟩
                                                                                                                              change ev_wp pg_F pg_lay none [] (ev_lu pg_c119) (fun _ => false) _ 1010 54 [some (.ref 6), some (.int l), some (.int z), some (.int d), some (.int (md_cnt σ 64)), some (.int 60)] [.int (s5.1 7 19)] s5
                                                                                                                              refine ⟨fun (h68 : ((((s5.1 7 19) : Int32) >>> ((12 : Int32) &&& 31)) &&& 1) = 1) => ?_, fun (h68 : ¬ ((((s5.1 7 19) : Int32) >>> ((12 : Int32) &&& 31)) &&& 1) = 1) => ?_⟩
                                                                                                                              · skip
                                                                                                                                change ev_wp pg_F pg_lay none [] (ev_lu pg_c119) (fun _ => false) _ 1002 66 [some (.ref 6), some (.int l), some (.int z), some (.int d), some (.int (md_cnt σ 64)), some (.int 60)] [] s5
                                                                                                                                refine ⟨sp_in rfl rfl, ?_⟩
                                                                                                                                rintro _ _ ⟨rfl, rfl⟩
                                                                                                                                change ev_wp pg_F pg_lay none [] (ev_lu pg_c119) (fun _ => false) _ 994 54 [some (.ref 6), some (.int l), some (.int z), some (.int d), some (.int (md_cnt σ 64)), some (.int 61)] [.int (s5.1 7 19)] s5
                                                                                                                                refine ⟨fun (h69 : ((((s5.1 7 19) : Int32) >>> ((13 : Int32) &&& 31)) &&& 1) = 1) => ?_, fun (h69 : ¬ ((((s5.1 7 19) : Int32) >>> ((13 : Int32) &&& 31)) &&& 1) = 1) => ?_⟩
                                                                                                                                · skip
                                                                                                                                  change ev_wp pg_F pg_lay none [] (ev_lu pg_c119) (fun _ => false) _ 986 66 [some (.ref 6), some (.int l), some (.int z), some (.int d), some (.int (md_cnt σ 64)), some (.int 61)] [] s5
                                                                                                                                  refine ⟨sp_in rfl rfl, ?_⟩
                                                                                                                                  rintro _ _ ⟨rfl, rfl⟩
                                                                                                                                  change ev_wp pg_F pg_lay none [] (ev_lu pg_c119) (fun _ => false) _ 978 54 [some (.ref 6), some (.int l), some (.int z), some (.int d), some (.int (md_cnt σ 64)), some (.int 62)] [.int (s5.1 7 19)] s5
                                                                                                                                  refine ⟨fun (h70 : ((((s5.1 7 19) : Int32) >>> ((14 : Int32) &&& 31)) &&& 1) = 1) => ?_, fun (h70 : ¬ ((((s5.1 7 19) : Int32) >>> ((14 : Int32) &&& 31)) &&& 1) = 1) => ?_⟩
                                                                                                                                  · skip
                                                                                                                                    change ev_wp pg_F pg_lay none [] (ev_lu pg_c119) (fun _ => false) _ 970 66 [some (.ref 6), some (.int l), some (.int z), some (.int d), some (.int (md_cnt σ 64)), some (.int 62)] [] s5
                                                                                                                                    refine ⟨sp_in rfl rfl, ?_⟩
                                                                                                                                    rintro _ _ ⟨rfl, rfl⟩
                                                                                                                                    change ev_wp pg_F pg_lay none [] (ev_lu pg_c119) (fun _ => false) _ 962 54 [some (.ref 6), some (.int l), some (.int z), some (.int d), some (.int (md_cnt σ 64)), some (.int 63)] [.int (s5.1 7 19)] s5
                                                                                                                                    refine ⟨fun (h71 : ((((s5.1 7 19) : Int32) >>> ((15 : Int32) &&& 31)) &&& 1) = 1) => ?_, fun (h71 : ¬ ((((s5.1 7 19) : Int32) >>> ((15 : Int32) &&& 31)) &&& 1) = 1) => ?_⟩
                                                                                                                                    · exact ((md_full hp.1.2.2.2.2 hp.2.2 (md_nle h1) (md_bits64 (fun i hi => (k4.2.1 i (by omega)).symm) h8 h9 h10 h11 h12 h13 h14 h15 h16 h17 h18 h19 h20 h21 h22 h23 h24 h25 h26 h27 h28 h29 h30 h31 h32 h33 h34 h35 h36 h37 h38 h39 h40 h41 h42 h43 h44 h45 h46 h47 h48 h49 h50 h51 h52 h53 h54 h55 h56 h57 h58 h59 h60 h61 h62 h63 h64 h65 h66 h67 h68 h69 h70 h71))).elim
                                                                                                                                    · skip
                                                                                                                                      change ev_wp pg_F pg_lay none [] (ev_lu pg_c119) (fun _ => false) _ 954 72 [some (.ref 6), some (.int l), some (.int z), some (.int d), some (.int (md_cnt σ 64)), some (.int 63)] [] s5
                                                                                                                                      refine ⟨sp_in rfl rfl, ?_⟩
                                                                                                                                      rintro _ _ ⟨rfl, rfl⟩
                                                                                                                                      change ev_wp pg_F pg_lay none [] (ev_lu pg_c119) (fun _ => false) _ 943 89 [some (.ref 6), some (.int l), some (.int z), some (.int d), some (.int (md_cnt σ 64)), some (.int 63)] [.int (s5.1 7 19), .int 3, .int 4, .ref 6] s5
                                                                                                                                      refine ⟨sp_in rfl rfl, ?_⟩
                                                                                                                                      rintro _ s73 ⟨k72, rfl⟩
                                                                                                                                      have rt76 : s73.1 6 10 = 0 → md_right s73 41 ∨ md_right s73 43 := fun h => ((fun h => (k4.2.2.1 h).2) (k72.2.2.2.2.2.2.1 h).1).imp (md_right_of (fun i h1 h2 => k72.2.2.1 i (fun e => absurd (e ▸ h1) (by decide +kernel)))) (md_right_of (fun i h1 h2 => k72.2.2.1 i (fun e => absurd (e ▸ h1) (by decide +kernel))))
                                                                                                                                      have r74 := r6.tr (k72.m (by decide +kernel) (fun h => absurd h (by decide +kernel)))
                                                                                                                                      have i75 := (k72.m (by decide +kernel) (fun h => absurd h (by decide +kernel))).2.2 i7
                                                                                                                                      change ev_wp pg_F pg_lay none [] (ev_lu pg_c119) (fun _ => false) _ 936 100 [some (.ref 6), some (.int l), some (.int z), some (.int d), some (.int (md_cnt σ 64)), some (.int 63)] [] s73
                                                                                                                                      refine ⟨⟨i75, rt76⟩, ?_⟩
                                                                                                                                      rintro _ s79 ⟨v77, k78, rfl⟩
                                                                                                                                      have r80 := r74.tr k78
                                                                                                                                      have i81 := k78.2.2 i75
                                                                                                                                      exact ⟨_, rfl, Nat.le_of_eq (congrArg Prod.snd r80.2.1), _, r80, rfl⟩
                                                                                                                                  · skip
                                                                                                                                    change ev_wp pg_F pg_lay none [] (ev_lu pg_c119) (fun _ => false) _ 970 72 [some (.ref 6), some (.int l), some (.int z), some (.int d), some (.int (md_cnt σ 64)), some (.int 62)] [] s5
                                                                                                                                    refine ⟨sp_in rfl rfl, ?_⟩
                                                                                                                                    rintro _ _ ⟨rfl, rfl⟩
                                                                                                                                    change ev_wp pg_F pg_lay none [] (ev_lu pg_c119) (fun _ => false) _ 959 89 [some (.ref 6), some (.int l), some (.int z), some (.int d), some (.int (md_cnt σ 64)), some (.int 62)] [.int (s5.1 7 19), .int 3, .int 4, .ref 6] s5
                                                                                                                                    refine ⟨sp_in rfl rfl, ?_⟩
                                                                                                                                    rintro _ s83 ⟨k82, rfl⟩
                                                                                                                                    have rt86 : s83.1 6 10 = 0 → md_right s83 41 ∨ md_right s83 43 := fun h => ((fun h => (k4.2.2.1 h).2) (k82.2.2.2.2.2.2.1 h).1).imp (md_right_of (fun i h1 h2 => k82.2.2.1 i (fun e => absurd (e ▸ h1) (by decide +kernel)))) (md_right_of (fun i h1 h2 => k82.2.2.1 i (fun e => absurd (e ▸ h1) (by decide +kernel))))
                                                                                                                                    have r84 := r6.tr (k82.m (by decide +kernel) (fun h => absurd h (by decide +kernel)))
                                                                                                                                    have i85 := (k82.m (by decide +kernel) (fun h => absurd h (by decide +kernel))).2.2 i7
                                                                                                                                    change ev_wp pg_F pg_lay none [] (ev_lu pg_c119) (fun _ => false) _ 952 100 [some (.ref 6), some (.int l), some (.int z), some (.int d), some (.int (md_cnt σ 64)), some (.int 62)] [] s83
                                                                                                                                    refine ⟨⟨i85, rt86⟩, ?_⟩
                                                                                                                                    rintro _ s89 ⟨v87, k88, rfl⟩
                                                                                                                                    have r90 := r84.tr k88
                                                                                                                                    have i91 := k88.2.2 i85
                                                                                                                                    exact ⟨_, rfl, Nat.le_of_eq (congrArg Prod.snd r90.2.1), _, r90, rfl⟩
                                                                                                                                · skip
                                                                                                                                  change ev_wp pg_F pg_lay none [] (ev_lu pg_c119) (fun _ => false) _ 986 72 [some (.ref 6), some (.int l), some (.int z), some (.int d), some (.int (md_cnt σ 64)), some (.int 61)] [] s5
                                                                                                                                  refine ⟨sp_in rfl rfl, ?_⟩
                                                                                                                                  rintro _ _ ⟨rfl, rfl⟩
                                                                                                                                  change ev_wp pg_F pg_lay none [] (ev_lu pg_c119) (fun _ => false) _ 975 89 [some (.ref 6), some (.int l), some (.int z), some (.int d), some (.int (md_cnt σ 64)), some (.int 61)] [.int (s5.1 7 19), .int 3, .int 4, .ref 6] s5
                                                                                                                                  refine ⟨sp_in rfl rfl, ?_⟩
                                                                                                                                  rintro _ s93 ⟨k92, rfl⟩
                                                                                                                                  have rt96 : s93.1 6 10 = 0 → md_right s93 41 ∨ md_right s93 43 := fun h => ((fun h => (k4.2.2.1 h).2) (k92.2.2.2.2.2.2.1 h).1).imp (md_right_of (fun i h1 h2 => k92.2.2.1 i (fun e => absurd (e ▸ h1) (by decide +kernel)))) (md_right_of (fun i h1 h2 => k92.2.2.1 i (fun e => absurd (e ▸ h1) (by decide +kernel))))
                                                                                                                                  have r94 := r6.tr (k92.m (by decide +kernel) (fun h => absurd h (by decide +kernel)))
                                                                                                                                  have i95 := (k92.m (by decide +kernel) (fun h => absurd h (by decide +kernel))).2.2 i7
                                                                                                                                  change ev_wp pg_F pg_lay none [] (ev_lu pg_c119) (fun _ => false) _ 968 100 [some (.ref 6), some (.int l), some (.int z), some (.int d), some (.int (md_cnt σ 64)), some (.int 61)] [] s93
                                                                                                                                  refine ⟨⟨i95, rt96⟩, ?_⟩
                                                                                                                                  rintro _ s99 ⟨v97, k98, rfl⟩
                                                                                                                                  have r100 := r94.tr k98
                                                                                                                                  have i101 := k98.2.2 i95
                                                                                                                                  exact ⟨_, rfl, Nat.le_of_eq (congrArg Prod.snd r100.2.1), _, r100, rfl⟩
                                                                                                                              · skip
                                                                                                                                change ev_wp pg_F pg_lay none [] (ev_lu pg_c119) (fun _ => false) _ 1002 72 [some (.ref 6), some (.int l), some (.int z), some (.int d), some (.int (md_cnt σ 64)), some (.int 60)] [] s5
                                                                                                                                refine ⟨sp_in rfl rfl, ?_⟩
                                                                                                                                rintro _ _ ⟨rfl, rfl⟩
                                                                                                                                change ev_wp pg_F pg_lay none [] (ev_lu pg_c119) (fun _ => false) _ 991 89 [some (.ref 6), some (.int l), some (.int z), some (.int d), some (.int (md_cnt σ 64)), some (.int 60)] [.int (s5.1 7 19), .int 3, .int 4, .ref 6] s5
                                                                                                                                refine ⟨sp_in rfl rfl, ?_⟩
                                                                                                                                rintro _ s103 ⟨k102, rfl⟩
                                                                                                                                have rt106 : s103.1 6 10 = 0 → md_right s103 41 ∨ md_right s103 43 := fun h => ((fun h => (k4.2.2.1 h).2) (k102.2.2.2.2.2.2.1 h).1).imp (md_right_of (fun i h1 h2 => k102.2.2.1 i (fun e => absurd (e ▸ h1) (by decide +kernel)))) (md_right_of (fun i h1 h2 => k102.2.2.1 i (fun e => absurd (e ▸ h1) (by decide +kernel))))
                                                                                                                                have r104 := r6.tr (k102.m (by decide +kernel) (fun h => absurd h (by decide +kernel)))
                                                                                                                                have i105 := (k102.m (by decide +kernel) (fun h => absurd h (by decide +kernel))).2.2 i7
                                                                                                                                change ev_wp pg_F pg_lay none [] (ev_lu pg_c119) (fun _ => false) _ 984 100 [some (.ref 6), some (.int l), some (.int z), some (.int d), some (.int (md_cnt σ 64)), some (.int 60)] [] s103
                                                                                                                                refine ⟨⟨i105, rt106⟩, ?_⟩
                                                                                                                                rintro _ s109 ⟨v107, k108, rfl⟩
                                                                                                                                have r110 := r104.tr k108
                                                                                                                                have i111 := k108.2.2 i105
                                                                                                                                exact ⟨_, rfl, Nat.le_of_eq (congrArg Prod.snd r110.2.1), _, r110, rfl⟩
                                                                                                                            · skip
                                                                                                                              change ev_wp pg_F pg_lay none [] (ev_lu pg_c119) (fun _ => false) _ 1018 72 [some (.ref 6), some (.int l), some (.int z), some (.int d), some (.int (md_cnt σ 64)), some (.int 59)] [] s5
                                                                                                                              refine ⟨sp_in rfl rfl, ?_⟩
                                                                                                                              rintro _ _ ⟨rfl, rfl⟩
                                                                                                                              change ev_wp pg_F pg_lay none [] (ev_lu pg_c119) (fun _ => false) _ 1007 89 [some (.ref 6), some (.int l), some (.int z), some (.int d), some (.int (md_cnt σ 64)), some (.int 59)] [.int (s5.1 7 19), .int 3, .int 4, .ref 6] s5
                                                                                                                              refine ⟨sp_in rfl rfl, ?_⟩
                                                                                                                              rintro _ s113 ⟨k112, rfl⟩
                                                                                                                              have rt116 : s113.1 6 10 = 0 → md_right s113 41 ∨ md_right s113 43 := fun h => ((fun h => (k4.2.2.1 h).2) (k112.2.2.2.2.2.2.1 h).1).imp (md_right_of (fun i h1 h2 => k112.2.2.1 i (fun e => absurd (e ▸ h1) (by decide +kernel)))) (md_right_of (fun i h1 h2 => k112.2.2.1 i (fun e => absurd (e ▸ h1) (by decide +kernel))))
                                                                                                                              have r114 := r6.tr (k112.m (by decide +kernel) (fun h => absurd h (by decide +kernel)))
                                                                                                                              have i115 := (k112.m (by decide +kernel) (fun h => absurd h (by decide +kernel))).2.2 i7
                                                                                                                              change ev_wp pg_F pg_lay none [] (ev_lu pg_c119) (fun _ => false) _ 1000 100 [some (.ref 6), some (.int l), some (.int z), some (.int d), some (.int (md_cnt σ 64)), some (.int 59)] [] s113
                                                                                                                              refine ⟨⟨i115, rt116⟩, ?_⟩
                                                                                                                              rintro _ s119 ⟨v117, k118, rfl⟩
                                                                                                                              have r120 := r114.tr k118
                                                                                                                              have i121 := k118.2.2 i115
                                                                                                                              exact ⟨_, rfl, Nat.le_of_eq (congrArg Prod.snd r120.2.1), _, r120, rfl⟩
                                                                                                                          · skip
                                                                                                                            change ev_wp pg_F pg_lay none [] (ev_lu pg_c119) (fun _ => false) _ 1034 72 [some (.ref 6), some (.int l), some (.int z), some (.int d), some (.int (md_cnt σ 64)), some (.int 58)] [] s5
                                                                                                                            refine ⟨sp_in rfl rfl, ?_⟩
                                                                                                                            rintro _ _ ⟨rfl, rfl⟩
                                                                                                                            change ev_wp pg_F pg_lay none [] (ev_lu pg_c119) (fun _ => false) _ 1023 89 [some (.ref 6), some (.int l), some (.int z), some (.int d), some (.int (md_cnt σ 64)), some (.int 58)] [.int (s5.1 7 19), .int 3, .int 4, .ref 6] s5
                                                                                                                            refine ⟨sp_in rfl rfl, ?_⟩
                                                                                                                            rintro _ s123 ⟨k122, rfl⟩
                                                                                                                            have rt126 : s123.1 6 10 = 0 → md_right s123 41 ∨ md_right s123 43 := fun h => ((fun h => (k4.2.2.1 h).2) (k122.2.2.2.2.2.2.1 h).1).imp (md_right_of (fun i h1 h2 => k122.2.2.1 i (fun e => absurd (e ▸ h1) (by decide +kernel)))) (md_right_of (fun i h1 h2 => k122.2.2.1 i (fun e => absurd (e ▸ h1) (by decide +kernel))))
                                                                                                                            have r124 := r6.tr (k122.m (by decide +kernel) (fun h => absurd h (by decide +kernel)))
                                                                                                                            have i125 := (k122.m (by decide +kernel) (fun h => absurd h (by decide +kernel))).2.2 i7
                                                                                                                            change ev_wp pg_F pg_lay none [] (ev_lu pg_c119) (fun _ => false) _ 1016 100 [some (.ref 6), some (.int l), some (.int z), some (.int d), some (.int (md_cnt σ 64)), some (.int 58)] [] s123
                                                                                                                            refine ⟨⟨i125, rt126⟩, ?_⟩
                                                                                                                            rintro _ s129 ⟨v127, k128, rfl⟩
                                                                                                                            have r130 := r124.tr k128
                                                                                                                            have i131 := k128.2.2 i125
                                                                                                                            exact ⟨_, rfl, Nat.le_of_eq (congrArg Prod.snd r130.2.1), _, r130, rfl⟩
                                                                                                                        · skip
                                                                                                                          change ev_wp pg_F pg_lay none [] (ev_lu pg_c119) (fun _ => false) _ 1050 72 [some (.ref 6), some (.int l), some (.int z), some (.int d), some (.int (md_cnt σ 64)), some (.int 57)] [] s5
                                                                                                                          refine ⟨sp_in rfl rfl, ?_⟩
                                                                                                                          rintro _ _ ⟨rfl, rfl⟩
                                                                                                                          change ev_wp pg_F pg_lay none [] (ev_lu pg_c119) (fun _ => false) _ 1039 89 [some (.ref 6), some (.int l), some (.int z), some (.int d), some (.int (md_cnt σ 64)), some (.int 57)] [.int (s5.1 7 19), .int 3, .int 4, .ref 6] s5
                                                                                                                          refine ⟨sp_in rfl rfl, ?_⟩
                                                                                                                          rintro _ s133 ⟨k132, rfl⟩
                                                                                                                          have rt136 : s133.1 6 10 = 0 → md_right s133 41 ∨ md_right s133 43 := fun h => ((fun h => (k4.2.2.1 h).2) (k132.2.2.2.2.2.2.1 h).1).imp (md_right_of (fun i h1 h2 => k132.2.2.1 i (fun e => absurd (e ▸ h1) (by decide +kernel)))) (md_right_of (fun i h1 h2 => k132.2.2.1 i (fun e => absurd (e ▸ h1) (by decide +kernel))))
                                                                                                                          have r134 := r6.tr (k132.m (by decide +kernel) (fun h => absurd h (by decide +kernel)))
                                                                                                                          have i135 := (k132.m (by decide +kernel) (fun h => absurd h (by decide +kernel))).2.2 i7
                                                                                                                          change ev_wp pg_F pg_lay none [] (ev_lu pg_c119) (fun _ => false) _ 1032 100 [some (.ref 6), some (.int l), some (.int z), some (.int d), some (.int (md_cnt σ 64)), some (.int 57)] [] s133
                                                                                                                          refine ⟨⟨i135, rt136⟩, ?_⟩
                                                                                                                          rintro _ s139 ⟨v137, k138, rfl⟩
                                                                                                                          have r140 := r134.tr k138
                                                                                                                          have i141 := k138.2.2 i135
                                                                                                                          exact ⟨_, rfl, Nat.le_of_eq (congrArg Prod.snd r140.2.1), _, r140, rfl⟩
                                                                                                                      · skip
                                                                                                                        change ev_wp pg_F pg_lay none [] (ev_lu pg_c119) (fun _ => false) _ 1066 72 [some (.ref 6), some (.int l), some (.int z), some (.int d), some (.int (md_cnt σ 64)), some (.int 56)] [] s5
                                                                                                                        refine ⟨sp_in rfl rfl, ?_⟩
                                                                                                                        rintro _ _ ⟨rfl, rfl⟩
                                                                                                                        change ev_wp pg_F pg_lay none [] (ev_lu pg_c119) (fun _ => false) _ 1055 89 [some (.ref 6), some (.int l), some (.int z), some (.int d), some (.int (md_cnt σ 64)), some (.int 56)] [.int (s5.1 7 19), .int 3, .int 4, .ref 6] s5
                                                                                                                        refine ⟨sp_in rfl rfl, ?_⟩
                                                                                                                        rintro _ s143 ⟨k142, rfl⟩
                                                                                                                        have rt146 : s143.1 6 10 = 0 → md_right s143 41 ∨ md_right s143 43 := fun h => ((fun h => (k4.2.2.1 h).2) (k142.2.2.2.2.2.2.1 h).1).imp (md_right_of (fun i h1 h2 => k142.2.2.1 i (fun e => absurd (e ▸ h1) (by decide +kernel)))) (md_right_of (fun i h1 h2 => k142.2.2.1 i (fun e => absurd (e ▸ h1) (by decide +kernel))))
                                                                                                                        have r144 := r6.tr (k142.m (by decide +kernel) (fun h => absurd h (by decide +kernel)))
                                                                                                                        have i145 := (k142.m (by decide +kernel) (fun h => absurd h (by decide +kernel))).2.2 i7
                                                                                                                        change ev_wp pg_F pg_lay none [] (ev_lu pg_c119) (fun _ => false) _ 1048 100 [some (.ref 6), some (.int l), some (.int z), some (.int d), some (.int (md_cnt σ 64)), some (.int 56)] [] s143
                                                                                                                        refine ⟨⟨i145, rt146⟩, ?_⟩
                                                                                                                        rintro _ s149 ⟨v147, k148, rfl⟩
                                                                                                                        have r150 := r144.tr k148
                                                                                                                        have i151 := k148.2.2 i145
                                                                                                                        exact ⟨_, rfl, Nat.le_of_eq (congrArg Prod.snd r150.2.1), _, r150, rfl⟩
                                                                                                                    · skip
                                                                                                                      change ev_wp pg_F pg_lay none [] (ev_lu pg_c119) (fun _ => false) _ 1082 72 [some (.ref 6), some (.int l), some (.int z), some (.int d), some (.int (md_cnt σ 64)), some (.int 55)] [] s5
                                                                                                                      refine ⟨sp_in rfl rfl, ?_⟩
                                                                                                                      rintro _ _ ⟨rfl, rfl⟩
                                                                                                                      change ev_wp pg_F pg_lay none [] (ev_lu pg_c119) (fun _ => false) _ 1071 89 [some (.ref 6), some (.int l), some (.int z), some (.int d), some (.int (md_cnt σ 64)), some (.int 55)] [.int (s5.1 7 19), .int 3, .int 4, .ref 6] s5
                                                                                                                      refine ⟨sp_in rfl rfl, ?_⟩
                                                                                                                      rintro _ s153 ⟨k152, rfl⟩
                                                                                                                      have rt156 : s153.1 6 10 = 0 → md_right s153 41 ∨ md_right s153 43 := fun h => ((fun h => (k4.2.2.1 h).2) (k152.2.2.2.2.2.2.1 h).1).imp (md_right_of (fun i h1 h2 => k152.2.2.1 i (fun e => absurd (e ▸ h1) (by decide +kernel)))) (md_right_of (fun i h1 h2 => k152.2.2.1 i (fun e => absurd (e ▸ h1) (by decide +kernel))))
                                                                                                                      have r154 := r6.tr (k152.m (by decide +kernel) (fun h => absurd h (by decide +kernel)))
                                                                                                                      have i155 := (k152.m (by decide +kernel) (fun h => absurd h (by decide +kernel))).2.2 i7
                                                                                                                      change ev_wp pg_F pg_lay none [] (ev_lu pg_c119) (fun _ => false) _ 1064 100 [some (.ref 6), some (.int l), some (.int z), some (.int d), some (.int (md_cnt σ 64)), some (.int 55)] [] s153
                                                                                                                      refine ⟨⟨i155, rt156⟩, ?_⟩
                                                                                                                      rintro _ s159 ⟨v157, k158, rfl⟩
                                                                                                                      have r160 := r154.tr k158
                                                                                                                      have i161 := k158.2.2 i155
                                                                                                                      exact ⟨_, rfl, Nat.le_of_eq (congrArg Prod.snd r160.2.1), _, r160, rfl⟩
                                                                                                                  · skip
                                                                                                                    change ev_wp pg_F pg_lay none [] (ev_lu pg_c119) (fun _ => false) _ 1098 72 [some (.ref 6), some (.int l), some (.int z), some (.int d), some (.int (md_cnt σ 64)), some (.int 54)] [] s5
                                                                                                                    refine ⟨sp_in rfl rfl, ?_⟩
                                                                                                                    rintro _ _ ⟨rfl, rfl⟩
                                                                                                                    change ev_wp pg_F pg_lay none [] (ev_lu pg_c119) (fun _ => false) _ 1087 89 [some (.ref 6), some (.int l), some (.int z), some (.int d), some (.int (md_cnt σ 64)), some (.int 54)] [.int (s5.1 7 19), .int 3, .int 4, .ref 6] s5
                                                                                                                    refine ⟨sp_in rfl rfl, ?_⟩
                                                                                                                    rintro _ s163 ⟨k162, rfl⟩
                                                                                                                    have rt166 : s163.1 6 10 = 0 → md_right s163 41 ∨ md_right s163 43 := fun h => ((fun h => (k4.2.2.1 h).2) (k162.2.2.2.2.2.2.1 h).1).imp (md_right_of (fun i h1 h2 => k162.2.2.1 i (fun e => absurd (e ▸ h1) (by decide +kernel)))) (md_right_of (fun i h1 h2 => k162.2.2.1 i (fun e => absurd (e ▸ h1) (by decide +kernel))))
                                                                                                                    have r164 := r6.tr (k162.m (by decide +kernel) (fun h => absurd h (by decide +kernel)))
                                                                                                                    have i165 := (k162.m (by decide +kernel) (fun h => absurd h (by decide +kernel))).2.2 i7
                                                                                                                    change ev_wp pg_F pg_lay none [] (ev_lu pg_c119) (fun _ => false) _ 1080 100 [some (.ref 6), some (.int l), some (.int z), some (.int d), some (.int (md_cnt σ 64)), some (.int 54)] [] s163
                                                                                                                    refine ⟨⟨i165, rt166⟩, ?_⟩
                                                                                                                    rintro _ s169 ⟨v167, k168, rfl⟩
                                                                                                                    have r170 := r164.tr k168
                                                                                                                    have i171 := k168.2.2 i165
                                                                                                                    exact ⟨_, rfl, Nat.le_of_eq (congrArg Prod.snd r170.2.1), _, r170, rfl⟩
                                                                                                                · skip
                                                                                                                  change ev_wp pg_F pg_lay none [] (ev_lu pg_c119) (fun _ => false) _ 1114 72 [some (.ref 6), some (.int l), some (.int z), some (.int d), some (.int (md_cnt σ 64)), some (.int 53)] [] s5
                                                                                                                  refine ⟨sp_in rfl rfl, ?_⟩
                                                                                                                  rintro _ _ ⟨rfl, rfl⟩
                                                                                                                  change ev_wp pg_F pg_lay none [] (ev_lu pg_c119) (fun _ => false) _ 1103 89 [some (.ref 6), some (.int l), some (.int z), some (.int d), some (.int (md_cnt σ 64)), some (.int 53)] [.int (s5.1 7 19), .int 3, .int 4, .ref 6] s5
                                                                                                                  refine ⟨sp_in rfl rfl, ?_⟩
                                                                                                                  rintro _ s173 ⟨k172, rfl⟩
                                                                                                                  have rt176 : s173.1 6 10 = 0 → md_right s173 41 ∨ md_right s173 43 := fun h => ((fun h => (k4.2.2.1 h).2) (k172.2.2.2.2.2.2.1 h).1).imp (md_right_of (fun i h1 h2 => k172.2.2.1 i (fun e => absurd (e ▸ h1) (by decide +kernel)))) (md_right_of (fun i h1 h2 => k172.2.2.1 i (fun e => absurd (e ▸ h1) (by decide +kernel))))
                                                                                                                  have r174 := r6.tr (k172.m (by decide +kernel) (fun h => absurd h (by decide +kernel)))
                                                                                                                  have i175 := (k172.m (by decide +kernel) (fun h => absurd h (by decide +kernel))).2.2 i7
                                                                                                                  change ev_wp pg_F pg_lay none [] (ev_lu pg_c119) (fun _ => false) _ 1096 100 [some (.ref 6), some (.int l), some (.int z), some (.int d), some (.int (md_cnt σ 64)), some (.int 53)] [] s173
                                                                                                                  refine ⟨⟨i175, rt176⟩, ?_⟩
                                                                                                                  rintro _ s179 ⟨v177, k178, rfl⟩
                                                                                                                  have r180 := r174.tr k178
                                                                                                                  have i181 := k178.2.2 i175
                                                                                                                  exact ⟨_, rfl, Nat.le_of_eq (congrArg Prod.snd r180.2.1), _, r180, rfl⟩
                                                                                                              · skip
                                                                                                                change ev_wp pg_F pg_lay none [] (ev_lu pg_c119) (fun _ => false) _ 1130 72 [some (.ref 6), some (.int l), some (.int z), some (.int d), some (.int (md_cnt σ 64)), some (.int 52)] [] s5
                                                                                                                refine ⟨sp_in rfl rfl, ?_⟩
                                                                                                                rintro _ _ ⟨rfl, rfl⟩
                                                                                                                change ev_wp pg_F pg_lay none [] (ev_lu pg_c119) (fun _ => false) _ 1119 89 [some (.ref 6), some (.int l), some (.int z), some (.int d), some (.int (md_cnt σ 64)), some (.int 52)] [.int (s5.1 7 19), .int 3, .int 4, .ref 6] s5
                                                                                                                refine ⟨sp_in rfl rfl, ?_⟩
                                                                                                                rintro _ s183 ⟨k182, rfl⟩
                                                                                                                have rt186 : s183.1 6 10 = 0 → md_right s183 41 ∨ md_right s183 43 := fun h => ((fun h => (k4.2.2.1 h).2) (k182.2.2.2.2.2.2.1 h).1).imp (md_right_of (fun i h1 h2 => k182.2.2.1 i (fun e => absurd (e ▸ h1) (by decide +kernel)))) (md_right_of (fun i h1 h2 => k182.2.2.1 i (fun e => absurd (e ▸ h1) (by decide +kernel))))
                                                                                                                have r184 := r6.tr (k182.m (by decide +kernel) (fun h => absurd h (by decide +kernel)))
                                                                                                                have i185 := (k182.m (by decide +kernel) (fun h => absurd h (by decide +kernel))).2.2 i7
                                                                                                                change ev_wp pg_F pg_lay none [] (ev_lu pg_c119) (fun _ => false) _ 1112 100 [some (.ref 6), some (.int l), some (.int z), some (.int d), some (.int (md_cnt σ 64)), some (.int 52)] [] s183
                                                                                                                refine ⟨⟨i185, rt186⟩, ?_⟩
                                                                                                                rintro _ s189 ⟨v187, k188, rfl⟩
                                                                                                                have r190 := r184.tr k188
                                                                                                                have i191 := k188.2.2 i185
                                                                                                                exact ⟨_, rfl, Nat.le_of_eq (congrArg Prod.snd r190.2.1), _, r190, rfl⟩
                                                                                                            · skip
                                                                                                              change ev_wp pg_F pg_lay none [] (ev_lu pg_c119) (fun _ => false) _ 1146 72 [some (.ref 6), some (.int l), some (.int z), some (.int d), some (.int (md_cnt σ 64)), some (.int 51)] [] s5
                                                                                                              refine ⟨sp_in rfl rfl, ?_⟩
                                                                                                              rintro _ _ ⟨rfl, rfl⟩
                                                                                                              change ev_wp pg_F pg_lay none [] (ev_lu pg_c119) (fun _ => false) _ 1135 89 [some (.ref 6), some (.int l), some (.int z), some (.int d), some (.int (md_cnt σ 64)), some (.int 51)] [.int (s5.1 7 19), .int 3, .int 4, .ref 6] s5
                                                                                                              refine ⟨sp_in rfl rfl, ?_⟩
                                                                                                              rintro _ s193 ⟨k192, rfl⟩
                                                                                                              have rt196 : s193.1 6 10 = 0 → md_right s193 41 ∨ md_right s193 43 := fun h => ((fun h => (k4.2.2.1 h).2) (k192.2.2.2.2.2.2.1 h).1).imp (md_right_of (fun i h1 h2 => k192.2.2.1 i (fun e => absurd (e ▸ h1) (by decide +kernel)))) (md_right_of (fun i h1 h2 => k192.2.2.1 i (fun e => absurd (e ▸ h1) (by decide +kernel))))
                                                                                                              have r194 := r6.tr (k192.m (by decide +kernel) (fun h => absurd h (by decide +kernel)))
                                                                                                              have i195 := (k192.m (by decide +kernel) (fun h => absurd h (by decide +kernel))).2.2 i7
                                                                                                              change ev_wp pg_F pg_lay none [] (ev_lu pg_c119) (fun _ => false) _ 1128 100 [some (.ref 6), some (.int l), some (.int z), some (.int d), some (.int (md_cnt σ 64)), some (.int 51)] [] s193
                                                                                                              refine ⟨⟨i195, rt196⟩, ?_⟩
                                                                                                              rintro _ s199 ⟨v197, k198, rfl⟩
                                                                                                              have r200 := r194.tr k198
                                                                                                              have i201 := k198.2.2 i195
                                                                                                              exact ⟨_, rfl, Nat.le_of_eq (congrArg Prod.snd r200.2.1), _, r200, rfl⟩
                                                                                                          · skip
                                                                                                            change ev_wp pg_F pg_lay none [] (ev_lu pg_c119) (fun _ => false) _ 1162 72 [some (.ref 6), some (.int l), some (.int z), some (.int d), some (.int (md_cnt σ 64)), some (.int 50)] [] s5
                                                                                                            refine ⟨sp_in rfl rfl, ?_⟩
                                                                                                            rintro _ _ ⟨rfl, rfl⟩
                                                                                                            change ev_wp pg_F pg_lay none [] (ev_lu pg_c119) (fun _ => false) _ 1151 89 [some (.ref 6), some (.int l), some (.int z), some (.int d), some (.int (md_cnt σ 64)), some (.int 50)] [.int (s5.1 7 19), .int 3, .int 4, .ref 6] s5
                                                                                                            refine ⟨sp_in rfl rfl, ?_⟩
                                                                                                            rintro _ s203 ⟨k202, rfl⟩
                                                                                                            have rt206 : s203.1 6 10 = 0 → md_right s203 41 ∨ md_right s203 43 := fun h => ((fun h => (k4.2.2.1 h).2) (k202.2.2.2.2.2.2.1 h).1).imp (md_right_of (fun i h1 h2 => k202.2.2.1 i (fun e => absurd (e ▸ h1) (by decide +kernel)))) (md_right_of (fun i h1 h2 => k202.2.2.1 i (fun e => absurd (e ▸ h1) (by decide +kernel))))
                                                                                                            have r204 := r6.tr (k202.m (by decide +kernel) (fun h => absurd h (by decide +kernel)))
                                                                                                            have i205 := (k202.m (by decide +kernel) (fun h => absurd h (by decide +kernel))).2.2 i7
                                                                                                            change ev_wp pg_F pg_lay none [] (ev_lu pg_c119) (fun _ => false) _ 1144 100 [some (.ref 6), some (.int l), some (.int z), some (.int d), some (.int (md_cnt σ 64)), some (.int 50)] [] s203
                                                                                                            refine ⟨⟨i205, rt206⟩, ?_⟩
                                                                                                            rintro _ s209 ⟨v207, k208, rfl⟩
                                                                                                            have r210 := r204.tr k208
                                                                                                            have i211 := k208.2.2 i205
                                                                                                            exact ⟨_, rfl, Nat.le_of_eq (congrArg Prod.snd r210.2.1), _, r210, rfl⟩
                                                                                                        · skip
                                                                                                          change ev_wp pg_F pg_lay none [] (ev_lu pg_c119) (fun _ => false) _ 1178 72 [some (.ref 6), some (.int l), some (.int z), some (.int d), some (.int (md_cnt σ 64)), some (.int 49)] [] s5
                                                                                                          refine ⟨sp_in rfl rfl, ?_⟩
                                                                                                          rintro _ _ ⟨rfl, rfl⟩
                                                                                                          change ev_wp pg_F pg_lay none [] (ev_lu pg_c119) (fun _ => false) _ 1167 89 [some (.ref 6), some (.int l), some (.int z), some (.int d), some (.int (md_cnt σ 64)), some (.int 49)] [.int (s5.1 7 19), .int 3, .int 4, .ref 6] s5
                                                                                                          refine ⟨sp_in rfl rfl, ?_⟩
                                                                                                          rintro _ s213 ⟨k212, rfl⟩
                                                                                                          have rt216 : s213.1 6 10 = 0 → md_right s213 41 ∨ md_right s213 43 := fun h => ((fun h => (k4.2.2.1 h).2) (k212.2.2.2.2.2.2.1 h).1).imp (md_right_of (fun i h1 h2 => k212.2.2.1 i (fun e => absurd (e ▸ h1) (by decide +kernel)))) (md_right_of (fun i h1 h2 => k212.2.2.1 i (fun e => absurd (e ▸ h1) (by decide +kernel))))
                                                                                                          have r214 := r6.tr (k212.m (by decide +kernel) (fun h => absurd h (by decide +kernel)))
                                                                                                          have i215 := (k212.m (by decide +kernel) (fun h => absurd h (by decide +kernel))).2.2 i7
                                                                                                          change ev_wp pg_F pg_lay none [] (ev_lu pg_c119) (fun _ => false) _ 1160 100 [some (.ref 6), some (.int l), some (.int z), some (.int d), some (.int (md_cnt σ 64)), some (.int 49)] [] s213
                                                                                                          refine ⟨⟨i215, rt216⟩, ?_⟩
                                                                                                          rintro _ s219 ⟨v217, k218, rfl⟩
                                                                                                          have r220 := r214.tr k218
                                                                                                          have i221 := k218.2.2 i215
                                                                                                          exact ⟨_, rfl, Nat.le_of_eq (congrArg Prod.snd r220.2.1), _, r220, rfl⟩
                                                                                                      · skip
                                                                                                        change ev_wp pg_F pg_lay none [] (ev_lu pg_c119) (fun _ => false) _ 1194 72 [some (.ref 6), some (.int l), some (.int z), some (.int d), some (.int (md_cnt σ 64)), some (.int 48)] [] s5
                                                                                                        refine ⟨sp_in rfl rfl, ?_⟩
                                                                                                        rintro _ _ ⟨rfl, rfl⟩
                                                                                                        change ev_wp pg_F pg_lay none [] (ev_lu pg_c119) (fun _ => false) _ 1183 89 [some (.ref 6), some (.int l), some (.int z), some (.int d), some (.int (md_cnt σ 64)), some (.int 48)] [.int (s5.1 7 19), .int 3, .int 4, .ref 6] s5
                                                                                                        refine ⟨sp_in rfl rfl, ?_⟩
                                                                                                        rintro _ s223 ⟨k222, rfl⟩
                                                                                                        have rt226 : s223.1 6 10 = 0 → md_right s223 41 ∨ md_right s223 43 := fun h => ((fun h => (k4.2.2.1 h).2) (k222.2.2.2.2.2.2.1 h).1).imp (md_right_of (fun i h1 h2 => k222.2.2.1 i (fun e => absurd (e ▸ h1) (by decide +kernel)))) (md_right_of (fun i h1 h2 => k222.2.2.1 i (fun e => absurd (e ▸ h1) (by decide +kernel))))
                                                                                                        have r224 := r6.tr (k222.m (by decide +kernel) (fun h => absurd h (by decide +kernel)))
                                                                                                        have i225 := (k222.m (by decide +kernel) (fun h => absurd h (by decide +kernel))).2.2 i7
                                                                                                        change ev_wp pg_F pg_lay none [] (ev_lu pg_c119) (fun _ => false) _ 1176 100 [some (.ref 6), some (.int l), some (.int z), some (.int d), some (.int (md_cnt σ 64)), some (.int 48)] [] s223
                                                                                                        refine ⟨⟨i225, rt226⟩, ?_⟩
                                                                                                        rintro _ s229 ⟨v227, k228, rfl⟩
                                                                                                        have r230 := r224.tr k228
                                                                                                        have i231 := k228.2.2 i225
                                                                                                        exact ⟨_, rfl, Nat.le_of_eq (congrArg Prod.snd r230.2.1), _, r230, rfl⟩
                                                                                                    · skip
                                                                                                      change ev_wp pg_F pg_lay none [] (ev_lu pg_c119) (fun _ => false) _ 1210 72 [some (.ref 6), some (.int l), some (.int z), some (.int d), some (.int (md_cnt σ 64)), some (.int 47)] [] s5
                                                                                                      refine ⟨sp_in rfl rfl, ?_⟩
                                                                                                      rintro _ _ ⟨rfl, rfl⟩
                                                                                                      change ev_wp pg_F pg_lay none [] (ev_lu pg_c119) (fun _ => false) _ 1199 89 [some (.ref 6), some (.int l), some (.int z), some (.int d), some (.int (md_cnt σ 64)), some (.int 47)] [.int (s5.1 7 18), .int 2, .int 4, .ref 6] s5
                                                                                                      refine ⟨sp_in rfl rfl, ?_⟩
                                                                                                      rintro _ s233 ⟨k232, rfl⟩
                                                                                                      have rt236 : s233.1 6 10 = 0 → md_right s233 41 ∨ md_right s233 43 := fun h => ((fun h => (k4.2.2.1 h).2) (k232.2.2.2.2.2.2.1 h).1).imp (md_right_of (fun i h1 h2 => k232.2.2.1 i (fun e => absurd (e ▸ h1) (by decide +kernel)))) (md_right_of (fun i h1 h2 => k232.2.2.1 i (fun e => absurd (e ▸ h1) (by decide +kernel))))
                                                                                                      have r234 := r6.tr (k232.m (by decide +kernel) (fun h => absurd h (by decide +kernel)))
                                                                                                      have i235 := (k232.m (by decide +kernel) (fun h => absurd h (by decide +kernel))).2.2 i7
                                                                                                      change ev_wp pg_F pg_lay none [] (ev_lu pg_c119) (fun _ => false) _ 1192 100 [some (.ref 6), some (.int l), some (.int z), some (.int d), some (.int (md_cnt σ 64)), some (.int 47)] [] s233
                                                                                                      refine ⟨⟨i235, rt236⟩, ?_⟩
                                                                                                      rintro _ s239 ⟨v237, k238, rfl⟩
                                                                                                      have r240 := r234.tr k238
                                                                                                      have i241 := k238.2.2 i235
                                                                                                      exact ⟨_, rfl, Nat.le_of_eq (congrArg Prod.snd r240.2.1), _, r240, rfl⟩
                                                                                                  · skip
                                                                                                    change ev_wp pg_F pg_lay none [] (ev_lu pg_c119) (fun _ => false) _ 1226 72 [some (.ref 6), some (.int l), some (.int z), some (.int d), some (.int (md_cnt σ 64)), some (.int 46)] [] s5
                                                                                                    refine ⟨sp_in rfl rfl, ?_⟩
                                                                                                    rintro _ _ ⟨rfl, rfl⟩
                                                                                                    change ev_wp pg_F pg_lay none [] (ev_lu pg_c119) (fun _ => false) _ 1215 89 [some (.ref 6), some (.int l), some (.int z), some (.int d), some (.int (md_cnt σ 64)), some (.int 46)] [.int (s5.1 7 18), .int 2, .int 4, .ref 6] s5
                                                                                                    refine ⟨sp_in rfl rfl, ?_⟩
                                                                                                    rintro _ s243 ⟨k242, rfl⟩
                                                                                                    have rt246 : s243.1 6 10 = 0 → md_right s243 41 ∨ md_right s243 43 := fun h => ((fun h => (k4.2.2.1 h).2) (k242.2.2.2.2.2.2.1 h).1).imp (md_right_of (fun i h1 h2 => k242.2.2.1 i (fun e => absurd (e ▸ h1) (by decide +kernel)))) (md_right_of (fun i h1 h2 => k242.2.2.1 i (fun e => absurd (e ▸ h1) (by decide +kernel))))
                                                                                                    have r244 := r6.tr (k242.m (by decide +kernel) (fun h => absurd h (by decide +kernel)))
                                                                                                    have i245 := (k242.m (by decide +kernel) (fun h => absurd h (by decide +kernel))).2.2 i7
                                                                                                    change ev_wp pg_F pg_lay none [] (ev_lu pg_c119) (fun _ => false) _ 1208 100 [some (.ref 6), some (.int l), some (.int z), some (.int d), some (.int (md_cnt σ 64)), some (.int 46)] [] s243
                                                                                                    refine ⟨⟨i245, rt246⟩, ?_⟩
                                                                                                    rintro _ s249 ⟨v247, k248, rfl⟩
                                                                                                    have r250 := r244.tr k248
                                                                                                    have i251 := k248.2.2 i245
                                                                                                    exact ⟨_, rfl, Nat.le_of_eq (congrArg Prod.snd r250.2.1), _, r250, rfl⟩
                                                                                                · skip
                                                                                                  change ev_wp pg_F pg_lay none [] (ev_lu pg_c119) (fun _ => false) _ 1242 72 [some (.ref 6), some (.int l), some (.int z), some (.int d), some (.int (md_cnt σ 64)), some (.int 45)] [] s5
                                                                                                  refine ⟨sp_in rfl rfl, ?_⟩
                                                                                                  rintro _ _ ⟨rfl, rfl⟩
                                                                                                  change ev_wp pg_F pg_lay none [] (ev_lu pg_c119) (fun _ => false) _ 1231 89 [some (.ref 6), some (.int l), some (.int z), some (.int d), some (.int (md_cnt σ 64)), some (.int 45)] [.int (s5.1 7 18), .int 2, .int 4, .ref 6] s5
                                                                                                  refine ⟨sp_in rfl rfl, ?_⟩
                                                                                                  rintro _ s253 ⟨k252, rfl⟩
                                                                                                  have rt256 : s253.1 6 10 = 0 → md_right s253 41 ∨ md_right s253 43 := fun h => ((fun h => (k4.2.2.1 h).2) (k252.2.2.2.2.2.2.1 h).1).imp (md_right_of (fun i h1 h2 => k252.2.2.1 i (fun e => absurd (e ▸ h1) (by decide +kernel)))) (md_right_of (fun i h1 h2 => k252.2.2.1 i (fun e => absurd (e ▸ h1) (by decide +kernel))))
                                                                                                  have r254 := r6.tr (k252.m (by decide +kernel) (fun h => absurd h (by decide +kernel)))
                                                                                                  have i255 := (k252.m (by decide +kernel) (fun h => absurd h (by decide +kernel))).2.2 i7
                                                                                                  change ev_wp pg_F pg_lay none [] (ev_lu pg_c119) (fun _ => false) _ 1224 100 [some (.ref 6), some (.int l), some (.int z), some (.int d), some (.int (md_cnt σ 64)), some (.int 45)] [] s253
                                                                                                  refine ⟨⟨i255, rt256⟩, ?_⟩
                                                                                                  rintro _ s259 ⟨v257, k258, rfl⟩
                                                                                                  have r260 := r254.tr k258
                                                                                                  have i261 := k258.2.2 i255
                                                                                                  exact ⟨_, rfl, Nat.le_of_eq (congrArg Prod.snd r260.2.1), _, r260, rfl⟩
                                                                                              · skip
                                                                                                change ev_wp pg_F pg_lay none [] (ev_lu pg_c119) (fun _ => false) _ 1258 72 [some (.ref 6), some (.int l), some (.int z), some (.int d), some (.int (md_cnt σ 64)), some (.int 44)] [] s5
                                                                                                refine ⟨sp_in rfl rfl, ?_⟩
                                                                                                rintro _ _ ⟨rfl, rfl⟩
                                                                                                change ev_wp pg_F pg_lay none [] (ev_lu pg_c119) (fun _ => false) _ 1247 89 [some (.ref 6), some (.int l), some (.int z), some (.int d), some (.int (md_cnt σ 64)), some (.int 44)] [.int (s5.1 7 18), .int 2, .int 4, .ref 6] s5
                                                                                                refine ⟨sp_in rfl rfl, ?_⟩
                                                                                                rintro _ s263 ⟨k262, rfl⟩
                                                                                                have rt266 : s263.1 6 10 = 0 → md_right s263 41 ∨ md_right s263 43 := fun h => ((fun h => (k4.2.2.1 h).2) (k262.2.2.2.2.2.2.1 h).1).imp (md_right_of (fun i h1 h2 => k262.2.2.1 i (fun e => absurd (e ▸ h1) (by decide +kernel)))) (md_right_of (fun i h1 h2 => k262.2.2.1 i (fun e => absurd (e ▸ h1) (by decide +kernel))))
                                                                                                have r264 := r6.tr (k262.m (by decide +kernel) (fun h => absurd h (by decide +kernel)))
                                                                                                have i265 := (k262.m (by decide +kernel) (fun h => absurd h (by decide +kernel))).2.2 i7
                                                                                                change ev_wp pg_F pg_lay none [] (ev_lu pg_c119) (fun _ => false) _ 1240 100 [some (.ref 6), some (.int l), some (.int z), some (.int d), some (.int (md_cnt σ 64)), some (.int 44)] [] s263
                                                                                                refine ⟨⟨i265, rt266⟩, ?_⟩
                                                                                                rintro _ s269 ⟨v267, k268, rfl⟩
                                                                                                have r270 := r264.tr k268
                                                                                                have i271 := k268.2.2 i265
                                                                                                exact ⟨_, rfl, Nat.le_of_eq (congrArg Prod.snd r270.2.1), _, r270, rfl⟩
                                                                                            · skip
                                                                                              change ev_wp pg_F pg_lay none [] (ev_lu pg_c119) (fun _ => false) _ 1274 72 [some (.ref 6), some (.int l), some (.int z), some (.int d), some (.int (md_cnt σ 64)), some (.int 43)] [] s5
                                                                                              refine ⟨sp_in rfl rfl, ?_⟩
                                                                                              rintro _ _ ⟨rfl, rfl⟩
                                                                                              change ev_wp pg_F pg_lay none [] (ev_lu pg_c119) (fun _ => false) _ 1263 89 [some (.ref 6), some (.int l), some (.int z), some (.int d), some (.int (md_cnt σ 64)), some (.int 43)] [.int (s5.1 7 18), .int 2, .int 4, .ref 6] s5
                                                                                              refine ⟨sp_in rfl rfl, ?_⟩
                                                                                              rintro _ s273 ⟨k272, rfl⟩
                                                                                              have rt276 : s273.1 6 10 = 0 → md_right s273 41 ∨ md_right s273 43 := fun h => ((fun h => (k4.2.2.1 h).2) (k272.2.2.2.2.2.2.1 h).1).imp (md_right_of (fun i h1 h2 => k272.2.2.1 i (fun e => absurd (e ▸ h1) (by decide +kernel)))) (md_right_of (fun i h1 h2 => k272.2.2.1 i (fun e => absurd (e ▸ h1) (by decide +kernel))))
                                                                                              have r274 := r6.tr (k272.m (by decide +kernel) (fun h => absurd h (by decide +kernel)))
                                                                                              have i275 := (k272.m (by decide +kernel) (fun h => absurd h (by decide +kernel))).2.2 i7
                                                                                              change ev_wp pg_F pg_lay none [] (ev_lu pg_c119) (fun _ => false) _ 1256 100 [some (.ref 6), some (.int l), some (.int z), some (.int d), some (.int (md_cnt σ 64)), some (.int 43)] [] s273
                                                                                              refine ⟨⟨i275, rt276⟩, ?_⟩
                                                                                              rintro _ s279 ⟨v277, k278, rfl⟩
                                                                                              have r280 := r274.tr k278
                                                                                              have i281 := k278.2.2 i275
                                                                                              exact ⟨_, rfl, Nat.le_of_eq (congrArg Prod.snd r280.2.1), _, r280, rfl⟩
                                                                                          · skip
                                                                                            change ev_wp pg_F pg_lay none [] (ev_lu pg_c119) (fun _ => false) _ 1290 72 [some (.ref 6), some (.int l), some (.int z), some (.int d), some (.int (md_cnt σ 64)), some (.int 42)] [] s5
                                                                                            refine ⟨sp_in rfl rfl, ?_⟩
                                                                                            rintro _ _ ⟨rfl, rfl⟩
                                                                                            change ev_wp pg_F pg_lay none [] (ev_lu pg_c119) (fun _ => false) _ 1279 89 [some (.ref 6), some (.int l), some (.int z), some (.int d), some (.int (md_cnt σ 64)), some (.int 42)] [.int (s5.1 7 18), .int 2, .int 4, .ref 6] s5
                                                                                            refine ⟨sp_in rfl rfl, ?_⟩
                                                                                            rintro _ s283 ⟨k282, rfl⟩
                                                                                            have rt286 : s283.1 6 10 = 0 → md_right s283 41 ∨ md_right s283 43 := fun h => ((fun h => (k4.2.2.1 h).2) (k282.2.2.2.2.2.2.1 h).1).imp (md_right_of (fun i h1 h2 => k282.2.2.1 i (fun e => absurd (e ▸ h1) (by decide +kernel)))) (md_right_of (fun i h1 h2 => k282.2.2.1 i (fun e => absurd (e ▸ h1) (by decide +kernel))))
                                                                                            have r284 := r6.tr (k282.m (by decide +kernel) (fun h => absurd h (by decide +kernel)))
                                                                                            have i285 := (k282.m (by decide +kernel) (fun h => absurd h (by decide +kernel))).2.2 i7
                                                                                            change ev_wp pg_F pg_lay none [] (ev_lu pg_c119) (fun _ => false) _ 1272 100 [some (.ref 6), some (.int l), some (.int z), some (.int d), some (.int (md_cnt σ 64)), some (.int 42)] [] s283
                                                                                            refine ⟨⟨i285, rt286⟩, ?_⟩
                                                                                            rintro _ s289 ⟨v287, k288, rfl⟩
                                                                                            have r290 := r284.tr k288
                                                                                            have i291 := k288.2.2 i285
                                                                                            exact ⟨_, rfl, Nat.le_of_eq (congrArg Prod.snd r290.2.1), _, r290, rfl⟩
                                                                                        · skip
                                                                                          change ev_wp pg_F pg_lay none [] (ev_lu pg_c119) (fun _ => false) _ 1306 72 [some (.ref 6), some (.int l), some (.int z), some (.int d), some (.int (md_cnt σ 64)), some (.int 41)] [] s5
                                                                                          refine ⟨sp_in rfl rfl, ?_⟩
                                                                                          rintro _ _ ⟨rfl, rfl⟩
                                                                                          change ev_wp pg_F pg_lay none [] (ev_lu pg_c119) (fun _ => false) _ 1295 89 [some (.ref 6), some (.int l), some (.int z), some (.int d), some (.int (md_cnt σ 64)), some (.int 41)] [.int (s5.1 7 18), .int 2, .int 4, .ref 6] s5
                                                                                          refine ⟨sp_in rfl rfl, ?_⟩
                                                                                          rintro _ s293 ⟨k292, rfl⟩
                                                                                          have rt296 : s293.1 6 10 = 0 → md_right s293 41 ∨ md_right s293 43 := fun h => ((fun h => (k4.2.2.1 h).2) (k292.2.2.2.2.2.2.1 h).1).imp (md_right_of (fun i h1 h2 => k292.2.2.1 i (fun e => absurd (e ▸ h1) (by decide +kernel)))) (md_right_of (fun i h1 h2 => k292.2.2.1 i (fun e => absurd (e ▸ h1) (by decide +kernel))))
                                                                                          have r294 := r6.tr (k292.m (by decide +kernel) (fun h => absurd h (by decide +kernel)))
                                                                                          have i295 := (k292.m (by decide +kernel) (fun h => absurd h (by decide +kernel))).2.2 i7
                                                                                          change ev_wp pg_F pg_lay none [] (ev_lu pg_c119) (fun _ => false) _ 1288 100 [some (.ref 6), some (.int l), some (.int z), some (.int d), some (.int (md_cnt σ 64)), some (.int 41)] [] s293
                                                                                          refine ⟨⟨i295, rt296⟩, ?_⟩
                                                                                          rintro _ s299 ⟨v297, k298, rfl⟩
                                                                                          have r300 := r294.tr k298
                                                                                          have i301 := k298.2.2 i295
                                                                                          exact ⟨_, rfl, Nat.le_of_eq (congrArg Prod.snd r300.2.1), _, r300, rfl⟩
                                                                                      · skip
                                                                                        change ev_wp pg_F pg_lay none [] (ev_lu pg_c119) (fun _ => false) _ 1322 72 [some (.ref 6), some (.int l), some (.int z), some (.int d), some (.int (md_cnt σ 64)), some (.int 40)] [] s5
                                                                                        refine ⟨sp_in rfl rfl, ?_⟩
                                                                                        rintro _ _ ⟨rfl, rfl⟩
                                                                                        change ev_wp pg_F pg_lay none [] (ev_lu pg_c119) (fun _ => false) _ 1311 89 [some (.ref 6), some (.int l), some (.int z), some (.int d), some (.int (md_cnt σ 64)), some (.int 40)] [.int (s5.1 7 18), .int 2, .int 4, .ref 6] s5
                                                                                        refine ⟨sp_in rfl rfl, ?_⟩
                                                                                        rintro _ s303 ⟨k302, rfl⟩
                                                                                        have rt306 : s303.1 6 10 = 0 → md_right s303 41 ∨ md_right s303 43 := fun h => ((fun h => (k4.2.2.1 h).2) (k302.2.2.2.2.2.2.1 h).1).imp (md_right_of (fun i h1 h2 => k302.2.2.1 i (fun e => absurd (e ▸ h1) (by decide +kernel)))) (md_right_of (fun i h1 h2 => k302.2.2.1 i (fun e => absurd (e ▸ h1) (by decide +kernel))))
                                                                                        have r304 := r6.tr (k302.m (by decide +kernel) (fun h => absurd h (by decide +kernel)))
                                                                                        have i305 := (k302.m (by decide +kernel) (fun h => absurd h (by decide +kernel))).2.2 i7
                                                                                        change ev_wp pg_F pg_lay none [] (ev_lu pg_c119) (fun _ => false) _ 1304 100 [some (.ref 6), some (.int l), some (.int z), some (.int d), some (.int (md_cnt σ 64)), some (.int 40)] [] s303
                                                                                        refine ⟨⟨i305, rt306⟩, ?_⟩
                                                                                        rintro _ s309 ⟨v307, k308, rfl⟩
                                                                                        have r310 := r304.tr k308
                                                                                        have i311 := k308.2.2 i305
                                                                                        exact ⟨_, rfl, Nat.le_of_eq (congrArg Prod.snd r310.2.1), _, r310, rfl⟩
                                                                                    · skip
                                                                                      change ev_wp pg_F pg_lay none [] (ev_lu pg_c119) (fun _ => false) _ 1338 72 [some (.ref 6), some (.int l), some (.int z), some (.int d), some (.int (md_cnt σ 64)), some (.int 39)] [] s5
                                                                                      refine ⟨sp_in rfl rfl, ?_⟩
                                                                                      rintro _ _ ⟨rfl, rfl⟩
                                                                                      change ev_wp pg_F pg_lay none [] (ev_lu pg_c119) (fun _ => false) _ 1327 89 [some (.ref 6), some (.int l), some (.int z), some (.int d), some (.int (md_cnt σ 64)), some (.int 39)] [.int (s5.1 7 18), .int 2, .int 4, .ref 6] s5
                                                                                      refine ⟨sp_in rfl rfl, ?_⟩
                                                                                      rintro _ s313 ⟨k312, rfl⟩
                                                                                      have rt316 : s313.1 6 10 = 0 → md_right s313 41 ∨ md_right s313 43 := fun h => ((fun h => (k4.2.2.1 h).2) (k312.2.2.2.2.2.2.1 h).1).imp (md_right_of (fun i h1 h2 => k312.2.2.1 i (fun e => absurd (e ▸ h1) (by decide +kernel)))) (md_right_of (fun i h1 h2 => k312.2.2.1 i (fun e => absurd (e ▸ h1) (by decide +kernel))))
                                                                                      have r314 := r6.tr (k312.m (by decide +kernel) (fun h => absurd h (by decide +kernel)))
                                                                                      have i315 := (k312.m (by decide +kernel) (fun h => absurd h (by decide +kernel))).2.2 i7
                                                                                      change ev_wp pg_F pg_lay none [] (ev_lu pg_c119) (fun _ => false) _ 1320 100 [some (.ref 6), some (.int l), some (.int z), some (.int d), some (.int (md_cnt σ 64)), some (.int 39)] [] s313
                                                                                      refine ⟨⟨i315, rt316⟩, ?_⟩
                                                                                      rintro _ s319 ⟨v317, k318, rfl⟩
                                                                                      have r320 := r314.tr k318
                                                                                      have i321 := k318.2.2 i315
                                                                                      exact ⟨_, rfl, Nat.le_of_eq (congrArg Prod.snd r320.2.1), _, r320, rfl⟩
                                                                                  · skip
                                                                                    change ev_wp pg_F pg_lay none [] (ev_lu pg_c119) (fun _ => false) _ 1354 72 [some (.ref 6), some (.int l), some (.int z), some (.int d), some (.int (md_cnt σ 64)), some (.int 38)] [] s5
                                                                                    refine ⟨sp_in rfl rfl, ?_⟩
                                                                                    rintro _ _ ⟨rfl, rfl⟩
                                                                                    change ev_wp pg_F pg_lay none [] (ev_lu pg_c119) (fun _ => false) _ 1343 89 [some (.ref 6), some (.int l), some (.int z), some (.int d), some (.int (md_cnt σ 64)), some (.int 38)] [.int (s5.1 7 18), .int 2, .int 4, .ref 6] s5
                                                                                    refine ⟨sp_in rfl rfl, ?_⟩
                                                                                    rintro _ s323 ⟨k322, rfl⟩
                                                                                    have rt326 : s323.1 6 10 = 0 → md_right s323 41 ∨ md_right s323 43 := fun h => ((fun h => (k4.2.2.1 h).2) (k322.2.2.2.2.2.2.1 h).1).imp (md_right_of (fun i h1 h2 => k322.2.2.1 i (fun e => absurd (e ▸ h1) (by decide +kernel)))) (md_right_of (fun i h1 h2 => k322.2.2.1 i (fun e => absurd (e ▸ h1) (by decide +kernel))))
                                                                                    have r324 := r6.tr (k322.m (by decide +kernel) (fun h => absurd h (by decide +kernel)))
                                                                                    have i325 := (k322.m (by decide +kernel) (fun h => absurd h (by decide +kernel))).2.2 i7
                                                                                    change ev_wp pg_F pg_lay none [] (ev_lu pg_c119) (fun _ => false) _ 1336 100 [some (.ref 6), some (.int l), some (.int z), some (.int d), some (.int (md_cnt σ 64)), some (.int 38)] [] s323
                                                                                    refine ⟨⟨i325, rt326⟩, ?_⟩
                                                                                    rintro _ s329 ⟨v327, k328, rfl⟩
                                                                                    have r330 := r324.tr k328
                                                                                    have i331 := k328.2.2 i325
                                                                                    exact ⟨_, rfl, Nat.le_of_eq (congrArg Prod.snd r330.2.1), _, r330, rfl⟩
                                                                                · skip
                                                                                  change ev_wp pg_F pg_lay none [] (ev_lu pg_c119) (fun _ => false) _ 1370 72 [some (.ref 6), some (.int l), some (.int z), some (.int d), some (.int (md_cnt σ 64)), some (.int 37)] [] s5
                                                                                  refine ⟨sp_in rfl rfl, ?_⟩
                                                                                  rintro _ _ ⟨rfl, rfl⟩
                                                                                  change ev_wp pg_F pg_lay none [] (ev_lu pg_c119) (fun _ => false) _ 1359 89 [some (.ref 6), some (.int l), some (.int z), some (.int d), some (.int (md_cnt σ 64)), some (.int 37)] [.int (s5.1 7 18), .int 2, .int 4, .ref 6] s5
                                                                                  refine ⟨sp_in rfl rfl, ?_⟩
                                                                                  rintro _ s333 ⟨k332, rfl⟩
                                                                                  have rt336 : s333.1 6 10 = 0 → md_right s333 41 ∨ md_right s333 43 := fun h => ((fun h => (k4.2.2.1 h).2) (k332.2.2.2.2.2.2.1 h).1).imp (md_right_of (fun i h1 h2 => k332.2.2.1 i (fun e => absurd (e ▸ h1) (by decide +kernel)))) (md_right_of (fun i h1 h2 => k332.2.2.1 i (fun e => absurd (e ▸ h1) (by decide +kernel))))
                                                                                  have r334 := r6.tr (k332.m (by decide +kernel) (fun h => absurd h (by decide +kernel)))
                                                                                  have i335 := (k332.m (by decide +kernel) (fun h => absurd h (by decide +kernel))).2.2 i7
                                                                                  change ev_wp pg_F pg_lay none [] (ev_lu pg_c119) (fun _ => false) _ 1352 100 [some (.ref 6), some (.int l), some (.int z), some (.int d), some (.int (md_cnt σ 64)), some (.int 37)] [] s333
                                                                                  refine ⟨⟨i335, rt336⟩, ?_⟩
                                                                                  rintro _ s339 ⟨v337, k338, rfl⟩
                                                                                  have r340 := r334.tr k338
                                                                                  have i341 := k338.2.2 i335
                                                                                  exact ⟨_, rfl, Nat.le_of_eq (congrArg Prod.snd r340.2.1), _, r340, rfl⟩
                                                                              · skip
                                                                                change ev_wp pg_F pg_lay none [] (ev_lu pg_c119) (fun _ => false) _ 1386 72 [some (.ref 6), some (.int l), some (.int z), some (.int d), some (.int (md_cnt σ 64)), some (.int 36)] [] s5
                                                                                refine ⟨sp_in rfl rfl, ?_⟩
                                                                                rintro _ _ ⟨rfl, rfl⟩
                                                                                change ev_wp pg_F pg_lay none [] (ev_lu pg_c119) (fun _ => false) _ 1375 89 [some (.ref 6), some (.int l), some (.int z), some (.int d), some (.int (md_cnt σ 64)), some (.int 36)] [.int (s5.1 7 18), .int 2, .int 4, .ref 6] s5
                                                                                refine ⟨sp_in rfl rfl, ?_⟩
                                                                                rintro _ s343 ⟨k342, rfl⟩
                                                                                have rt346 : s343.1 6 10 = 0 → md_right s343 41 ∨ md_right s343 43 := fun h => ((fun h => (k4.2.2.1 h).2) (k342.2.2.2.2.2.2.1 h).1).imp (md_right_of (fun i h1 h2 => k342.2.2.1 i (fun e => absurd (e ▸ h1) (by decide +kernel)))) (md_right_of (fun i h1 h2 => k342.2.2.1 i (fun e => absurd (e ▸ h1) (by decide +kernel))))
                                                                                have r344 := r6.tr (k342.m (by decide +kernel) (fun h => absurd h (by decide +kernel)))
                                                                                have i345 := (k342.m (by decide +kernel) (fun h => absurd h (by decide +kernel))).2.2 i7
                                                                                change ev_wp pg_F pg_lay none [] (ev_lu pg_c119) (fun _ => false) _ 1368 100 [some (.ref 6), some (.int l), some (.int z), some (.int d), some (.int (md_cnt σ 64)), some (.int 36)] [] s343
                                                                                refine ⟨⟨i345, rt346⟩, ?_⟩
                                                                                rintro _ s349 ⟨v347, k348, rfl⟩
                                                                                have r350 := r344.tr k348
                                                                                have i351 := k348.2.2 i345
                                                                                exact ⟨_, rfl, Nat.le_of_eq (congrArg Prod.snd r350.2.1), _, r350, rfl⟩
                                                                            · skip
                                                                              change ev_wp pg_F pg_lay none [] (ev_lu pg_c119) (fun _ => false) _ 1402 72 [some (.ref 6), some (.int l), some (.int z), some (.int d), some (.int (md_cnt σ 64)), some (.int 35)] [] s5
                                                                              refine ⟨sp_in rfl rfl, ?_⟩
                                                                              rintro _ _ ⟨rfl, rfl⟩
                                                                              change ev_wp pg_F pg_lay none [] (ev_lu pg_c119) (fun _ => false) _ 1391 89 [some (.ref 6), some (.int l), some (.int z), some (.int d), some (.int (md_cnt σ 64)), some (.int 35)] [.int (s5.1 7 18), .int 2, .int 4, .ref 6] s5
                                                                              refine ⟨sp_in rfl rfl, ?_⟩
                                                                              rintro _ s353 ⟨k352, rfl⟩
                                                                              have rt356 : s353.1 6 10 = 0 → md_right s353 41 ∨ md_right s353 43 := fun h => ((fun h => (k4.2.2.1 h).2) (k352.2.2.2.2.2.2.1 h).1).imp (md_right_of (fun i h1 h2 => k352.2.2.1 i (fun e => absurd (e ▸ h1) (by decide +kernel)))) (md_right_of (fun i h1 h2 => k352.2.2.1 i (fun e => absurd (e ▸ h1) (by decide +kernel))))
                                                                              have r354 := r6.tr (k352.m (by decide +kernel) (fun h => absurd h (by decide +kernel)))
                                                                              have i355 := (k352.m (by decide +kernel) (fun h => absurd h (by decide +kernel))).2.2 i7
                                                                              change ev_wp pg_F pg_lay none [] (ev_lu pg_c119) (fun _ => false) _ 1384 100 [some (.ref 6), some (.int l), some (.int z), some (.int d), some (.int (md_cnt σ 64)), some (.int 35)] [] s353
                                                                              refine ⟨⟨i355, rt356⟩, ?_⟩
                                                                              rintro _ s359 ⟨v357, k358, rfl⟩
                                                                              have r360 := r354.tr k358
                                                                              have i361 := k358.2.2 i355
                                                                              exact ⟨_, rfl, Nat.le_of_eq (congrArg Prod.snd r360.2.1), _, r360, rfl⟩
                                                                          · skip
                                                                            change ev_wp pg_F pg_lay none [] (ev_lu pg_c119) (fun _ => false) _ 1418 72 [some (.ref 6), some (.int l), some (.int z), some (.int d), some (.int (md_cnt σ 64)), some (.int 34)] [] s5
                                                                            refine ⟨sp_in rfl rfl, ?_⟩
                                                                            rintro _ _ ⟨rfl, rfl⟩
                                                                            change ev_wp pg_F pg_lay none [] (ev_lu pg_c119) (fun _ => false) _ 1407 89 [some (.ref 6), some (.int l), some (.int z), some (.int d), some (.int (md_cnt σ 64)), some (.int 34)] [.int (s5.1 7 18), .int 2, .int 4, .ref 6] s5
                                                                            refine ⟨sp_in rfl rfl, ?_⟩
                                                                            rintro _ s363 ⟨k362, rfl⟩
                                                                            have rt366 : s363.1 6 10 = 0 → md_right s363 41 ∨ md_right s363 43 := fun h => ((fun h => (k4.2.2.1 h).2) (k362.2.2.2.2.2.2.1 h).1).imp (md_right_of (fun i h1 h2 => k362.2.2.1 i (fun e => absurd (e ▸ h1) (by decide +kernel)))) (md_right_of (fun i h1 h2 => k362.2.2.1 i (fun e => absurd (e ▸ h1) (by decide +kernel))))
                                                                            have r364 := r6.tr (k362.m (by decide +kernel) (fun h => absurd h (by decide +kernel)))
                                                                            have i365 := (k362.m (by decide +kernel) (fun h => absurd h (by decide +kernel))).2.2 i7
                                                                            change ev_wp pg_F pg_lay none [] (ev_lu pg_c119) (fun _ => false) _ 1400 100 [some (.ref 6), some (.int l), some (.int z), some (.int d), some (.int (md_cnt σ 64)), some (.int 34)] [] s363
                                                                            refine ⟨⟨i365, rt366⟩, ?_⟩
                                                                            rintro _ s369 ⟨v367, k368, rfl⟩
                                                                            have r370 := r364.tr k368
                                                                            have i371 := k368.2.2 i365
                                                                            exact ⟨_, rfl, Nat.le_of_eq (congrArg Prod.snd r370.2.1), _, r370, rfl⟩
                                                                        · skip
                                                                          change ev_wp pg_F pg_lay none [] (ev_lu pg_c119) (fun _ => false) _ 1434 72 [some (.ref 6), some (.int l), some (.int z), some (.int d), some (.int (md_cnt σ 64)), some (.int 33)] [] s5
                                                                          refine ⟨sp_in rfl rfl, ?_⟩
                                                                          rintro _ _ ⟨rfl, rfl⟩
                                                                          change ev_wp pg_F pg_lay none [] (ev_lu pg_c119) (fun _ => false) _ 1423 89 [some (.ref 6), some (.int l), some (.int z), some (.int d), some (.int (md_cnt σ 64)), some (.int 33)] [.int (s5.1 7 18), .int 2, .int 4, .ref 6] s5
                                                                          refine ⟨sp_in rfl rfl, ?_⟩
                                                                          rintro _ s373 ⟨k372, rfl⟩
                                                                          have rt376 : s373.1 6 10 = 0 → md_right s373 41 ∨ md_right s373 43 := fun h => ((fun h => (k4.2.2.1 h).2) (k372.2.2.2.2.2.2.1 h).1).imp (md_right_of (fun i h1 h2 => k372.2.2.1 i (fun e => absurd (e ▸ h1) (by decide +kernel)))) (md_right_of (fun i h1 h2 => k372.2.2.1 i (fun e => absurd (e ▸ h1) (by decide +kernel))))
                                                                          have r374 := r6.tr (k372.m (by decide +kernel) (fun h => absurd h (by decide +kernel)))
                                                                          have i375 := (k372.m (by decide +kernel) (fun h => absurd h (by decide +kernel))).2.2 i7
                                                                          change ev_wp pg_F pg_lay none [] (ev_lu pg_c119) (fun _ => false) _ 1416 100 [some (.ref 6), some (.int l), some (.int z), some (.int d), some (.int (md_cnt σ 64)), some (.int 33)] [] s373
                                                                          refine ⟨⟨i375, rt376⟩, ?_⟩
                                                                          rintro _ s379 ⟨v377, k378, rfl⟩
                                                                          have r380 := r374.tr k378
                                                                          have i381 := k378.2.2 i375
                                                                          exact ⟨_, rfl, Nat.le_of_eq (congrArg Prod.snd r380.2.1), _, r380, rfl⟩
                                                                      · skip
                                                                        change ev_wp pg_F pg_lay none [] (ev_lu pg_c119) (fun _ => false) _ 1450 72 [some (.ref 6), some (.int l), some (.int z), some (.int d), some (.int (md_cnt σ 64)), some (.int 32)] [] s5
                                                                        refine ⟨sp_in rfl rfl, ?_⟩
                                                                        rintro _ _ ⟨rfl, rfl⟩
                                                                        change ev_wp pg_F pg_lay none [] (ev_lu pg_c119) (fun _ => false) _ 1439 89 [some (.ref 6), some (.int l), some (.int z), some (.int d), some (.int (md_cnt σ 64)), some (.int 32)] [.int (s5.1 7 18), .int 2, .int 4, .ref 6] s5
                                                                        refine ⟨sp_in rfl rfl, ?_⟩
                                                                        rintro _ s383 ⟨k382, rfl⟩
                                                                        have rt386 : s383.1 6 10 = 0 → md_right s383 41 ∨ md_right s383 43 := fun h => ((fun h => (k4.2.2.1 h).2) (k382.2.2.2.2.2.2.1 h).1).imp (md_right_of (fun i h1 h2 => k382.2.2.1 i (fun e => absurd (e ▸ h1) (by decide +kernel)))) (md_right_of (fun i h1 h2 => k382.2.2.1 i (fun e => absurd (e ▸ h1) (by decide +kernel))))
                                                                        have r384 := r6.tr (k382.m (by decide +kernel) (fun h => absurd h (by decide +kernel)))
                                                                        have i385 := (k382.m (by decide +kernel) (fun h => absurd h (by decide +kernel))).2.2 i7
                                                                        change ev_wp pg_F pg_lay none [] (ev_lu pg_c119) (fun _ => false) _ 1432 100 [some (.ref 6), some (.int l), some (.int z), some (.int d), some (.int (md_cnt σ 64)), some (.int 32)] [] s383
                                                                        refine ⟨⟨i385, rt386⟩, ?_⟩
                                                                        rintro _ s389 ⟨v387, k388, rfl⟩
                                                                        have r390 := r384.tr k388
                                                                        have i391 := k388.2.2 i385
                                                                        exact ⟨_, rfl, Nat.le_of_eq (congrArg Prod.snd r390.2.1), _, r390, rfl⟩
                                                                    · skip
                                                                      change ev_wp pg_F pg_lay none [] (ev_lu pg_c119) (fun _ => false) _ 1466 72 [some (.ref 6), some (.int l), some (.int z), some (.int d), some (.int (md_cnt σ 64)), some (.int 31)] [] s5
                                                                      refine ⟨sp_in rfl rfl, ?_⟩
                                                                      rintro _ _ ⟨rfl, rfl⟩
                                                                      change ev_wp pg_F pg_lay none [] (ev_lu pg_c119) (fun _ => false) _ 1455 89 [some (.ref 6), some (.int l), some (.int z), some (.int d), some (.int (md_cnt σ 64)), some (.int 31)] [.int (s5.1 7 17), .int 1, .int 4, .ref 6] s5
                                                                      refine ⟨sp_in rfl rfl, ?_⟩
                                                                      rintro _ s393 ⟨k392, rfl⟩
                                                                      have rt396 : s393.1 6 10 = 0 → md_right s393 41 ∨ md_right s393 43 := fun h => ((fun h => (k4.2.2.1 h).2) (k392.2.2.2.2.2.2.1 h).1).imp (md_right_of (fun i h1 h2 => k392.2.2.1 i (fun e => absurd (e ▸ h1) (by decide +kernel)))) (md_right_of (fun i h1 h2 => k392.2.2.1 i (fun e => absurd (e ▸ h1) (by decide +kernel))))
                                                                      have r394 := r6.tr (k392.m (by decide +kernel) (fun h => absurd h (by decide +kernel)))
                                                                      have i395 := (k392.m (by decide +kernel) (fun h => absurd h (by decide +kernel))).2.2 i7
                                                                      change ev_wp pg_F pg_lay none [] (ev_lu pg_c119) (fun _ => false) _ 1448 100 [some (.ref 6), some (.int l), some (.int z), some (.int d), some (.int (md_cnt σ 64)), some (.int 31)] [] s393
                                                                      refine ⟨⟨i395, rt396⟩, ?_⟩
                                                                      rintro _ s399 ⟨v397, k398, rfl⟩
                                                                      have r400 := r394.tr k398
                                                                      have i401 := k398.2.2 i395
                                                                      exact ⟨_, rfl, Nat.le_of_eq (congrArg Prod.snd r400.2.1), _, r400, rfl⟩
                                                                  · skip
                                                                    change ev_wp pg_F pg_lay none [] (ev_lu pg_c119) (fun _ => false) _ 1482 72 [some (.ref 6), some (.int l), some (.int z), some (.int d), some (.int (md_cnt σ 64)), some (.int 30)] [] s5
                                                                    refine ⟨sp_in rfl rfl, ?_⟩
                                                                    rintro _ _ ⟨rfl, rfl⟩
                                                                    change ev_wp pg_F pg_lay none [] (ev_lu pg_c119) (fun _ => false) _ 1471 89 [some (.ref 6), some (.int l), some (.int z), some (.int d), some (.int (md_cnt σ 64)), some (.int 30)] [.int (s5.1 7 17), .int 1, .int 4, .ref 6] s5
                                                                    refine ⟨sp_in rfl rfl, ?_⟩
                                                                    rintro _ s403 ⟨k402, rfl⟩
                                                                    have rt406 : s403.1 6 10 = 0 → md_right s403 41 ∨ md_right s403 43 := fun h => ((fun h => (k4.2.2.1 h).2) (k402.2.2.2.2.2.2.1 h).1).imp (md_right_of (fun i h1 h2 => k402.2.2.1 i (fun e => absurd (e ▸ h1) (by decide +kernel)))) (md_right_of (fun i h1 h2 => k402.2.2.1 i (fun e => absurd (e ▸ h1) (by decide +kernel))))
                                                                    have r404 := r6.tr (k402.m (by decide +kernel) (fun h => absurd h (by decide +kernel)))
                                                                    have i405 := (k402.m (by decide +kernel) (fun h => absurd h (by decide +kernel))).2.2 i7
                                                                    change ev_wp pg_F pg_lay none [] (ev_lu pg_c119) (fun _ => false) _ 1464 100 [some (.ref 6), some (.int l), some (.int z), some (.int d), some (.int (md_cnt σ 64)), some (.int 30)] [] s403
                                                                    refine ⟨⟨i405, rt406⟩, ?_⟩
                                                                    rintro _ s409 ⟨v407, k408, rfl⟩
                                                                    have r410 := r404.tr k408
                                                                    have i411 := k408.2.2 i405
                                                                    exact ⟨_, rfl, Nat.le_of_eq (congrArg Prod.snd r410.2.1), _, r410, rfl⟩
                                                                · skip
                                                                  change ev_wp pg_F pg_lay none [] (ev_lu pg_c119) (fun _ => false) _ 1498 72 [some (.ref 6), some (.int l), some (.int z), some (.int d), some (.int (md_cnt σ 64)), some (.int 29)] [] s5
                                                                  refine ⟨sp_in rfl rfl, ?_⟩
                                                                  rintro _ _ ⟨rfl, rfl⟩
                                                                  change ev_wp pg_F pg_lay none [] (ev_lu pg_c119) (fun _ => false) _ 1487 89 [some (.ref 6), some (.int l), some (.int z), some (.int d), some (.int (md_cnt σ 64)), some (.int 29)] [.int (s5.1 7 17), .int 1, .int 4, .ref 6] s5
                                                                  refine ⟨sp_in rfl rfl, ?_⟩
                                                                  rintro _ s413 ⟨k412, rfl⟩
                                                                  have rt416 : s413.1 6 10 = 0 → md_right s413 41 ∨ md_right s413 43 := fun h => ((fun h => (k4.2.2.1 h).2) (k412.2.2.2.2.2.2.1 h).1).imp (md_right_of (fun i h1 h2 => k412.2.2.1 i (fun e => absurd (e ▸ h1) (by decide +kernel)))) (md_right_of (fun i h1 h2 => k412.2.2.1 i (fun e => absurd (e ▸ h1) (by decide +kernel))))
                                                                  have r414 := r6.tr (k412.m (by decide +kernel) (fun h => absurd h (by decide +kernel)))
                                                                  have i415 := (k412.m (by decide +kernel) (fun h => absurd h (by decide +kernel))).2.2 i7
                                                                  change ev_wp pg_F pg_lay none [] (ev_lu pg_c119) (fun _ => false) _ 1480 100 [some (.ref 6), some (.int l), some (.int z), some (.int d), some (.int (md_cnt σ 64)), some (.int 29)] [] s413
                                                                  refine ⟨⟨i415, rt416⟩, ?_⟩
                                                                  rintro _ s419 ⟨v417, k418, rfl⟩
                                                                  have r420 := r414.tr k418
                                                                  have i421 := k418.2.2 i415
                                                                  exact ⟨_, rfl, Nat.le_of_eq (congrArg Prod.snd r420.2.1), _, r420, rfl⟩
                                                              · skip
                                                                change ev_wp pg_F pg_lay none [] (ev_lu pg_c119) (fun _ => false) _ 1514 72 [some (.ref 6), some (.int l), some (.int z), some (.int d), some (.int (md_cnt σ 64)), some (.int 28)] [] s5
                                                                refine ⟨sp_in rfl rfl, ?_⟩
                                                                rintro _ _ ⟨rfl, rfl⟩
                                                                change ev_wp pg_F pg_lay none [] (ev_lu pg_c119) (fun _ => false) _ 1503 89 [some (.ref 6), some (.int l), some (.int z), some (.int d), some (.int (md_cnt σ 64)), some (.int 28)] [.int (s5.1 7 17), .int 1, .int 4, .ref 6] s5
                                                                refine ⟨sp_in rfl rfl, ?_⟩
                                                                rintro _ s423 ⟨k422, rfl⟩
                                                                have rt426 : s423.1 6 10 = 0 → md_right s423 41 ∨ md_right s423 43 := fun h => ((fun h => (k4.2.2.1 h).2) (k422.2.2.2.2.2.2.1 h).1).imp (md_right_of (fun i h1 h2 => k422.2.2.1 i (fun e => absurd (e ▸ h1) (by decide +kernel)))) (md_right_of (fun i h1 h2 => k422.2.2.1 i (fun e => absurd (e ▸ h1) (by decide +kernel))))
                                                                have r424 := r6.tr (k422.m (by decide +kernel) (fun h => absurd h (by decide +kernel)))
                                                                have i425 := (k422.m (by decide +kernel) (fun h => absurd h (by decide +kernel))).2.2 i7
                                                                change ev_wp pg_F pg_lay none [] (ev_lu pg_c119) (fun _ => false) _ 1496 100 [some (.ref 6), some (.int l), some (.int z), some (.int d), some (.int (md_cnt σ 64)), some (.int 28)] [] s423
                                                                refine ⟨⟨i425, rt426⟩, ?_⟩
                                                                rintro _ s429 ⟨v427, k428, rfl⟩
                                                                have r430 := r424.tr k428
                                                                have i431 := k428.2.2 i425
                                                                exact ⟨_, rfl, Nat.le_of_eq (congrArg Prod.snd r430.2.1), _, r430, rfl⟩
                                                            · skip
                                                              change ev_wp pg_F pg_lay none [] (ev_lu pg_c119) (fun _ => false) _ 1530 72 [some (.ref 6), some (.int l), some (.int z), some (.int d), some (.int (md_cnt σ 64)), some (.int 27)] [] s5
                                                              refine ⟨sp_in rfl rfl, ?_⟩
                                                              rintro _ _ ⟨rfl, rfl⟩
                                                              change ev_wp pg_F pg_lay none [] (ev_lu pg_c119) (fun _ => false) _ 1519 89 [some (.ref 6), some (.int l), some (.int z), some (.int d), some (.int (md_cnt σ 64)), some (.int 27)] [.int (s5.1 7 17), .int 1, .int 4, .ref 6] s5
                                                              refine ⟨sp_in rfl rfl, ?_⟩
                                                              rintro _ s433 ⟨k432, rfl⟩
                                                              have rt436 : s433.1 6 10 = 0 → md_right s433 41 ∨ md_right s433 43 := fun h => ((fun h => (k4.2.2.1 h).2) (k432.2.2.2.2.2.2.1 h).1).imp (md_right_of (fun i h1 h2 => k432.2.2.1 i (fun e => absurd (e ▸ h1) (by decide +kernel)))) (md_right_of (fun i h1 h2 => k432.2.2.1 i (fun e => absurd (e ▸ h1) (by decide +kernel))))
                                                              have r434 := r6.tr (k432.m (by decide +kernel) (fun h => absurd h (by decide +kernel)))
                                                              have i435 := (k432.m (by decide +kernel) (fun h => absurd h (by decide +kernel))).2.2 i7
                                                              change ev_wp pg_F pg_lay none [] (ev_lu pg_c119) (fun _ => false) _ 1512 100 [some (.ref 6), some (.int l), some (.int z), some (.int d), some (.int (md_cnt σ 64)), some (.int 27)] [] s433
                                                              refine ⟨⟨i435, rt436⟩, ?_⟩
                                                              rintro _ s439 ⟨v437, k438, rfl⟩
                                                              have r440 := r434.tr k438
                                                              have i441 := k438.2.2 i435
                                                              exact ⟨_, rfl, Nat.le_of_eq (congrArg Prod.snd r440.2.1), _, r440, rfl⟩
                                                          · skip
                                                            change ev_wp pg_F pg_lay none [] (ev_lu pg_c119) (fun _ => false) _ 1546 72 [some (.ref 6), some (.int l), some (.int z), some (.int d), some (.int (md_cnt σ 64)), some (.int 26)] [] s5
                                                            refine ⟨sp_in rfl rfl, ?_⟩
                                                            rintro _ _ ⟨rfl, rfl⟩
                                                            change ev_wp pg_F pg_lay none [] (ev_lu pg_c119) (fun _ => false) _ 1535 89 [some (.ref 6), some (.int l), some (.int z), some (.int d), some (.int (md_cnt σ 64)), some (.int 26)] [.int (s5.1 7 17), .int 1, .int 4, .ref 6] s5
                                                            refine ⟨sp_in rfl rfl, ?_⟩
                                                            rintro _ s443 ⟨k442, rfl⟩
                                                            have rt446 : s443.1 6 10 = 0 → md_right s443 41 ∨ md_right s443 43 := fun h => ((fun h => (k4.2.2.1 h).2) (k442.2.2.2.2.2.2.1 h).1).imp (md_right_of (fun i h1 h2 => k442.2.2.1 i (fun e => absurd (e ▸ h1) (by decide +kernel)))) (md_right_of (fun i h1 h2 => k442.2.2.1 i (fun e => absurd (e ▸ h1) (by decide +kernel))))
                                                            have r444 := r6.tr (k442.m (by decide +kernel) (fun h => absurd h (by decide +kernel)))
                                                            have i445 := (k442.m (by decide +kernel) (fun h => absurd h (by decide +kernel))).2.2 i7
                                                            change ev_wp pg_F pg_lay none [] (ev_lu pg_c119) (fun _ => false) _ 1528 100 [some (.ref 6), some (.int l), some (.int z), some (.int d), some (.int (md_cnt σ 64)), some (.int 26)] [] s443
                                                            refine ⟨⟨i445, rt446⟩, ?_⟩
                                                            rintro _ s449 ⟨v447, k448, rfl⟩
                                                            have r450 := r444.tr k448
                                                            have i451 := k448.2.2 i445
                                                            exact ⟨_, rfl, Nat.le_of_eq (congrArg Prod.snd r450.2.1), _, r450, rfl⟩
                                                        · skip
                                                          change ev_wp pg_F pg_lay none [] (ev_lu pg_c119) (fun _ => false) _ 1562 72 [some (.ref 6), some (.int l), some (.int z), some (.int d), some (.int (md_cnt σ 64)), some (.int 25)] [] s5
                                                          refine ⟨sp_in rfl rfl, ?_⟩
                                                          rintro _ _ ⟨rfl, rfl⟩
                                                          change ev_wp pg_F pg_lay none [] (ev_lu pg_c119) (fun _ => false) _ 1551 89 [some (.ref 6), some (.int l), some (.int z), some (.int d), some (.int (md_cnt σ 64)), some (.int 25)] [.int (s5.1 7 17), .int 1, .int 4, .ref 6] s5
                                                          refine ⟨sp_in rfl rfl, ?_⟩
                                                          rintro _ s453 ⟨k452, rfl⟩
                                                          have rt456 : s453.1 6 10 = 0 → md_right s453 41 ∨ md_right s453 43 := fun h => ((fun h => (k4.2.2.1 h).2) (k452.2.2.2.2.2.2.1 h).1).imp (md_right_of (fun i h1 h2 => k452.2.2.1 i (fun e => absurd (e ▸ h1) (by decide +kernel)))) (md_right_of (fun i h1 h2 => k452.2.2.1 i (fun e => absurd (e ▸ h1) (by decide +kernel))))
                                                          have r454 := r6.tr (k452.m (by decide +kernel) (fun h => absurd h (by decide +kernel)))
                                                          have i455 := (k452.m (by decide +kernel) (fun h => absurd h (by decide +kernel))).2.2 i7
                                                          change ev_wp pg_F pg_lay none [] (ev_lu pg_c119) (fun _ => false) _ 1544 100 [some (.ref 6), some (.int l), some (.int z), some (.int d), some (.int (md_cnt σ 64)), some (.int 25)] [] s453
                                                          refine ⟨⟨i455, rt456⟩, ?_⟩
                                                          rintro _ s459 ⟨v457, k458, rfl⟩
                                                          have r460 := r454.tr k458
                                                          have i461 := k458.2.2 i455
                                                          exact ⟨_, rfl, Nat.le_of_eq (congrArg Prod.snd r460.2.1), _, r460, rfl⟩
                                                      · skip
                                                        change ev_wp pg_F pg_lay none [] (ev_lu pg_c119) (fun _ => false) _ 1578 72 [some (.ref 6), some (.int l), some (.int z), some (.int d), some (.int (md_cnt σ 64)), some (.int 24)] [] s5
                                                        refine ⟨sp_in rfl rfl, ?_⟩
                                                        rintro _ _ ⟨rfl, rfl⟩
                                                        change ev_wp pg_F pg_lay none [] (ev_lu pg_c119) (fun _ => false) _ 1567 89 [some (.ref 6), some (.int l), some (.int z), some (.int d), some (.int (md_cnt σ 64)), some (.int 24)] [.int (s5.1 7 17), .int 1, .int 4, .ref 6] s5
                                                        refine ⟨sp_in rfl rfl, ?_⟩
                                                        rintro _ s463 ⟨k462, rfl⟩
                                                        have rt466 : s463.1 6 10 = 0 → md_right s463 41 ∨ md_right s463 43 := fun h => ((fun h => (k4.2.2.1 h).2) (k462.2.2.2.2.2.2.1 h).1).imp (md_right_of (fun i h1 h2 => k462.2.2.1 i (fun e => absurd (e ▸ h1) (by decide +kernel)))) (md_right_of (fun i h1 h2 => k462.2.2.1 i (fun e => absurd (e ▸ h1) (by decide +kernel))))
                                                        have r464 := r6.tr (k462.m (by decide +kernel) (fun h => absurd h (by decide +kernel)))
                                                        have i465 := (k462.m (by decide +kernel) (fun h => absurd h (by decide +kernel))).2.2 i7
                                                        change ev_wp pg_F pg_lay none [] (ev_lu pg_c119) (fun _ => false) _ 1560 100 [some (.ref 6), some (.int l), some (.int z), some (.int d), some (.int (md_cnt σ 64)), some (.int 24)] [] s463
                                                        refine ⟨⟨i465, rt466⟩, ?_⟩
                                                        rintro _ s469 ⟨v467, k468, rfl⟩
                                                        have r470 := r464.tr k468
                                                        have i471 := k468.2.2 i465
                                                        exact ⟨_, rfl, Nat.le_of_eq (congrArg Prod.snd r470.2.1), _, r470, rfl⟩
                                                    · skip
                                                      change ev_wp pg_F pg_lay none [] (ev_lu pg_c119) (fun _ => false) _ 1594 72 [some (.ref 6), some (.int l), some (.int z), some (.int d), some (.int (md_cnt σ 64)), some (.int 23)] [] s5
                                                      refine ⟨sp_in rfl rfl, ?_⟩
                                                      rintro _ _ ⟨rfl, rfl⟩
                                                      change ev_wp pg_F pg_lay none [] (ev_lu pg_c119) (fun _ => false) _ 1583 89 [some (.ref 6), some (.int l), some (.int z), some (.int d), some (.int (md_cnt σ 64)), some (.int 23)] [.int (s5.1 7 17), .int 1, .int 4, .ref 6] s5
                                                      refine ⟨sp_in rfl rfl, ?_⟩
                                                      rintro _ s473 ⟨k472, rfl⟩
                                                      have rt476 : s473.1 6 10 = 0 → md_right s473 41 ∨ md_right s473 43 := fun h => ((fun h => (k4.2.2.1 h).2) (k472.2.2.2.2.2.2.1 h).1).imp (md_right_of (fun i h1 h2 => k472.2.2.1 i (fun e => absurd (e ▸ h1) (by decide +kernel)))) (md_right_of (fun i h1 h2 => k472.2.2.1 i (fun e => absurd (e ▸ h1) (by decide +kernel))))
                                                      have r474 := r6.tr (k472.m (by decide +kernel) (fun h => absurd h (by decide +kernel)))
                                                      have i475 := (k472.m (by decide +kernel) (fun h => absurd h (by decide +kernel))).2.2 i7
                                                      change ev_wp pg_F pg_lay none [] (ev_lu pg_c119) (fun _ => false) _ 1576 100 [some (.ref 6), some (.int l), some (.int z), some (.int d), some (.int (md_cnt σ 64)), some (.int 23)] [] s473
                                                      refine ⟨⟨i475, rt476⟩, ?_⟩
                                                      rintro _ s479 ⟨v477, k478, rfl⟩
                                                      have r480 := r474.tr k478
                                                      have i481 := k478.2.2 i475
                                                      exact ⟨_, rfl, Nat.le_of_eq (congrArg Prod.snd r480.2.1), _, r480, rfl⟩
                                                  · skip
                                                    change ev_wp pg_F pg_lay none [] (ev_lu pg_c119) (fun _ => false) _ 1610 72 [some (.ref 6), some (.int l), some (.int z), some (.int d), some (.int (md_cnt σ 64)), some (.int 22)] [] s5
                                                    refine ⟨sp_in rfl rfl, ?_⟩
                                                    rintro _ _ ⟨rfl, rfl⟩
                                                    change ev_wp pg_F pg_lay none [] (ev_lu pg_c119) (fun _ => false) _ 1599 89 [some (.ref 6), some (.int l), some (.int z), some (.int d), some (.int (md_cnt σ 64)), some (.int 22)] [.int (s5.1 7 17), .int 1, .int 4, .ref 6] s5
                                                    refine ⟨sp_in rfl rfl, ?_⟩
                                                    rintro _ s483 ⟨k482, rfl⟩
                                                    have rt486 : s483.1 6 10 = 0 → md_right s483 41 ∨ md_right s483 43 := fun h => ((fun h => (k4.2.2.1 h).2) (k482.2.2.2.2.2.2.1 h).1).imp (md_right_of (fun i h1 h2 => k482.2.2.1 i (fun e => absurd (e ▸ h1) (by decide +kernel)))) (md_right_of (fun i h1 h2 => k482.2.2.1 i (fun e => absurd (e ▸ h1) (by decide +kernel))))
                                                    have r484 := r6.tr (k482.m (by decide +kernel) (fun h => absurd h (by decide +kernel)))
                                                    have i485 := (k482.m (by decide +kernel) (fun h => absurd h (by decide +kernel))).2.2 i7
                                                    change ev_wp pg_F pg_lay none [] (ev_lu pg_c119) (fun _ => false) _ 1592 100 [some (.ref 6), some (.int l), some (.int z), some (.int d), some (.int (md_cnt σ 64)), some (.int 22)] [] s483
                                                    refine ⟨⟨i485, rt486⟩, ?_⟩
                                                    rintro _ s489 ⟨v487, k488, rfl⟩
                                                    have r490 := r484.tr k488
                                                    have i491 := k488.2.2 i485
                                                    exact ⟨_, rfl, Nat.le_of_eq (congrArg Prod.snd r490.2.1), _, r490, rfl⟩
                                                · skip
                                                  change ev_wp pg_F pg_lay none [] (ev_lu pg_c119) (fun _ => false) _ 1626 72 [some (.ref 6), some (.int l), some (.int z), some (.int d), some (.int (md_cnt σ 64)), some (.int 21)] [] s5
                                                  refine ⟨sp_in rfl rfl, ?_⟩
                                                  rintro _ _ ⟨rfl, rfl⟩
                                                  change ev_wp pg_F pg_lay none [] (ev_lu pg_c119) (fun _ => false) _ 1615 89 [some (.ref 6), some (.int l), some (.int z), some (.int d), some (.int (md_cnt σ 64)), some (.int 21)] [.int (s5.1 7 17), .int 1, .int 4, .ref 6] s5
                                                  refine ⟨sp_in rfl rfl, ?_⟩
                                                  rintro _ s493 ⟨k492, rfl⟩
                                                  have rt496 : s493.1 6 10 = 0 → md_right s493 41 ∨ md_right s493 43 := fun h => ((fun h => (k4.2.2.1 h).2) (k492.2.2.2.2.2.2.1 h).1).imp (md_right_of (fun i h1 h2 => k492.2.2.1 i (fun e => absurd (e ▸ h1) (by decide +kernel)))) (md_right_of (fun i h1 h2 => k492.2.2.1 i (fun e => absurd (e ▸ h1) (by decide +kernel))))
                                                  have r494 := r6.tr (k492.m (by decide +kernel) (fun h => absurd h (by decide +kernel)))
                                                  have i495 := (k492.m (by decide +kernel) (fun h => absurd h (by decide +kernel))).2.2 i7
                                                  change ev_wp pg_F pg_lay none [] (ev_lu pg_c119) (fun _ => false) _ 1608 100 [some (.ref 6), some (.int l), some (.int z), some (.int d), some (.int (md_cnt σ 64)), some (.int 21)] [] s493
                                                  refine ⟨⟨i495, rt496⟩, ?_⟩
                                                  rintro _ s499 ⟨v497, k498, rfl⟩
                                                  have r500 := r494.tr k498
                                                  have i501 := k498.2.2 i495
                                                  exact ⟨_, rfl, Nat.le_of_eq (congrArg Prod.snd r500.2.1), _, r500, rfl⟩
                                              · skip
                                                change ev_wp pg_F pg_lay none [] (ev_lu pg_c119) (fun _ => false) _ 1642 72 [some (.ref 6), some (.int l), some (.int z), some (.int d), some (.int (md_cnt σ 64)), some (.int 20)] [] s5
                                                refine ⟨sp_in rfl rfl, ?_⟩
                                                rintro _ _ ⟨rfl, rfl⟩
                                                change ev_wp pg_F pg_lay none [] (ev_lu pg_c119) (fun _ => false) _ 1631 89 [some (.ref 6), some (.int l), some (.int z), some (.int d), some (.int (md_cnt σ 64)), some (.int 20)] [.int (s5.1 7 17), .int 1, .int 4, .ref 6] s5
                                                refine ⟨sp_in rfl rfl, ?_⟩
                                                rintro _ s503 ⟨k502, rfl⟩
                                                have rt506 : s503.1 6 10 = 0 → md_right s503 41 ∨ md_right s503 43 := fun h => ((fun h => (k4.2.2.1 h).2) (k502.2.2.2.2.2.2.1 h).1).imp (md_right_of (fun i h1 h2 => k502.2.2.1 i (fun e => absurd (e ▸ h1) (by decide +kernel)))) (md_right_of (fun i h1 h2 => k502.2.2.1 i (fun e => absurd (e ▸ h1) (by decide +kernel))))
                                                have r504 := r6.tr (k502.m (by decide +kernel) (fun h => absurd h (by decide +kernel)))
                                                have i505 := (k502.m (by decide +kernel) (fun h => absurd h (by decide +kernel))).2.2 i7
                                                change ev_wp pg_F pg_lay none [] (ev_lu pg_c119) (fun _ => false) _ 1624 100 [some (.ref 6), some (.int l), some (.int z), some (.int d), some (.int (md_cnt σ 64)), some (.int 20)] [] s503
                                                refine ⟨⟨i505, rt506⟩, ?_⟩
                                                rintro _ s509 ⟨v507, k508, rfl⟩
                                                have r510 := r504.tr k508
                                                have i511 := k508.2.2 i505
                                                exact ⟨_, rfl, Nat.le_of_eq (congrArg Prod.snd r510.2.1), _, r510, rfl⟩
                                            · skip
                                              change ev_wp pg_F pg_lay none [] (ev_lu pg_c119) (fun _ => false) _ 1658 72 [some (.ref 6), some (.int l), some (.int z), some (.int d), some (.int (md_cnt σ 64)), some (.int 19)] [] s5
                                              refine ⟨sp_in rfl rfl, ?_⟩
                                              rintro _ _ ⟨rfl, rfl⟩
                                              change ev_wp pg_F pg_lay none [] (ev_lu pg_c119) (fun _ => false) _ 1647 89 [some (.ref 6), some (.int l), some (.int z), some (.int d), some (.int (md_cnt σ 64)), some (.int 19)] [.int (s5.1 7 17), .int 1, .int 4, .ref 6] s5
                                              refine ⟨sp_in rfl rfl, ?_⟩
                                              rintro _ s513 ⟨k512, rfl⟩
                                              have rt516 : s513.1 6 10 = 0 → md_right s513 41 ∨ md_right s513 43 := fun h => ((fun h => (k4.2.2.1 h).2) (k512.2.2.2.2.2.2.1 h).1).imp (md_right_of (fun i h1 h2 => k512.2.2.1 i (fun e => absurd (e ▸ h1) (by decide +kernel)))) (md_right_of (fun i h1 h2 => k512.2.2.1 i (fun e => absurd (e ▸ h1) (by decide +kernel))))
                                              have r514 := r6.tr (k512.m (by decide +kernel) (fun h => absurd h (by decide +kernel)))
                                              have i515 := (k512.m (by decide +kernel) (fun h => absurd h (by decide +kernel))).2.2 i7
                                              change ev_wp pg_F pg_lay none [] (ev_lu pg_c119) (fun _ => false) _ 1640 100 [some (.ref 6), some (.int l), some (.int z), some (.int d), some (.int (md_cnt σ 64)), some (.int 19)] [] s513
                                              refine ⟨⟨i515, rt516⟩, ?_⟩
                                              rintro _ s519 ⟨v517, k518, rfl⟩
                                              have r520 := r514.tr k518
                                              have i521 := k518.2.2 i515
                                              exact ⟨_, rfl, Nat.le_of_eq (congrArg Prod.snd r520.2.1), _, r520, rfl⟩
                                          · skip
                                            change ev_wp pg_F pg_lay none [] (ev_lu pg_c119) (fun _ => false) _ 1674 72 [some (.ref 6), some (.int l), some (.int z), some (.int d), some (.int (md_cnt σ 64)), some (.int 18)] [] s5
                                            refine ⟨sp_in rfl rfl, ?_⟩
                                            rintro _ _ ⟨rfl, rfl⟩
                                            change ev_wp pg_F pg_lay none [] (ev_lu pg_c119) (fun _ => false) _ 1663 89 [some (.ref 6), some (.int l), some (.int z), some (.int d), some (.int (md_cnt σ 64)), some (.int 18)] [.int (s5.1 7 17), .int 1, .int 4, .ref 6] s5
                                            refine ⟨sp_in rfl rfl, ?_⟩
                                            rintro _ s523 ⟨k522, rfl⟩
                                            have rt526 : s523.1 6 10 = 0 → md_right s523 41 ∨ md_right s523 43 := fun h => ((fun h => (k4.2.2.1 h).2) (k522.2.2.2.2.2.2.1 h).1).imp (md_right_of (fun i h1 h2 => k522.2.2.1 i (fun e => absurd (e ▸ h1) (by decide +kernel)))) (md_right_of (fun i h1 h2 => k522.2.2.1 i (fun e => absurd (e ▸ h1) (by decide +kernel))))
                                            have r524 := r6.tr (k522.m (by decide +kernel) (fun h => absurd h (by decide +kernel)))
                                            have i525 := (k522.m (by decide +kernel) (fun h => absurd h (by decide +kernel))).2.2 i7
                                            change ev_wp pg_F pg_lay none [] (ev_lu pg_c119) (fun _ => false) _ 1656 100 [some (.ref 6), some (.int l), some (.int z), some (.int d), some (.int (md_cnt σ 64)), some (.int 18)] [] s523
                                            refine ⟨⟨i525, rt526⟩, ?_⟩
                                            rintro _ s529 ⟨v527, k528, rfl⟩
                                            have r530 := r524.tr k528
                                            have i531 := k528.2.2 i525
                                            exact ⟨_, rfl, Nat.le_of_eq (congrArg Prod.snd r530.2.1), _, r530, rfl⟩
                                        · skip
                                          change ev_wp pg_F pg_lay none [] (ev_lu pg_c119) (fun _ => false) _ 1690 72 [some (.ref 6), some (.int l), some (.int z), some (.int d), some (.int (md_cnt σ 64)), some (.int 17)] [] s5
                                          refine ⟨sp_in rfl rfl, ?_⟩
                                          rintro _ _ ⟨rfl, rfl⟩
                                          change ev_wp pg_F pg_lay none [] (ev_lu pg_c119) (fun _ => false) _ 1679 89 [some (.ref 6), some (.int l), some (.int z), some (.int d), some (.int (md_cnt σ 64)), some (.int 17)] [.int (s5.1 7 17), .int 1, .int 4, .ref 6] s5
                                          refine ⟨sp_in rfl rfl, ?_⟩
                                          rintro _ s533 ⟨k532, rfl⟩
                                          have rt536 : s533.1 6 10 = 0 → md_right s533 41 ∨ md_right s533 43 := fun h => ((fun h => (k4.2.2.1 h).2) (k532.2.2.2.2.2.2.1 h).1).imp (md_right_of (fun i h1 h2 => k532.2.2.1 i (fun e => absurd (e ▸ h1) (by decide +kernel)))) (md_right_of (fun i h1 h2 => k532.2.2.1 i (fun e => absurd (e ▸ h1) (by decide +kernel))))
                                          have r534 := r6.tr (k532.m (by decide +kernel) (fun h => absurd h (by decide +kernel)))
                                          have i535 := (k532.m (by decide +kernel) (fun h => absurd h (by decide +kernel))).2.2 i7
                                          change ev_wp pg_F pg_lay none [] (ev_lu pg_c119) (fun _ => false) _ 1672 100 [some (.ref 6), some (.int l), some (.int z), some (.int d), some (.int (md_cnt σ 64)), some (.int 17)] [] s533
                                          refine ⟨⟨i535, rt536⟩, ?_⟩
                                          rintro _ s539 ⟨v537, k538, rfl⟩
                                          have r540 := r534.tr k538
                                          have i541 := k538.2.2 i535
                                          exact ⟨_, rfl, Nat.le_of_eq (congrArg Prod.snd r540.2.1), _, r540, rfl⟩
                                      · skip
                                        change ev_wp pg_F pg_lay none [] (ev_lu pg_c119) (fun _ => false) _ 1706 72 [some (.ref 6), some (.int l), some (.int z), some (.int d), some (.int (md_cnt σ 64)), some (.int 16)] [] s5
                                        refine ⟨sp_in rfl rfl, ?_⟩
                                        rintro _ _ ⟨rfl, rfl⟩
                                        change ev_wp pg_F pg_lay none [] (ev_lu pg_c119) (fun _ => false) _ 1695 89 [some (.ref 6), some (.int l), some (.int z), some (.int d), some (.int (md_cnt σ 64)), some (.int 16)] [.int (s5.1 7 17), .int 1, .int 4, .ref 6] s5
                                        refine ⟨sp_in rfl rfl, ?_⟩
                                        rintro _ s543 ⟨k542, rfl⟩
                                        have rt546 : s543.1 6 10 = 0 → md_right s543 41 ∨ md_right s543 43 := fun h => ((fun h => (k4.2.2.1 h).2) (k542.2.2.2.2.2.2.1 h).1).imp (md_right_of (fun i h1 h2 => k542.2.2.1 i (fun e => absurd (e ▸ h1) (by decide +kernel)))) (md_right_of (fun i h1 h2 => k542.2.2.1 i (fun e => absurd (e ▸ h1) (by decide +kernel))))
                                        have r544 := r6.tr (k542.m (by decide +kernel) (fun h => absurd h (by decide +kernel)))
                                        have i545 := (k542.m (by decide +kernel) (fun h => absurd h (by decide +kernel))).2.2 i7
                                        change ev_wp pg_F pg_lay none [] (ev_lu pg_c119) (fun _ => false) _ 1688 100 [some (.ref 6), some (.int l), some (.int z), some (.int d), some (.int (md_cnt σ 64)), some (.int 16)] [] s543
                                        refine ⟨⟨i545, rt546⟩, ?_⟩
                                        rintro _ s549 ⟨v547, k548, rfl⟩
                                        have r550 := r544.tr k548
                                        have i551 := k548.2.2 i545
                                        exact ⟨_, rfl, Nat.le_of_eq (congrArg Prod.snd r550.2.1), _, r550, rfl⟩
                                    · skip
                                      change ev_wp pg_F pg_lay none [] (ev_lu pg_c119) (fun _ => false) _ 1722 72 [some (.ref 6), some (.int l), some (.int z), some (.int d), some (.int (md_cnt σ 64)), some (.int 15)] [] s5
                                      refine ⟨sp_in rfl rfl, ?_⟩
                                      rintro _ _ ⟨rfl, rfl⟩
                                      change ev_wp pg_F pg_lay none [] (ev_lu pg_c119) (fun _ => false) _ 1711 89 [some (.ref 6), some (.int l), some (.int z), some (.int d), some (.int (md_cnt σ 64)), some (.int 15)] [.int (s5.1 7 16), .int 0, .int 4, .ref 6] s5
                                      refine ⟨sp_in rfl rfl, ?_⟩
                                      rintro _ s553 ⟨k552, rfl⟩
                                      have rt556 : s553.1 6 10 = 0 → md_right s553 41 ∨ md_right s553 43 := fun h => ((fun h => (k4.2.2.1 h).2) (k552.2.2.2.2.2.2.1 h).1).imp (md_right_of (fun i h1 h2 => k552.2.2.1 i (fun e => absurd (e ▸ h1) (by decide +kernel)))) (md_right_of (fun i h1 h2 => k552.2.2.1 i (fun e => absurd (e ▸ h1) (by decide +kernel))))
                                      have r554 := r6.tr (k552.m (by decide +kernel) (fun h => absurd h (by decide +kernel)))
                                      have i555 := (k552.m (by decide +kernel) (fun h => absurd h (by decide +kernel))).2.2 i7
                                      change ev_wp pg_F pg_lay none [] (ev_lu pg_c119) (fun _ => false) _ 1704 100 [some (.ref 6), some (.int l), some (.int z), some (.int d), some (.int (md_cnt σ 64)), some (.int 15)] [] s553
                                      refine ⟨⟨i555, rt556⟩, ?_⟩
                                      rintro _ s559 ⟨v557, k558, rfl⟩
                                      have r560 := r554.tr k558
                                      have i561 := k558.2.2 i555
                                      exact ⟨_, rfl, Nat.le_of_eq (congrArg Prod.snd r560.2.1), _, r560, rfl⟩
                                  · skip
                                    change ev_wp pg_F pg_lay none [] (ev_lu pg_c119) (fun _ => false) _ 1738 72 [some (.ref 6), some (.int l), some (.int z), some (.int d), some (.int (md_cnt σ 64)), some (.int 14)] [] s5
                                    refine ⟨sp_in rfl rfl, ?_⟩
                                    rintro _ _ ⟨rfl, rfl⟩
                                    change ev_wp pg_F pg_lay none [] (ev_lu pg_c119) (fun _ => false) _ 1727 89 [some (.ref 6), some (.int l), some (.int z), some (.int d), some (.int (md_cnt σ 64)), some (.int 14)] [.int (s5.1 7 16), .int 0, .int 4, .ref 6] s5
                                    refine ⟨sp_in rfl rfl, ?_⟩
                                    rintro _ s563 ⟨k562, rfl⟩
                                    have rt566 : s563.1 6 10 = 0 → md_right s563 41 ∨ md_right s563 43 := fun h => ((fun h => (k4.2.2.1 h).2) (k562.2.2.2.2.2.2.1 h).1).imp (md_right_of (fun i h1 h2 => k562.2.2.1 i (fun e => absurd (e ▸ h1) (by decide +kernel)))) (md_right_of (fun i h1 h2 => k562.2.2.1 i (fun e => absurd (e ▸ h1) (by decide +kernel))))
                                    have r564 := r6.tr (k562.m (by decide +kernel) (fun h => absurd h (by decide +kernel)))
                                    have i565 := (k562.m (by decide +kernel) (fun h => absurd h (by decide +kernel))).2.2 i7
                                    change ev_wp pg_F pg_lay none [] (ev_lu pg_c119) (fun _ => false) _ 1720 100 [some (.ref 6), some (.int l), some (.int z), some (.int d), some (.int (md_cnt σ 64)), some (.int 14)] [] s563
                                    refine ⟨⟨i565, rt566⟩, ?_⟩
                                    rintro _ s569 ⟨v567, k568, rfl⟩
                                    have r570 := r564.tr k568
                                    have i571 := k568.2.2 i565
                                    exact ⟨_, rfl, Nat.le_of_eq (congrArg Prod.snd r570.2.1), _, r570, rfl⟩
                                · skip
                                  change ev_wp pg_F pg_lay none [] (ev_lu pg_c119) (fun _ => false) _ 1754 72 [some (.ref 6), some (.int l), some (.int z), some (.int d), some (.int (md_cnt σ 64)), some (.int 13)] [] s5
                                  refine ⟨sp_in rfl rfl, ?_⟩
                                  rintro _ _ ⟨rfl, rfl⟩
                                  change ev_wp pg_F pg_lay none [] (ev_lu pg_c119) (fun _ => false) _ 1743 89 [some (.ref 6), some (.int l), some (.int z), some (.int d), some (.int (md_cnt σ 64)), some (.int 13)] [.int (s5.1 7 16), .int 0, .int 4, .ref 6] s5
                                  refine ⟨sp_in rfl rfl, ?_⟩
                                  rintro _ s573 ⟨k572, rfl⟩
                                  have rt576 : s573.1 6 10 = 0 → md_right s573 41 ∨ md_right s573 43 := fun h => ((fun h => (k4.2.2.1 h).2) (k572.2.2.2.2.2.2.1 h).1).imp (md_right_of (fun i h1 h2 => k572.2.2.1 i (fun e => absurd (e ▸ h1) (by decide +kernel)))) (md_right_of (fun i h1 h2 => k572.2.2.1 i (fun e => absurd (e ▸ h1) (by decide +kernel))))
                                  have r574 := r6.tr (k572.m (by decide +kernel) (fun h => absurd h (by decide +kernel)))
                                  have i575 := (k572.m (by decide +kernel) (fun h => absurd h (by decide +kernel))).2.2 i7
                                  change ev_wp pg_F pg_lay none [] (ev_lu pg_c119) (fun _ => false) _ 1736 100 [some (.ref 6), some (.int l), some (.int z), some (.int d), some (.int (md_cnt σ 64)), some (.int 13)] [] s573
                                  refine ⟨⟨i575, rt576⟩, ?_⟩
                                  rintro _ s579 ⟨v577, k578, rfl⟩
                                  have r580 := r574.tr k578
                                  have i581 := k578.2.2 i575
                                  exact ⟨_, rfl, Nat.le_of_eq (congrArg Prod.snd r580.2.1), _, r580, rfl⟩
                              · skip
                                change ev_wp pg_F pg_lay none [] (ev_lu pg_c119) (fun _ => false) _ 1770 72 [some (.ref 6), some (.int l), some (.int z), some (.int d), some (.int (md_cnt σ 64)), some (.int 12)] [] s5
                                refine ⟨sp_in rfl rfl, ?_⟩
                                rintro _ _ ⟨rfl, rfl⟩
                                change ev_wp pg_F pg_lay none [] (ev_lu pg_c119) (fun _ => false) _ 1759 89 [some (.ref 6), some (.int l), some (.int z), some (.int d), some (.int (md_cnt σ 64)), some (.int 12)] [.int (s5.1 7 16), .int 0, .int 4, .ref 6] s5
                                refine ⟨sp_in rfl rfl, ?_⟩
                                rintro _ s583 ⟨k582, rfl⟩
                                have rt586 : s583.1 6 10 = 0 → md_right s583 41 ∨ md_right s583 43 := fun h => ((fun h => (k4.2.2.1 h).2) (k582.2.2.2.2.2.2.1 h).1).imp (md_right_of (fun i h1 h2 => k582.2.2.1 i (fun e => absurd (e ▸ h1) (by decide +kernel)))) (md_right_of (fun i h1 h2 => k582.2.2.1 i (fun e => absurd (e ▸ h1) (by decide +kernel))))
                                have r584 := r6.tr (k582.m (by decide +kernel) (fun h => absurd h (by decide +kernel)))
                                have i585 := (k582.m (by decide +kernel) (fun h => absurd h (by decide +kernel))).2.2 i7
                                change ev_wp pg_F pg_lay none [] (ev_lu pg_c119) (fun _ => false) _ 1752 100 [some (.ref 6), some (.int l), some (.int z), some (.int d), some (.int (md_cnt σ 64)), some (.int 12)] [] s583
                                refine ⟨⟨i585, rt586⟩, ?_⟩
                                rintro _ s589 ⟨v587, k588, rfl⟩
                                have r590 := r584.tr k588
                                have i591 := k588.2.2 i585
                                exact ⟨_, rfl, Nat.le_of_eq (congrArg Prod.snd r590.2.1), _, r590, rfl⟩
                            · skip
                              change ev_wp pg_F pg_lay none [] (ev_lu pg_c119) (fun _ => false) _ 1786 72 [some (.ref 6), some (.int l), some (.int z), some (.int d), some (.int (md_cnt σ 64)), some (.int 11)] [] s5
                              refine ⟨sp_in rfl rfl, ?_⟩
                              rintro _ _ ⟨rfl, rfl⟩
                              change ev_wp pg_F pg_lay none [] (ev_lu pg_c119) (fun _ => false) _ 1775 89 [some (.ref 6), some (.int l), some (.int z), some (.int d), some (.int (md_cnt σ 64)), some (.int 11)] [.int (s5.1 7 16), .int 0, .int 4, .ref 6] s5
                              refine ⟨sp_in rfl rfl, ?_⟩
                              rintro _ s593 ⟨k592, rfl⟩
                              have rt596 : s593.1 6 10 = 0 → md_right s593 41 ∨ md_right s593 43 := fun h => ((fun h => (k4.2.2.1 h).2) (k592.2.2.2.2.2.2.1 h).1).imp (md_right_of (fun i h1 h2 => k592.2.2.1 i (fun e => absurd (e ▸ h1) (by decide +kernel)))) (md_right_of (fun i h1 h2 => k592.2.2.1 i (fun e => absurd (e ▸ h1) (by decide +kernel))))
                              have r594 := r6.tr (k592.m (by decide +kernel) (fun h => absurd h (by decide +kernel)))
                              have i595 := (k592.m (by decide +kernel) (fun h => absurd h (by decide +kernel))).2.2 i7
                              change ev_wp pg_F pg_lay none [] (ev_lu pg_c119) (fun _ => false) _ 1768 100 [some (.ref 6), some (.int l), some (.int z), some (.int d), some (.int (md_cnt σ 64)), some (.int 11)] [] s593
                              refine ⟨⟨i595, rt596⟩, ?_⟩
                              rintro _ s599 ⟨v597, k598, rfl⟩
                              have r600 := r594.tr k598
                              have i601 := k598.2.2 i595
                              exact ⟨_, rfl, Nat.le_of_eq (congrArg Prod.snd r600.2.1), _, r600, rfl⟩
                          · skip
                            change ev_wp pg_F pg_lay none [] (ev_lu pg_c119) (fun _ => false) _ 1802 72 [some (.ref 6), some (.int l), some (.int z), some (.int d), some (.int (md_cnt σ 64)), some (.int 10)] [] s5
                            refine ⟨sp_in rfl rfl, ?_⟩
                            rintro _ _ ⟨rfl, rfl⟩
                            change ev_wp pg_F pg_lay none [] (ev_lu pg_c119) (fun _ => false) _ 1791 89 [some (.ref 6), some (.int l), some (.int z), some (.int d), some (.int (md_cnt σ 64)), some (.int 10)] [.int (s5.1 7 16), .int 0, .int 4, .ref 6] s5
                            refine ⟨sp_in rfl rfl, ?_⟩
                            rintro _ s603 ⟨k602, rfl⟩
                            have rt606 : s603.1 6 10 = 0 → md_right s603 41 ∨ md_right s603 43 := fun h => ((fun h => (k4.2.2.1 h).2) (k602.2.2.2.2.2.2.1 h).1).imp (md_right_of (fun i h1 h2 => k602.2.2.1 i (fun e => absurd (e ▸ h1) (by decide +kernel)))) (md_right_of (fun i h1 h2 => k602.2.2.1 i (fun e => absurd (e ▸ h1) (by decide +kernel))))
                            have r604 := r6.tr (k602.m (by decide +kernel) (fun h => absurd h (by decide +kernel)))
                            have i605 := (k602.m (by decide +kernel) (fun h => absurd h (by decide +kernel))).2.2 i7
                            change ev_wp pg_F pg_lay none [] (ev_lu pg_c119) (fun _ => false) _ 1784 100 [some (.ref 6), some (.int l), some (.int z), some (.int d), some (.int (md_cnt σ 64)), some (.int 10)] [] s603
                            refine ⟨⟨i605, rt606⟩, ?_⟩
                            rintro _ s609 ⟨v607, k608, rfl⟩
                            have r610 := r604.tr k608
                            have i611 := k608.2.2 i605
                            exact ⟨_, rfl, Nat.le_of_eq (congrArg Prod.snd r610.2.1), _, r610, rfl⟩
                        · skip
                          change ev_wp pg_F pg_lay none [] (ev_lu pg_c119) (fun _ => false) _ 1818 72 [some (.ref 6), some (.int l), some (.int z), some (.int d), some (.int (md_cnt σ 64)), some (.int 9)] [] s5
                          refine ⟨sp_in rfl rfl, ?_⟩
                          rintro _ _ ⟨rfl, rfl⟩
                          change ev_wp pg_F pg_lay none [] (ev_lu pg_c119) (fun _ => false) _ 1807 89 [some (.ref 6), some (.int l), some (.int z), some (.int d), some (.int (md_cnt σ 64)), some (.int 9)] [.int (s5.1 7 16), .int 0, .int 4, .ref 6] s5
                          refine ⟨sp_in rfl rfl, ?_⟩
                          rintro _ s613 ⟨k612, rfl⟩
                          have rt616 : s613.1 6 10 = 0 → md_right s613 41 ∨ md_right s613 43 := fun h => ((fun h => (k4.2.2.1 h).2) (k612.2.2.2.2.2.2.1 h).1).imp (md_right_of (fun i h1 h2 => k612.2.2.1 i (fun e => absurd (e ▸ h1) (by decide +kernel)))) (md_right_of (fun i h1 h2 => k612.2.2.1 i (fun e => absurd (e ▸ h1) (by decide +kernel))))
                          have r614 := r6.tr (k612.m (by decide +kernel) (fun h => absurd h (by decide +kernel)))
                          have i615 := (k612.m (by decide +kernel) (fun h => absurd h (by decide +kernel))).2.2 i7
                          change ev_wp pg_F pg_lay none [] (ev_lu pg_c119) (fun _ => false) _ 1800 100 [some (.ref 6), some (.int l), some (.int z), some (.int d), some (.int (md_cnt σ 64)), some (.int 9)] [] s613
                          refine ⟨⟨i615, rt616⟩, ?_⟩
                          rintro _ s619 ⟨v617, k618, rfl⟩
                          have r620 := r614.tr k618
                          have i621 := k618.2.2 i615
                          exact ⟨_, rfl, Nat.le_of_eq (congrArg Prod.snd r620.2.1), _, r620, rfl⟩
                      · skip
                        change ev_wp pg_F pg_lay none [] (ev_lu pg_c119) (fun _ => false) _ 1834 72 [some (.ref 6), some (.int l), some (.int z), some (.int d), some (.int (md_cnt σ 64)), some (.int 8)] [] s5
                        refine ⟨sp_in rfl rfl, ?_⟩
                        rintro _ _ ⟨rfl, rfl⟩
                        change ev_wp pg_F pg_lay none [] (ev_lu pg_c119) (fun _ => false) _ 1823 89 [some (.ref 6), some (.int l), some (.int z), some (.int d), some (.int (md_cnt σ 64)), some (.int 8)] [.int (s5.1 7 16), .int 0, .int 4, .ref 6] s5
                        refine ⟨sp_in rfl rfl, ?_⟩
                        rintro _ s623 ⟨k622, rfl⟩
                        have rt626 : s623.1 6 10 = 0 → md_right s623 41 ∨ md_right s623 43 := fun h => ((fun h => (k4.2.2.1 h).2) (k622.2.2.2.2.2.2.1 h).1).imp (md_right_of (fun i h1 h2 => k622.2.2.1 i (fun e => absurd (e ▸ h1) (by decide +kernel)))) (md_right_of (fun i h1 h2 => k622.2.2.1 i (fun e => absurd (e ▸ h1) (by decide +kernel))))
                        have r624 := r6.tr (k622.m (by decide +kernel) (fun h => absurd h (by decide +kernel)))
                        have i625 := (k622.m (by decide +kernel) (fun h => absurd h (by decide +kernel))).2.2 i7
                        change ev_wp pg_F pg_lay none [] (ev_lu pg_c119) (fun _ => false) _ 1816 100 [some (.ref 6), some (.int l), some (.int z), some (.int d), some (.int (md_cnt σ 64)), some (.int 8)] [] s623
                        refine ⟨⟨i625, rt626⟩, ?_⟩
                        rintro _ s629 ⟨v627, k628, rfl⟩
                        have r630 := r624.tr k628
                        have i631 := k628.2.2 i625
                        exact ⟨_, rfl, Nat.le_of_eq (congrArg Prod.snd r630.2.1), _, r630, rfl⟩
                    · skip
                      change ev_wp pg_F pg_lay none [] (ev_lu pg_c119) (fun _ => false) _ 1850 72 [some (.ref 6), some (.int l), some (.int z), some (.int d), some (.int (md_cnt σ 64)), some (.int 7)] [] s5
                      refine ⟨sp_in rfl rfl, ?_⟩
                      rintro _ _ ⟨rfl, rfl⟩
                      change ev_wp pg_F pg_lay none [] (ev_lu pg_c119) (fun _ => false) _ 1839 89 [some (.ref 6), some (.int l), some (.int z), some (.int d), some (.int (md_cnt σ 64)), some (.int 7)] [.int (s5.1 7 16), .int 0, .int 4, .ref 6] s5
                      refine ⟨sp_in rfl rfl, ?_⟩
                      rintro _ s633 ⟨k632, rfl⟩
                      have rt636 : s633.1 6 10 = 0 → md_right s633 41 ∨ md_right s633 43 := fun h => ((fun h => (k4.2.2.1 h).2) (k632.2.2.2.2.2.2.1 h).1).imp (md_right_of (fun i h1 h2 => k632.2.2.1 i (fun e => absurd (e ▸ h1) (by decide +kernel)))) (md_right_of (fun i h1 h2 => k632.2.2.1 i (fun e => absurd (e ▸ h1) (by decide +kernel))))
                      have r634 := r6.tr (k632.m (by decide +kernel) (fun h => absurd h (by decide +kernel)))
                      have i635 := (k632.m (by decide +kernel) (fun h => absurd h (by decide +kernel))).2.2 i7
                      change ev_wp pg_F pg_lay none [] (ev_lu pg_c119) (fun _ => false) _ 1832 100 [some (.ref 6), some (.int l), some (.int z), some (.int d), some (.int (md_cnt σ 64)), some (.int 7)] [] s633
                      refine ⟨⟨i635, rt636⟩, ?_⟩
                      rintro _ s639 ⟨v637, k638, rfl⟩
                      have r640 := r634.tr k638
                      have i641 := k638.2.2 i635
                      exact ⟨_, rfl, Nat.le_of_eq (congrArg Prod.snd r640.2.1), _, r640, rfl⟩
                  · skip
                    change ev_wp pg_F pg_lay none [] (ev_lu pg_c119) (fun _ => false) _ 1866 72 [some (.ref 6), some (.int l), some (.int z), some (.int d), some (.int (md_cnt σ 64)), some (.int 6)] [] s5
                    refine ⟨sp_in rfl rfl, ?_⟩
                    rintro _ _ ⟨rfl, rfl⟩
                    change ev_wp pg_F pg_lay none [] (ev_lu pg_c119) (fun _ => false) _ 1855 89 [some (.ref 6), some (.int l), some (.int z), some (.int d), some (.int (md_cnt σ 64)), some (.int 6)] [.int (s5.1 7 16), .int 0, .int 4, .ref 6] s5
                    refine ⟨sp_in rfl rfl, ?_⟩
                    rintro _ s643 ⟨k642, rfl⟩
                    have rt646 : s643.1 6 10 = 0 → md_right s643 41 ∨ md_right s643 43 := fun h => ((fun h => (k4.2.2.1 h).2) (k642.2.2.2.2.2.2.1 h).1).imp (md_right_of (fun i h1 h2 => k642.2.2.1 i (fun e => absurd (e ▸ h1) (by decide +kernel)))) (md_right_of (fun i h1 h2 => k642.2.2.1 i (fun e => absurd (e ▸ h1) (by decide +kernel))))
                    have r644 := r6.tr (k642.m (by decide +kernel) (fun h => absurd h (by decide +kernel)))
                    have i645 := (k642.m (by decide +kernel) (fun h => absurd h (by decide +kernel))).2.2 i7
                    change ev_wp pg_F pg_lay none [] (ev_lu pg_c119) (fun _ => false) _ 1848 100 [some (.ref 6), some (.int l), some (.int z), some (.int d), some (.int (md_cnt σ 64)), some (.int 6)] [] s643
                    refine ⟨⟨i645, rt646⟩, ?_⟩
                    rintro _ s649 ⟨v647, k648, rfl⟩
                    have r650 := r644.tr k648
                    have i651 := k648.2.2 i645
                    exact ⟨_, rfl, Nat.le_of_eq (congrArg Prod.snd r650.2.1), _, r650, rfl⟩
                · skip
                  change ev_wp pg_F pg_lay none [] (ev_lu pg_c119) (fun _ => false) _ 1882 72 [some (.ref 6), some (.int l), some (.int z), some (.int d), some (.int (md_cnt σ 64)), some (.int 5)] [] s5
                  refine ⟨sp_in rfl rfl, ?_⟩
                  rintro _ _ ⟨rfl, rfl⟩
                  change ev_wp pg_F pg_lay none [] (ev_lu pg_c119) (fun _ => false) _ 1871 89 [some (.ref 6), some (.int l), some (.int z), some (.int d), some (.int (md_cnt σ 64)), some (.int 5)] [.int (s5.1 7 16), .int 0, .int 4, .ref 6] s5
                  refine ⟨sp_in rfl rfl, ?_⟩
                  rintro _ s653 ⟨k652, rfl⟩
                  have rt656 : s653.1 6 10 = 0 → md_right s653 41 ∨ md_right s653 43 := fun h => ((fun h => (k4.2.2.1 h).2) (k652.2.2.2.2.2.2.1 h).1).imp (md_right_of (fun i h1 h2 => k652.2.2.1 i (fun e => absurd (e ▸ h1) (by decide +kernel)))) (md_right_of (fun i h1 h2 => k652.2.2.1 i (fun e => absurd (e ▸ h1) (by decide +kernel))))
                  have r654 := r6.tr (k652.m (by decide +kernel) (fun h => absurd h (by decide +kernel)))
                  have i655 := (k652.m (by decide +kernel) (fun h => absurd h (by decide +kernel))).2.2 i7
                  change ev_wp pg_F pg_lay none [] (ev_lu pg_c119) (fun _ => false) _ 1864 100 [some (.ref 6), some (.int l), some (.int z), some (.int d), some (.int (md_cnt σ 64)), some (.int 5)] [] s653
                  refine ⟨⟨i655, rt656⟩, ?_⟩
                  rintro _ s659 ⟨v657, k658, rfl⟩
                  have r660 := r654.tr k658
                  have i661 := k658.2.2 i655
                  exact ⟨_, rfl, Nat.le_of_eq (congrArg Prod.snd r660.2.1), _, r660, rfl⟩
              · skip
                change ev_wp pg_F pg_lay none [] (ev_lu pg_c119) (fun _ => false) _ 1898 72 [some (.ref 6), some (.int l), some (.int z), some (.int d), some (.int (md_cnt σ 64)), some (.int 4)] [] s5
                refine ⟨sp_in rfl rfl, ?_⟩
                rintro _ _ ⟨rfl, rfl⟩
                change ev_wp pg_F pg_lay none [] (ev_lu pg_c119) (fun _ => false) _ 1887 89 [some (.ref 6), some (.int l), some (.int z), some (.int d), some (.int (md_cnt σ 64)), some (.int 4)] [.int (s5.1 7 16), .int 0, .int 4, .ref 6] s5
                refine ⟨sp_in rfl rfl, ?_⟩
                rintro _ s663 ⟨k662, rfl⟩
                have rt666 : s663.1 6 10 = 0 → md_right s663 41 ∨ md_right s663 43 := fun h => ((fun h => (k4.2.2.1 h).2) (k662.2.2.2.2.2.2.1 h).1).imp (md_right_of (fun i h1 h2 => k662.2.2.1 i (fun e => absurd (e ▸ h1) (by decide +kernel)))) (md_right_of (fun i h1 h2 => k662.2.2.1 i (fun e => absurd (e ▸ h1) (by decide +kernel))))
                have r664 := r6.tr (k662.m (by decide +kernel) (fun h => absurd h (by decide +kernel)))
                have i665 := (k662.m (by decide +kernel) (fun h => absurd h (by decide +kernel))).2.2 i7
                change ev_wp pg_F pg_lay none [] (ev_lu pg_c119) (fun _ => false) _ 1880 100 [some (.ref 6), some (.int l), some (.int z), some (.int d), some (.int (md_cnt σ 64)), some (.int 4)] [] s663
                refine ⟨⟨i665, rt666⟩, ?_⟩
                rintro _ s669 ⟨v667, k668, rfl⟩
                have r670 := r664.tr k668
                have i671 := k668.2.2 i665
                exact ⟨_, rfl, Nat.le_of_eq (congrArg Prod.snd r670.2.1), _, r670, rfl⟩
            · skip
              change ev_wp pg_F pg_lay none [] (ev_lu pg_c119) (fun _ => false) _ 1914 72 [some (.ref 6), some (.int l), some (.int z), some (.int d), some (.int (md_cnt σ 64)), some (.int 3)] [] s5
              refine ⟨sp_in rfl rfl, ?_⟩
              rintro _ _ ⟨rfl, rfl⟩
              change ev_wp pg_F pg_lay none [] (ev_lu pg_c119) (fun _ => false) _ 1903 89 [some (.ref 6), some (.int l), some (.int z), some (.int d), some (.int (md_cnt σ 64)), some (.int 3)] [.int (s5.1 7 16), .int 0, .int 4, .ref 6] s5
              refine ⟨sp_in rfl rfl, ?_⟩
              rintro _ s673 ⟨k672, rfl⟩
              have rt676 : s673.1 6 10 = 0 → md_right s673 41 ∨ md_right s673 43 := fun h => ((fun h => (k4.2.2.1 h).2) (k672.2.2.2.2.2.2.1 h).1).imp (md_right_of (fun i h1 h2 => k672.2.2.1 i (fun e => absurd (e ▸ h1) (by decide +kernel)))) (md_right_of (fun i h1 h2 => k672.2.2.1 i (fun e => absurd (e ▸ h1) (by decide +kernel))))
              have r674 := r6.tr (k672.m (by decide +kernel) (fun h => absurd h (by decide +kernel)))
              have i675 := (k672.m (by decide +kernel) (fun h => absurd h (by decide +kernel))).2.2 i7
              change ev_wp pg_F pg_lay none [] (ev_lu pg_c119) (fun _ => false) _ 1896 100 [some (.ref 6), some (.int l), some (.int z), some (.int d), some (.int (md_cnt σ 64)), some (.int 3)] [] s673
              refine ⟨⟨i675, rt676⟩, ?_⟩
              rintro _ s679 ⟨v677, k678, rfl⟩
              have r680 := r674.tr k678
              have i681 := k678.2.2 i675
              exact ⟨_, rfl, Nat.le_of_eq (congrArg Prod.snd r680.2.1), _, r680, rfl⟩
          · skip
            change ev_wp pg_F pg_lay none [] (ev_lu pg_c119) (fun _ => false) _ 1930 72 [some (.ref 6), some (.int l), some (.int z), some (.int d), some (.int (md_cnt σ 64)), some (.int 2)] [] s5
            refine ⟨sp_in rfl rfl, ?_⟩
            rintro _ _ ⟨rfl, rfl⟩
            change ev_wp pg_F pg_lay none [] (ev_lu pg_c119) (fun _ => false) _ 1919 89 [some (.ref 6), some (.int l), some (.int z), some (.int d), some (.int (md_cnt σ 64)), some (.int 2)] [.int (s5.1 7 16), .int 0, .int 4, .ref 6] s5
            refine ⟨sp_in rfl rfl, ?_⟩
            rintro _ s683 ⟨k682, rfl⟩
            have rt686 : s683.1 6 10 = 0 → md_right s683 41 ∨ md_right s683 43 := fun h => ((fun h => (k4.2.2.1 h).2) (k682.2.2.2.2.2.2.1 h).1).imp (md_right_of (fun i h1 h2 => k682.2.2.1 i (fun e => absurd (e ▸ h1) (by decide +kernel)))) (md_right_of (fun i h1 h2 => k682.2.2.1 i (fun e => absurd (e ▸ h1) (by decide +kernel))))
            have r684 := r6.tr (k682.m (by decide +kernel) (fun h => absurd h (by decide +kernel)))
            have i685 := (k682.m (by decide +kernel) (fun h => absurd h (by decide +kernel))).2.2 i7
            change ev_wp pg_F pg_lay none [] (ev_lu pg_c119) (fun _ => false) _ 1912 100 [some (.ref 6), some (.int l), some (.int z), some (.int d), some (.int (md_cnt σ 64)), some (.int 2)] [] s683
            refine ⟨⟨i685, rt686⟩, ?_⟩
            rintro _ s689 ⟨v687, k688, rfl⟩
            have r690 := r684.tr k688
            have i691 := k688.2.2 i685
            exact ⟨_, rfl, Nat.le_of_eq (congrArg Prod.snd r690.2.1), _, r690, rfl⟩
        · skip
          change ev_wp pg_F pg_lay none [] (ev_lu pg_c119) (fun _ => false) _ 1946 72 [some (.ref 6), some (.int l), some (.int z), some (.int d), some (.int (md_cnt σ 64)), some (.int 1)] [] s5
          refine ⟨sp_in rfl rfl, ?_⟩
          rintro _ _ ⟨rfl, rfl⟩
          change ev_wp pg_F pg_lay none [] (ev_lu pg_c119) (fun _ => false) _ 1935 89 [some (.ref 6), some (.int l), some (.int z), some (.int d), some (.int (md_cnt σ 64)), some (.int 1)] [.int (s5.1 7 16), .int 0, .int 4, .ref 6] s5
          refine ⟨sp_in rfl rfl, ?_⟩
          rintro _ s693 ⟨k692, rfl⟩
          have rt696 : s693.1 6 10 = 0 → md_right s693 41 ∨ md_right s693 43 := fun h => ((fun h => (k4.2.2.1 h).2) (k692.2.2.2.2.2.2.1 h).1).imp (md_right_of (fun i h1 h2 => k692.2.2.1 i (fun e => absurd (e ▸ h1) (by decide +kernel)))) (md_right_of (fun i h1 h2 => k692.2.2.1 i (fun e => absurd (e ▸ h1) (by decide +kernel))))
          have r694 := r6.tr (k692.m (by decide +kernel) (fun h => absurd h (by decide +kernel)))
          have i695 := (k692.m (by decide +kernel) (fun h => absurd h (by decide +kernel))).2.2 i7
          change ev_wp pg_F pg_lay none [] (ev_lu pg_c119) (fun _ => false) _ 1928 100 [some (.ref 6), some (.int l), some (.int z), some (.int d), some (.int (md_cnt σ 64)), some (.int 1)] [] s693
          refine ⟨⟨i695, rt696⟩, ?_⟩
          rintro _ s699 ⟨v697, k698, rfl⟩
          have r700 := r694.tr k698
          have i701 := k698.2.2 i695
          exact ⟨_, rfl, Nat.le_of_eq (congrArg Prod.snd r700.2.1), _, r700, rfl⟩
      · skip
        change ev_wp pg_F pg_lay none [] (ev_lu pg_c119) (fun _ => false) _ 1962 72 [some (.ref 6), some (.int l), some (.int z), some (.int d), some (.int (md_cnt σ 64)), some (.int 0)] [] s5
        refine ⟨sp_in rfl rfl, ?_⟩
        rintro _ _ ⟨rfl, rfl⟩
        change ev_wp pg_F pg_lay none [] (ev_lu pg_c119) (fun _ => false) _ 1951 89 [some (.ref 6), some (.int l), some (.int z), some (.int d), some (.int (md_cnt σ 64)), some (.int 0)] [.int (s5.1 7 16), .int 0, .int 4, .ref 6] s5
        refine ⟨sp_in rfl rfl, ?_⟩
        rintro _ s703 ⟨k702, rfl⟩
        have rt706 : s703.1 6 10 = 0 → md_right s703 41 ∨ md_right s703 43 := fun h => ((fun h => (k4.2.2.1 h).2) (k702.2.2.2.2.2.2.1 h).1).imp (md_right_of (fun i h1 h2 => k702.2.2.1 i (fun e => absurd (e ▸ h1) (by decide +kernel)))) (md_right_of (fun i h1 h2 => k702.2.2.1 i (fun e => absurd (e ▸ h1) (by decide +kernel))))
        have r704 := r6.tr (k702.m (by decide +kernel) (fun h => absurd h (by decide +kernel)))
        have i705 := (k702.m (by decide +kernel) (fun h => absurd h (by decide +kernel))).2.2 i7
        change ev_wp pg_F pg_lay none [] (ev_lu pg_c119) (fun _ => false) _ 1944 100 [some (.ref 6), some (.int l), some (.int z), some (.int d), some (.int (md_cnt σ 64)), some (.int 0)] [] s703
        refine ⟨⟨i705, rt706⟩, ?_⟩
        rintro _ s709 ⟨v707, k708, rfl⟩
        have r710 := r704.tr k708
        have i711 := k708.2.2 i705
        exact ⟨_, rfl, Nat.le_of_eq (congrArg Prod.snd r710.2.1), _, r710, rfl⟩
    · skip
      change ev_wp pg_F pg_lay none [] (ev_lu pg_c119) (fun _ => false) _ 1991 17 [some (.ref 6), some (.int l), some (.int z), some (.int d), some (.int (md_cnt σ 64)), none] [] σ
      refine ⟨trivial, ?_⟩
      rintro _ _ ⟨_, ⟨rfl, rfl⟩, rfl⟩
      have r712 := (md_m.rf σ).tr (md_up6 σ 7 5 (by decide) (by decide))
      have i713 := (md_up6 σ 7 5 (by decide) (by decide)).2.2 hp.1
      exact ⟨_, rfl, Nat.le_of_eq (congrArg Prod.snd r712.2.1), _, r712, rfl⟩
  · cases h
