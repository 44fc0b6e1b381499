/-! THE PROGRAM: the tables say what stands in the bytes (laid by wip/gen/gen.py) -/
theorem pg_k0 : pg_c0.all (fun z => ev_ok pg_hs pg_cl pg_mt "TicketTag" "TicketTag" prog_1_method_38_code 2 0 0 z.1 z.2) = true := by decide +kernel
theorem pg_o0 : ∀ pc q, ev_lu pg_c0 pc = some q → ev_ok pg_hs pg_cl pg_mt "TicketTag" "TicketTag" prog_1_method_38_code 2 0 0 pc q = true := fun pc q h => List.all_eq_true.mp pg_k0 (pc, q) (ev_lu_mem h)
theorem pg_k1 : pg_c1.all (fun z => ev_ok pg_hs pg_cl pg_mt "TicketTag" "TicketTag" prog_1_method_19_code 2 0 0 z.1 z.2) = true := by decide +kernel
theorem pg_o1 : ∀ pc q, ev_lu pg_c1 pc = some q → ev_ok pg_hs pg_cl pg_mt "TicketTag" "TicketTag" prog_1_method_19_code 2 0 0 pc q = true := fun pc q h => List.all_eq_true.mp pg_k1 (pc, q) (ev_lu_mem h)
theorem pg_k2 : pg_c2.all (fun z => ev_ok pg_hs pg_cl pg_mt "TicketTag" "TicketTag" prog_1_method_54_code 1 0 0 z.1 z.2) = true := by decide +kernel
theorem pg_o2 : ∀ pc q, ev_lu pg_c2 pc = some q → ev_ok pg_hs pg_cl pg_mt "TicketTag" "TicketTag" prog_1_method_54_code 1 0 0 pc q = true := fun pc q h => List.all_eq_true.mp pg_k2 (pc, q) (ev_lu_mem h)
theorem pg_k3 : pg_c3.all (fun z => ev_ok pg_hs pg_cl pg_mt "TicketTag" "TicketTag" prog_1_method_42_code 3 0 0 z.1 z.2) = true := by decide +kernel
theorem pg_o3 : ∀ pc q, ev_lu pg_c3 pc = some q → ev_ok pg_hs pg_cl pg_mt "TicketTag" "TicketTag" prog_1_method_42_code 3 0 0 pc q = true := fun pc q h => List.all_eq_true.mp pg_k3 (pc, q) (ev_lu_mem h)
theorem pg_k4 : pg_c4.all (fun z => ev_ok pg_hs pg_cl pg_mt "TicketTag" "TicketTag" prog_1_method_27_code 1 0 0 z.1 z.2) = true := by decide +kernel
theorem pg_o4 : ∀ pc q, ev_lu pg_c4 pc = some q → ev_ok pg_hs pg_cl pg_mt "TicketTag" "TicketTag" prog_1_method_27_code 1 0 0 pc q = true := fun pc q h => List.all_eq_true.mp pg_k4 (pc, q) (ev_lu_mem h)
theorem pg_k5 : pg_c5.all (fun z => ev_ok pg_hs pg_cl pg_mt "TicketTag" "TicketTag" prog_1_method_8_code 1 0 0 z.1 z.2) = true := by decide +kernel
theorem pg_o5 : ∀ pc q, ev_lu pg_c5 pc = some q → ev_ok pg_hs pg_cl pg_mt "TicketTag" "TicketTag" prog_1_method_8_code 1 0 0 pc q = true := fun pc q h => List.all_eq_true.mp pg_k5 (pc, q) (ev_lu_mem h)
theorem pg_k6 : pg_c6.all (fun z => ev_ok pg_hs pg_cl pg_mt "TicketTag" "TicketTag" prog_1_method_31_code 2 0 0 z.1 z.2) = true := by decide +kernel
theorem pg_o6 : ∀ pc q, ev_lu pg_c6 pc = some q → ev_ok pg_hs pg_cl pg_mt "TicketTag" "TicketTag" prog_1_method_31_code 2 0 0 pc q = true := fun pc q h => List.all_eq_true.mp pg_k6 (pc, q) (ev_lu_mem h)
theorem pg_k7 : pg_c7.all (fun z => ev_ok pg_hs pg_cl pg_mt "TicketTag$Memory" "TicketTag" prog_2_method_13_code 3 0 0 z.1 z.2) = true := by decide +kernel
theorem pg_o7 : ∀ pc q, ev_lu pg_c7 pc = some q → ev_ok pg_hs pg_cl pg_mt "TicketTag$Memory" "TicketTag" prog_2_method_13_code 3 0 0 pc q = true := fun pc q h => List.all_eq_true.mp pg_k7 (pc, q) (ev_lu_mem h)
theorem pg_k8 : pg_c8.all (fun z => ev_ok pg_hs pg_cl pg_mt "TicketTag$Memory" "TicketTag" prog_2_method_8_code 4 0 0 z.1 z.2) = true := by decide +kernel
theorem pg_o8 : ∀ pc q, ev_lu pg_c8 pc = some q → ev_ok pg_hs pg_cl pg_mt "TicketTag$Memory" "TicketTag" prog_2_method_8_code 4 0 0 pc q = true := fun pc q h => List.all_eq_true.mp pg_k8 (pc, q) (ev_lu_mem h)
theorem pg_k9 : pg_c9.all (fun z => ev_ok pg_hs pg_cl pg_mt "TicketTag$Memory" "TicketTag" prog_2_method_5_code 1 0 0 z.1 z.2) = true := by decide +kernel
theorem pg_o9 : ∀ pc q, ev_lu pg_c9 pc = some q → ev_ok pg_hs pg_cl pg_mt "TicketTag$Memory" "TicketTag" prog_2_method_5_code 1 0 0 pc q = true := fun pc q h => List.all_eq_true.mp pg_k9 (pc, q) (ev_lu_mem h)
theorem pg_k10 : pg_c10.all (fun z => ev_ok pg_hs pg_cl pg_mt "TicketTag$Memory" "TicketTag" prog_2_method_16_code 7 0 0 z.1 z.2) = true := by decide +kernel
theorem pg_o10 : ∀ pc q, ev_lu pg_c10 pc = some q → ev_ok pg_hs pg_cl pg_mt "TicketTag$Memory" "TicketTag" prog_2_method_16_code 7 0 0 pc q = true := fun pc q h => List.all_eq_true.mp pg_k10 (pc, q) (ev_lu_mem h)
theorem pg_k11 : pg_c11.all (fun z => ev_ok pg_hs pg_cl pg_mt "TicketTag$Memory" "TicketTag" prog_2_method_6_code 1 0 0 z.1 z.2) = true := by decide +kernel
theorem pg_o11 : ∀ pc q, ev_lu pg_c11 pc = some q → ev_ok pg_hs pg_cl pg_mt "TicketTag$Memory" "TicketTag" prog_2_method_6_code 1 0 0 pc q = true := fun pc q h => List.all_eq_true.mp pg_k11 (pc, q) (ev_lu_mem h)
theorem pg_k12 : pg_c12.all (fun z => ev_ok pg_hs pg_cl pg_mt "TicketTag$Memory" "TicketTag" prog_2_method_2_code 1 0 0 z.1 z.2) = true := by decide +kernel
theorem pg_o12 : ∀ pc q, ev_lu pg_c12 pc = some q → ev_ok pg_hs pg_cl pg_mt "TicketTag$Memory" "TicketTag" prog_2_method_2_code 1 0 0 pc q = true := fun pc q h => List.all_eq_true.mp pg_k12 (pc, q) (ev_lu_mem h)
theorem pg_k13 : pg_c13.all (fun z => ev_ok pg_hs pg_cl pg_mt "TicketTag$Memory" "TicketTag" prog_2_method_10_code 1 0 0 z.1 z.2) = true := by decide +kernel
theorem pg_o13 : ∀ pc q, ev_lu pg_c13 pc = some q → ev_ok pg_hs pg_cl pg_mt "TicketTag$Memory" "TicketTag" prog_2_method_10_code 1 0 0 pc q = true := fun pc q h => List.all_eq_true.mp pg_k13 (pc, q) (ev_lu_mem h)
theorem pg_k14 : pg_c14.all (fun z => ev_ok pg_hs pg_cl pg_mt "TicketTag$Memory" "TicketTag" prog_2_method_7_code 3 0 0 z.1 z.2) = true := by decide +kernel
theorem pg_o14 : ∀ pc q, ev_lu pg_c14 pc = some q → ev_ok pg_hs pg_cl pg_mt "TicketTag$Memory" "TicketTag" prog_2_method_7_code 3 0 0 pc q = true := fun pc q h => List.all_eq_true.mp pg_k14 (pc, q) (ev_lu_mem h)
theorem pg_k15 : pg_c15.all (fun z => ev_ok pg_hs pg_cl pg_mt "TicketTag$Memory" "TicketTag" prog_2_method_4_code 1 0 0 z.1 z.2) = true := by decide +kernel
theorem pg_o15 : ∀ pc q, ev_lu pg_c15 pc = some q → ev_ok pg_hs pg_cl pg_mt "TicketTag$Memory" "TicketTag" prog_2_method_4_code 1 0 0 pc q = true := fun pc q h => List.all_eq_true.mp pg_k15 (pc, q) (ev_lu_mem h)
theorem pg_k16 : pg_c16.all (fun z => ev_ok pg_hs pg_cl pg_mt "TicketTag$Memory" "TicketTag" prog_2_method_14_code 2 0 0 z.1 z.2) = true := by decide +kernel
theorem pg_o16 : ∀ pc q, ev_lu pg_c16 pc = some q → ev_ok pg_hs pg_cl pg_mt "TicketTag$Memory" "TicketTag" prog_2_method_14_code 2 0 0 pc q = true := fun pc q h => List.all_eq_true.mp pg_k16 (pc, q) (ev_lu_mem h)
theorem pg_k17 : pg_c17.all (fun z => ev_ok pg_hs pg_cl pg_mt "TicketTag$Memory" "TicketTag" prog_2_method_3_code 1 0 0 z.1 z.2) = true := by decide +kernel
theorem pg_o17 : ∀ pc q, ev_lu pg_c17 pc = some q → ev_ok pg_hs pg_cl pg_mt "TicketTag$Memory" "TicketTag" prog_2_method_3_code 1 0 0 pc q = true := fun pc q h => List.all_eq_true.mp pg_k17 (pc, q) (ev_lu_mem h)
theorem pg_k18 : pg_c18.all (fun z => ev_ok pg_hs pg_cl pg_mt "TicketTagModel" "TicketTag" prog_4_method_6_code 2 0 0 z.1 z.2) = true := by decide +kernel
theorem pg_o18 : ∀ pc q, ev_lu pg_c18 pc = some q → ev_ok pg_hs pg_cl pg_mt "TicketTagModel" "TicketTag" prog_4_method_6_code 2 0 0 pc q = true := fun pc q h => List.all_eq_true.mp pg_k18 (pc, q) (ev_lu_mem h)
theorem pg_k19 : pg_c19.all (fun z => ev_ok pg_hs pg_cl pg_mt "TicketTagModel" "TicketTag" prog_4_method_4_code 3 0 0 z.1 z.2) = true := by decide +kernel
theorem pg_o19 : ∀ pc q, ev_lu pg_c19 pc = some q → ev_ok pg_hs pg_cl pg_mt "TicketTagModel" "TicketTag" prog_4_method_4_code 3 0 0 pc q = true := fun pc q h => List.all_eq_true.mp pg_k19 (pc, q) (ev_lu_mem h)
theorem pg_k20 : pg_c20.all (fun z => ev_ok pg_hs pg_cl pg_mt "TicketTagModel" "TicketTag" prog_4_method_41_code 2 0 0 z.1 z.2) = true := by decide +kernel
theorem pg_o20 : ∀ pc q, ev_lu pg_c20 pc = some q → ev_ok pg_hs pg_cl pg_mt "TicketTagModel" "TicketTag" prog_4_method_41_code 2 0 0 pc q = true := fun pc q h => List.all_eq_true.mp pg_k20 (pc, q) (ev_lu_mem h)
theorem pg_k21 : pg_c21.all (fun z => ev_ok pg_hs pg_cl pg_mt "TicketTagModel" "TicketTag" prog_4_method_27_code 2 0 0 z.1 z.2) = true := by decide +kernel
theorem pg_o21 : ∀ pc q, ev_lu pg_c21 pc = some q → ev_ok pg_hs pg_cl pg_mt "TicketTagModel" "TicketTag" prog_4_method_27_code 2 0 0 pc q = true := fun pc q h => List.all_eq_true.mp pg_k21 (pc, q) (ev_lu_mem h)
theorem pg_k22 : pg_c22.all (fun z => ev_ok pg_hs pg_cl pg_mt "TicketTagModel" "TicketTag" prog_4_method_3_code 3 0 0 z.1 z.2) = true := by decide +kernel
theorem pg_o22 : ∀ pc q, ev_lu pg_c22 pc = some q → ev_ok pg_hs pg_cl pg_mt "TicketTagModel" "TicketTag" prog_4_method_3_code 3 0 0 pc q = true := fun pc q h => List.all_eq_true.mp pg_k22 (pc, q) (ev_lu_mem h)
theorem pg_k23 : pg_c23.all (fun z => ev_ok pg_hs pg_cl pg_mt "TicketTagModel" "TicketTag" prog_4_method_24_code 3 0 0 z.1 z.2) = true := by decide +kernel
theorem pg_o23 : ∀ pc q, ev_lu pg_c23 pc = some q → ev_ok pg_hs pg_cl pg_mt "TicketTagModel" "TicketTag" prog_4_method_24_code 3 0 0 pc q = true := fun pc q h => List.all_eq_true.mp pg_k23 (pc, q) (ev_lu_mem h)
theorem pg_k24 : pg_c24.all (fun z => ev_ok pg_hs pg_cl pg_mt "TicketTagModel" "TicketTag" prog_4_method_21_code 3 0 0 z.1 z.2) = true := by decide +kernel
theorem pg_o24 : ∀ pc q, ev_lu pg_c24 pc = some q → ev_ok pg_hs pg_cl pg_mt "TicketTagModel" "TicketTag" prog_4_method_21_code 3 0 0 pc q = true := fun pc q h => List.all_eq_true.mp pg_k24 (pc, q) (ev_lu_mem h)
theorem pg_k25 : pg_c25.all (fun z => ev_ok pg_hs pg_cl pg_mt "TicketTagModel" "TicketTag" prog_4_method_23_code 2 0 0 z.1 z.2) = true := by decide +kernel
theorem pg_o25 : ∀ pc q, ev_lu pg_c25 pc = some q → ev_ok pg_hs pg_cl pg_mt "TicketTagModel" "TicketTag" prog_4_method_23_code 2 0 0 pc q = true := fun pc q h => List.all_eq_true.mp pg_k25 (pc, q) (ev_lu_mem h)
theorem pg_k26 : pg_c26.all (fun z => ev_ok pg_hs pg_cl pg_mt "TicketTagModel" "TicketTag" prog_4_method_22_code 2 0 0 z.1 z.2) = true := by decide +kernel
theorem pg_o26 : ∀ pc q, ev_lu pg_c26 pc = some q → ev_ok pg_hs pg_cl pg_mt "TicketTagModel" "TicketTag" prog_4_method_22_code 2 0 0 pc q = true := fun pc q h => List.all_eq_true.mp pg_k26 (pc, q) (ev_lu_mem h)
theorem pg_k27 : pg_c27.all (fun z => ev_ok pg_hs pg_cl pg_mt "TicketTagModel" "TicketTag" prog_4_method_20_code 1 0 0 z.1 z.2) = true := by decide +kernel
theorem pg_o27 : ∀ pc q, ev_lu pg_c27 pc = some q → ev_ok pg_hs pg_cl pg_mt "TicketTagModel" "TicketTag" prog_4_method_20_code 1 0 0 pc q = true := fun pc q h => List.all_eq_true.mp pg_k27 (pc, q) (ev_lu_mem h)
theorem pg_k28 : pg_c28.all (fun z => ev_ok pg_hs pg_cl pg_mt "TicketTagModel" "TicketTag" prog_4_method_17_code 2 0 0 z.1 z.2) = true := by decide +kernel
theorem pg_o28 : ∀ pc q, ev_lu pg_c28 pc = some q → ev_ok pg_hs pg_cl pg_mt "TicketTagModel" "TicketTag" prog_4_method_17_code 2 0 0 pc q = true := fun pc q h => List.all_eq_true.mp pg_k28 (pc, q) (ev_lu_mem h)
theorem pg_k29 : pg_c29.all (fun z => ev_ok pg_hs pg_cl pg_mt "TicketTagModel" "TicketTag" prog_4_method_39_code 1 0 0 z.1 z.2) = true := by decide +kernel
theorem pg_o29 : ∀ pc q, ev_lu pg_c29 pc = some q → ev_ok pg_hs pg_cl pg_mt "TicketTagModel" "TicketTag" prog_4_method_39_code 1 0 0 pc q = true := fun pc q h => List.all_eq_true.mp pg_k29 (pc, q) (ev_lu_mem h)
theorem pg_k30 : pg_c30.all (fun z => ev_ok pg_hs pg_cl pg_mt "TicketTagModel" "TicketTag" prog_4_method_33_code 2 0 0 z.1 z.2) = true := by decide +kernel
theorem pg_o30 : ∀ pc q, ev_lu pg_c30 pc = some q → ev_ok pg_hs pg_cl pg_mt "TicketTagModel" "TicketTag" prog_4_method_33_code 2 0 0 pc q = true := fun pc q h => List.all_eq_true.mp pg_k30 (pc, q) (ev_lu_mem h)
theorem pg_k31 : pg_c31.all (fun z => ev_ok pg_hs pg_cl pg_mt "TicketTagModel" "TicketTag" prog_4_method_2_code 1 0 0 z.1 z.2) = true := by decide +kernel
theorem pg_o31 : ∀ pc q, ev_lu pg_c31 pc = some q → ev_ok pg_hs pg_cl pg_mt "TicketTagModel" "TicketTag" prog_4_method_2_code 1 0 0 pc q = true := fun pc q h => List.all_eq_true.mp pg_k31 (pc, q) (ev_lu_mem h)
theorem pg_k32 : pg_c32.all (fun z => ev_ok pg_hs pg_cl pg_mt "TicketTagModel" "TicketTag" prog_4_method_5_code 6 0 0 z.1 z.2) = true := by decide +kernel
theorem pg_o32 : ∀ pc q, ev_lu pg_c32 pc = some q → ev_ok pg_hs pg_cl pg_mt "TicketTagModel" "TicketTag" prog_4_method_5_code 6 0 0 pc q = true := fun pc q h => List.all_eq_true.mp pg_k32 (pc, q) (ev_lu_mem h)
theorem pg_k33 : pg_c33.all (fun z => ev_ok pg_hs pg_cl pg_mt "java/lang/Integer" "TicketTag" prog_9_method_49_code 1 0 0 z.1 z.2) = true := by decide +kernel
theorem pg_o33 : ∀ pc q, ev_lu pg_c33 pc = some q → ev_ok pg_hs pg_cl pg_mt "java/lang/Integer" "TicketTag" prog_9_method_49_code 1 0 0 pc q = true := fun pc q h => List.all_eq_true.mp pg_k33 (pc, q) (ev_lu_mem h)
theorem pg_k34 : pg_c34.all (fun z => ev_ok pg_hs pg_cl pg_mt "java/lang/Math" "TicketTag" prog_10_method_65_code 2 0 0 z.1 z.2) = true := by decide +kernel
theorem pg_o34 : ∀ pc q, ev_lu pg_c34 pc = some q → ev_ok pg_hs pg_cl pg_mt "java/lang/Math" "TicketTag" prog_10_method_65_code 2 0 0 pc q = true := fun pc q h => List.all_eq_true.mp pg_k34 (pc, q) (ev_lu_mem h)
theorem pg_k35 : pg_c35.all (fun z => ev_ok pg_hs pg_cl pg_mt "java/lang/Math" "TicketTag" prog_10_method_69_code 2 0 0 z.1 z.2) = true := by decide +kernel
theorem pg_o35 : ∀ pc q, ev_lu pg_c35 pc = some q → ev_ok pg_hs pg_cl pg_mt "java/lang/Math" "TicketTag" prog_10_method_69_code 2 0 0 pc q = true := fun pc q h => List.all_eq_true.mp pg_k35 (pc, q) (ev_lu_mem h)
theorem pg_k36 : pg_c36.all (fun z => ev_ok pg_hs pg_cl pg_mt "TicketTag" "TicketTag" prog_1_method_10_code 1 1 28 z.1 z.2) = true := by decide +kernel
theorem pg_o36 : ∀ pc q, ev_lu pg_c36 pc = some q → ev_ok pg_hs pg_cl pg_mt "TicketTag" "TicketTag" prog_1_method_10_code 1 1 28 pc q = true := fun pc q h => List.all_eq_true.mp pg_k36 (pc, q) (ev_lu_mem h)
theorem pg_k37 : pg_c37.all (fun z => ev_ok pg_hs pg_cl pg_mt "TicketTag" "TicketTag" prog_1_method_58_code 2 1 31 z.1 z.2) = true := by decide +kernel
theorem pg_o37 : ∀ pc q, ev_lu pg_c37 pc = some q → ev_ok pg_hs pg_cl pg_mt "TicketTag" "TicketTag" prog_1_method_58_code 2 1 31 pc q = true := fun pc q h => List.all_eq_true.mp pg_k37 (pc, q) (ev_lu_mem h)
theorem pg_k38 : pg_c38.all (fun z => ev_ok pg_hs pg_cl pg_mt "TicketTag" "TicketTag" prog_1_method_60_code 2 1 31 z.1 z.2) = true := by decide +kernel
theorem pg_o38 : ∀ pc q, ev_lu pg_c38 pc = some q → ev_ok pg_hs pg_cl pg_mt "TicketTag" "TicketTag" prog_1_method_60_code 2 1 31 pc q = true := fun pc q h => List.all_eq_true.mp pg_k38 (pc, q) (ev_lu_mem h)
theorem pg_k39 : pg_c39.all (fun z => ev_ok pg_hs pg_cl pg_mt "TicketTag" "TicketTag" prog_1_method_26_code 3 1 31 z.1 z.2) = true := by decide +kernel
theorem pg_o39 : ∀ pc q, ev_lu pg_c39 pc = some q → ev_ok pg_hs pg_cl pg_mt "TicketTag" "TicketTag" prog_1_method_26_code 3 1 31 pc q = true := fun pc q h => List.all_eq_true.mp pg_k39 (pc, q) (ev_lu_mem h)
theorem pg_k40 : pg_c40.all (fun z => ev_ok pg_hs pg_cl pg_mt "TicketTag" "TicketTag" prog_1_method_62_code 2 1 31 z.1 z.2) = true := by decide +kernel
theorem pg_o40 : ∀ pc q, ev_lu pg_c40 pc = some q → ev_ok pg_hs pg_cl pg_mt "TicketTag" "TicketTag" prog_1_method_62_code 2 1 31 pc q = true := fun pc q h => List.all_eq_true.mp pg_k40 (pc, q) (ev_lu_mem h)
theorem pg_k41 : pg_c41.all (fun z => ev_ok pg_hs pg_cl pg_mt "TicketTag" "TicketTag" prog_1_method_41_code 3 1 31 z.1 z.2) = true := by decide +kernel
theorem pg_o41 : ∀ pc q, ev_lu pg_c41 pc = some q → ev_ok pg_hs pg_cl pg_mt "TicketTag" "TicketTag" prog_1_method_41_code 3 1 31 pc q = true := fun pc q h => List.all_eq_true.mp pg_k41 (pc, q) (ev_lu_mem h)
theorem pg_k42 : pg_c42.all (fun z => ev_ok pg_hs pg_cl pg_mt "TicketTag" "TicketTag" prog_1_method_68_code 2 1 31 z.1 z.2) = true := by decide +kernel
theorem pg_o42 : ∀ pc q, ev_lu pg_c42 pc = some q → ev_ok pg_hs pg_cl pg_mt "TicketTag" "TicketTag" prog_1_method_68_code 2 1 31 pc q = true := fun pc q h => List.all_eq_true.mp pg_k42 (pc, q) (ev_lu_mem h)
theorem pg_k43 : pg_c43.all (fun z => ev_ok pg_hs pg_cl pg_mt "TicketTag" "TicketTag" prog_1_method_63_code 2 1 31 z.1 z.2) = true := by decide +kernel
theorem pg_o43 : ∀ pc q, ev_lu pg_c43 pc = some q → ev_ok pg_hs pg_cl pg_mt "TicketTag" "TicketTag" prog_1_method_63_code 2 1 31 pc q = true := fun pc q h => List.all_eq_true.mp pg_k43 (pc, q) (ev_lu_mem h)
theorem pg_k44 : pg_c44.all (fun z => ev_ok pg_hs pg_cl pg_mt "TicketTag" "TicketTag" prog_1_method_67_code 2 1 31 z.1 z.2) = true := by decide +kernel
theorem pg_o44 : ∀ pc q, ev_lu pg_c44 pc = some q → ev_ok pg_hs pg_cl pg_mt "TicketTag" "TicketTag" prog_1_method_67_code 2 1 31 pc q = true := fun pc q h => List.all_eq_true.mp pg_k44 (pc, q) (ev_lu_mem h)
theorem pg_k45 : pg_c45.all (fun z => ev_ok pg_hs pg_cl pg_mt "TicketTag" "TicketTag" prog_1_method_43_code 5 1 34 z.1 z.2) = true := by decide +kernel
theorem pg_o45 : ∀ pc q, ev_lu pg_c45 pc = some q → ev_ok pg_hs pg_cl pg_mt "TicketTag" "TicketTag" prog_1_method_43_code 5 1 34 pc q = true := fun pc q h => List.all_eq_true.mp pg_k45 (pc, q) (ev_lu_mem h)
theorem pg_k46 : pg_c46.all (fun z => ev_ok pg_hs pg_cl pg_mt "TicketTag" "TicketTag" prog_1_method_45_code 4 1 34 z.1 z.2) = true := by decide +kernel
theorem pg_o46 : ∀ pc q, ev_lu pg_c46 pc = some q → ev_ok pg_hs pg_cl pg_mt "TicketTag" "TicketTag" prog_1_method_45_code 4 1 34 pc q = true := fun pc q h => List.all_eq_true.mp pg_k46 (pc, q) (ev_lu_mem h)
theorem pg_k47 : pg_c47.all (fun z => ev_ok pg_hs pg_cl pg_mt "TicketTag" "TicketTag" prog_1_method_69_code 2 1 31 z.1 z.2) = true := by decide +kernel
theorem pg_o47 : ∀ pc q, ev_lu pg_c47 pc = some q → ev_ok pg_hs pg_cl pg_mt "TicketTag" "TicketTag" prog_1_method_69_code 2 1 31 pc q = true := fun pc q h => List.all_eq_true.mp pg_k47 (pc, q) (ev_lu_mem h)
theorem pg_k48 : pg_c48.all (fun z => ev_ok pg_hs pg_cl pg_mt "TicketTag" "TicketTag" prog_1_method_20_code 1 1 29 z.1 z.2) = true := by decide +kernel
theorem pg_o48 : ∀ pc q, ev_lu pg_c48 pc = some q → ev_ok pg_hs pg_cl pg_mt "TicketTag" "TicketTag" prog_1_method_20_code 1 1 29 pc q = true := fun pc q h => List.all_eq_true.mp pg_k48 (pc, q) (ev_lu_mem h)
theorem pg_k49 : pg_c49.all (fun z => ev_ok pg_hs pg_cl pg_mt "TicketTag" "TicketTag" prog_1_method_22_code 4 1 29 z.1 z.2) = true := by decide +kernel
theorem pg_o49 : ∀ pc q, ev_lu pg_c49 pc = some q → ev_ok pg_hs pg_cl pg_mt "TicketTag" "TicketTag" prog_1_method_22_code 4 1 29 pc q = true := fun pc q h => List.all_eq_true.mp pg_k49 (pc, q) (ev_lu_mem h)
theorem pg_k50 : pg_c50.all (fun z => ev_ok pg_hs pg_cl pg_mt "TicketTag" "TicketTag" prog_1_method_21_code 2 1 29 z.1 z.2) = true := by decide +kernel
theorem pg_o50 : ∀ pc q, ev_lu pg_c50 pc = some q → ev_ok pg_hs pg_cl pg_mt "TicketTag" "TicketTag" prog_1_method_21_code 2 1 29 pc q = true := fun pc q h => List.all_eq_true.mp pg_k50 (pc, q) (ev_lu_mem h)
theorem pg_k51 : pg_c51.all (fun z => ev_ok pg_hs pg_cl pg_mt "TicketTag" "TicketTag" prog_1_method_24_code 1 1 31 z.1 z.2) = true := by decide +kernel
theorem pg_o51 : ∀ pc q, ev_lu pg_c51 pc = some q → ev_ok pg_hs pg_cl pg_mt "TicketTag" "TicketTag" prog_1_method_24_code 1 1 31 pc q = true := fun pc q h => List.all_eq_true.mp pg_k51 (pc, q) (ev_lu_mem h)
theorem pg_k52 : pg_c52.all (fun z => ev_ok pg_hs pg_cl pg_mt "TicketTag" "TicketTag" prog_1_method_65_code 2 1 31 z.1 z.2) = true := by decide +kernel
theorem pg_o52 : ∀ pc q, ev_lu pg_c52 pc = some q → ev_ok pg_hs pg_cl pg_mt "TicketTag" "TicketTag" prog_1_method_65_code 2 1 31 pc q = true := fun pc q h => List.all_eq_true.mp pg_k52 (pc, q) (ev_lu_mem h)
theorem pg_k53 : pg_c53.all (fun z => ev_ok pg_hs pg_cl pg_mt "TicketTag" "TicketTag" prog_1_method_64_code 2 1 31 z.1 z.2) = true := by decide +kernel
theorem pg_o53 : ∀ pc q, ev_lu pg_c53 pc = some q → ev_ok pg_hs pg_cl pg_mt "TicketTag" "TicketTag" prog_1_method_64_code 2 1 31 pc q = true := fun pc q h => List.all_eq_true.mp pg_k53 (pc, q) (ev_lu_mem h)
theorem pg_k54 : pg_c54.all (fun z => ev_ok pg_hs pg_cl pg_mt "TicketTag" "TicketTag" prog_1_method_25_code 2 1 31 z.1 z.2) = true := by decide +kernel
theorem pg_o54 : ∀ pc q, ev_lu pg_c54 pc = some q → ev_ok pg_hs pg_cl pg_mt "TicketTag" "TicketTag" prog_1_method_25_code 2 1 31 pc q = true := fun pc q h => List.all_eq_true.mp pg_k54 (pc, q) (ev_lu_mem h)
theorem pg_k55 : pg_c55.all (fun z => ev_ok pg_hs pg_cl pg_mt "TicketTag" "TicketTag" prog_1_method_61_code 2 1 31 z.1 z.2) = true := by decide +kernel
theorem pg_o55 : ∀ pc q, ev_lu pg_c55 pc = some q → ev_ok pg_hs pg_cl pg_mt "TicketTag" "TicketTag" prog_1_method_61_code 2 1 31 pc q = true := fun pc q h => List.all_eq_true.mp pg_k55 (pc, q) (ev_lu_mem h)
theorem pg_k56 : pg_c56.all (fun z => ev_ok pg_hs pg_cl pg_mt "TicketTag" "TicketTag" prog_1_method_66_code 2 1 31 z.1 z.2) = true := by decide +kernel
theorem pg_o56 : ∀ pc q, ev_lu pg_c56 pc = some q → ev_ok pg_hs pg_cl pg_mt "TicketTag" "TicketTag" prog_1_method_66_code 2 1 31 pc q = true := fun pc q h => List.all_eq_true.mp pg_k56 (pc, q) (ev_lu_mem h)
theorem pg_k57 : pg_c57.all (fun z => ev_ok pg_hs pg_cl pg_mt "TicketTag$Memory" "TicketTag" prog_2_method_12_code 4 1 31 z.1 z.2) = true := by decide +kernel
theorem pg_o57 : ∀ pc q, ev_lu pg_c57 pc = some q → ev_ok pg_hs pg_cl pg_mt "TicketTag$Memory" "TicketTag" prog_2_method_12_code 4 1 31 pc q = true := fun pc q h => List.all_eq_true.mp pg_k57 (pc, q) (ev_lu_mem h)
theorem pg_k58 : pg_c58.all (fun z => ev_ok pg_hs pg_cl pg_mt "TicketTag$Memory" "TicketTag" prog_2_method_9_code 6 1 28 z.1 z.2) = true := by decide +kernel
theorem pg_o58 : ∀ pc q, ev_lu pg_c58 pc = some q → ev_ok pg_hs pg_cl pg_mt "TicketTag$Memory" "TicketTag" prog_2_method_9_code 6 1 28 pc q = true := fun pc q h => List.all_eq_true.mp pg_k58 (pc, q) (ev_lu_mem h)
theorem pg_k59 : pg_c59.all (fun z => ev_ok pg_hs pg_cl pg_mt "TicketTagModel" "TicketTag" prog_4_method_29_code 3 1 30 z.1 z.2) = true := by decide +kernel
theorem pg_o59 : ∀ pc q, ev_lu pg_c59 pc = some q → ev_ok pg_hs pg_cl pg_mt "TicketTagModel" "TicketTag" prog_4_method_29_code 3 1 30 pc q = true := fun pc q h => List.all_eq_true.mp pg_k59 (pc, q) (ev_lu_mem h)
theorem pg_k60 : pg_c60.all (fun z => ev_ok pg_hs pg_cl pg_mt "TicketTagModel" "TicketTag" prog_4_method_15_code 2 1 30 z.1 z.2) = true := by decide +kernel
theorem pg_o60 : ∀ pc q, ev_lu pg_c60 pc = some q → ev_ok pg_hs pg_cl pg_mt "TicketTagModel" "TicketTag" prog_4_method_15_code 2 1 30 pc q = true := fun pc q h => List.all_eq_true.mp pg_k60 (pc, q) (ev_lu_mem h)
theorem pg_k61 : pg_c61.all (fun z => ev_ok pg_hs pg_cl pg_mt "TicketTagModel" "TicketTag" prog_4_method_25_code 6 1 30 z.1 z.2) = true := by decide +kernel
theorem pg_o61 : ∀ pc q, ev_lu pg_c61 pc = some q → ev_ok pg_hs pg_cl pg_mt "TicketTagModel" "TicketTag" prog_4_method_25_code 6 1 30 pc q = true := fun pc q h => List.all_eq_true.mp pg_k61 (pc, q) (ev_lu_mem h)
theorem pg_k62 : pg_c62.all (fun z => ev_ok pg_hs pg_cl pg_mt "TicketTagModel" "TicketTag" prog_4_method_7_code 4 1 30 z.1 z.2) = true := by decide +kernel
theorem pg_o62 : ∀ pc q, ev_lu pg_c62 pc = some q → ev_ok pg_hs pg_cl pg_mt "TicketTagModel" "TicketTag" prog_4_method_7_code 4 1 30 pc q = true := fun pc q h => List.all_eq_true.mp pg_k62 (pc, q) (ev_lu_mem h)
theorem pg_k63 : pg_c63.all (fun z => ev_ok pg_hs pg_cl pg_mt "TicketTagModel" "TicketTag" prog_4_method_11_code 1 1 30 z.1 z.2) = true := by decide +kernel
theorem pg_o63 : ∀ pc q, ev_lu pg_c63 pc = some q → ev_ok pg_hs pg_cl pg_mt "TicketTagModel" "TicketTag" prog_4_method_11_code 1 1 30 pc q = true := fun pc q h => List.all_eq_true.mp pg_k63 (pc, q) (ev_lu_mem h)
theorem pg_k64 : pg_c64.all (fun z => ev_ok pg_hs pg_cl pg_mt "TicketTagModel" "TicketTag" prog_4_method_12_code 3 1 30 z.1 z.2) = true := by decide +kernel
theorem pg_o64 : ∀ pc q, ev_lu pg_c64 pc = some q → ev_ok pg_hs pg_cl pg_mt "TicketTagModel" "TicketTag" prog_4_method_12_code 3 1 30 pc q = true := fun pc q h => List.all_eq_true.mp pg_k64 (pc, q) (ev_lu_mem h)
theorem pg_k65 : pg_c65.all (fun z => ev_ok pg_hs pg_cl pg_mt "TicketTagModel" "TicketTag" prog_4_method_28_code 4 1 30 z.1 z.2) = true := by decide +kernel
theorem pg_o65 : ∀ pc q, ev_lu pg_c65 pc = some q → ev_ok pg_hs pg_cl pg_mt "TicketTagModel" "TicketTag" prog_4_method_28_code 4 1 30 pc q = true := fun pc q h => List.all_eq_true.mp pg_k65 (pc, q) (ev_lu_mem h)
theorem pg_k66 : pg_c66.all (fun z => ev_ok pg_hs pg_cl pg_mt "TicketTagModel" "TicketTag" prog_4_method_40_code 3 1 30 z.1 z.2) = true := by decide +kernel
theorem pg_o66 : ∀ pc q, ev_lu pg_c66 pc = some q → ev_ok pg_hs pg_cl pg_mt "TicketTagModel" "TicketTag" prog_4_method_40_code 3 1 30 pc q = true := fun pc q h => List.all_eq_true.mp pg_k66 (pc, q) (ev_lu_mem h)
theorem pg_k67 : pg_c67.all (fun z => ev_ok pg_hs pg_cl pg_mt "TicketTagModel" "TicketTag" prog_4_method_16_code 2 1 30 z.1 z.2) = true := by decide +kernel
theorem pg_o67 : ∀ pc q, ev_lu pg_c67 pc = some q → ev_ok pg_hs pg_cl pg_mt "TicketTagModel" "TicketTag" prog_4_method_16_code 2 1 30 pc q = true := fun pc q h => List.all_eq_true.mp pg_k67 (pc, q) (ev_lu_mem h)
theorem pg_k68 : pg_c68.all (fun z => ev_ok pg_hs pg_cl pg_mt "TicketTagModel" "TicketTag" prog_4_method_48_code 3 1 30 z.1 z.2) = true := by decide +kernel
theorem pg_o68 : ∀ pc q, ev_lu pg_c68 pc = some q → ev_ok pg_hs pg_cl pg_mt "TicketTagModel" "TicketTag" prog_4_method_48_code 3 1 30 pc q = true := fun pc q h => List.all_eq_true.mp pg_k68 (pc, q) (ev_lu_mem h)
theorem pg_k69 : pg_c69.all (fun z => ev_ok pg_hs pg_cl pg_mt "TicketTagModel" "TicketTag" prog_4_method_9_code 4 1 33 z.1 z.2) = true := by decide +kernel
theorem pg_o69 : ∀ pc q, ev_lu pg_c69 pc = some q → ev_ok pg_hs pg_cl pg_mt "TicketTagModel" "TicketTag" prog_4_method_9_code 4 1 33 pc q = true := fun pc q h => List.all_eq_true.mp pg_k69 (pc, q) (ev_lu_mem h)
theorem pg_k70 : pg_c70.all (fun z => ev_ok pg_hs pg_cl pg_mt "TicketTag" "TicketTag" prog_1_method_57_code 4 2 60 z.1 z.2) = true := by decide +kernel
theorem pg_o70 : ∀ pc q, ev_lu pg_c70 pc = some q → ev_ok pg_hs pg_cl pg_mt "TicketTag" "TicketTag" prog_1_method_57_code 4 2 60 pc q = true := fun pc q h => List.all_eq_true.mp pg_k70 (pc, q) (ev_lu_mem h)
theorem pg_k71 : pg_c71.all (fun z => ev_ok pg_hs pg_cl pg_mt "TicketTag" "TicketTag" prog_1_method_40_code 3 2 61 z.1 z.2) = true := by decide +kernel
theorem pg_o71 : ∀ pc q, ev_lu pg_c71 pc = some q → ev_ok pg_hs pg_cl pg_mt "TicketTag" "TicketTag" prog_1_method_40_code 3 2 61 pc q = true := fun pc q h => List.all_eq_true.mp pg_k71 (pc, q) (ev_lu_mem h)
theorem pg_k72 : pg_c72.all (fun z => ev_ok pg_hs pg_cl pg_mt "TicketTag" "TicketTag" prog_1_method_18_code 2 2 61 z.1 z.2) = true := by decide +kernel
theorem pg_o72 : ∀ pc q, ev_lu pg_c72 pc = some q → ev_ok pg_hs pg_cl pg_mt "TicketTag" "TicketTag" prog_1_method_18_code 2 2 61 pc q = true := fun pc q h => List.all_eq_true.mp pg_k72 (pc, q) (ev_lu_mem h)
theorem pg_k73 : pg_c73.all (fun z => ev_ok pg_hs pg_cl pg_mt "TicketTag" "TicketTag" prog_1_method_55_code 3 2 62 z.1 z.2) = true := by decide +kernel
theorem pg_o73 : ∀ pc q, ev_lu pg_c73 pc = some q → ev_ok pg_hs pg_cl pg_mt "TicketTag" "TicketTag" prog_1_method_55_code 3 2 62 pc q = true := fun pc q h => List.all_eq_true.mp pg_k73 (pc, q) (ev_lu_mem h)
theorem pg_k74 : pg_c74.all (fun z => ev_ok pg_hs pg_cl pg_mt "TicketTag" "TicketTag" prog_1_method_28_code 1 2 59 z.1 z.2) = true := by decide +kernel
theorem pg_o74 : ∀ pc q, ev_lu pg_c74 pc = some q → ev_ok pg_hs pg_cl pg_mt "TicketTag" "TicketTag" prog_1_method_28_code 1 2 59 pc q = true := fun pc q h => List.all_eq_true.mp pg_k74 (pc, q) (ev_lu_mem h)
theorem pg_k75 : pg_c75.all (fun z => ev_ok pg_hs pg_cl pg_mt "TicketTag" "TicketTag" prog_1_method_30_code 3 2 60 z.1 z.2) = true := by decide +kernel
theorem pg_o75 : ∀ pc q, ev_lu pg_c75 pc = some q → ev_ok pg_hs pg_cl pg_mt "TicketTag" "TicketTag" prog_1_method_30_code 3 2 60 pc q = true := fun pc q h => List.all_eq_true.mp pg_k75 (pc, q) (ev_lu_mem h)
theorem pg_k76 : pg_c76.all (fun z => ev_ok pg_hs pg_cl pg_mt "TicketTag" "TicketTag" prog_1_method_11_code 1 2 61 z.1 z.2) = true := by decide +kernel
theorem pg_o76 : ∀ pc q, ev_lu pg_c76 pc = some q → ev_ok pg_hs pg_cl pg_mt "TicketTag" "TicketTag" prog_1_method_11_code 1 2 61 pc q = true := fun pc q h => List.all_eq_true.mp pg_k76 (pc, q) (ev_lu_mem h)
theorem pg_k77 : pg_c77.all (fun z => ev_ok pg_hs pg_cl pg_mt "TicketTag" "TicketTag" prog_1_method_59_code 2 2 60 z.1 z.2) = true := by decide +kernel
theorem pg_o77 : ∀ pc q, ev_lu pg_c77 pc = some q → ev_ok pg_hs pg_cl pg_mt "TicketTag" "TicketTag" prog_1_method_59_code 2 2 60 pc q = true := fun pc q h => List.all_eq_true.mp pg_k77 (pc, q) (ev_lu_mem h)
theorem pg_k78 : pg_c78.all (fun z => ev_ok pg_hs pg_cl pg_mt "TicketTag" "TicketTag" prog_1_method_44_code 4 2 61 z.1 z.2) = true := by decide +kernel
theorem pg_o78 : ∀ pc q, ev_lu pg_c78 pc = some q → ev_ok pg_hs pg_cl pg_mt "TicketTag" "TicketTag" prog_1_method_44_code 4 2 61 pc q = true := fun pc q h => List.all_eq_true.mp pg_k78 (pc, q) (ev_lu_mem h)
theorem pg_k79 : pg_c79.all (fun z => ev_ok pg_hs pg_cl pg_mt "TicketTag$Memory" "TicketTag" prog_2_method_11_code 3 2 61 z.1 z.2) = true := by decide +kernel
theorem pg_o79 : ∀ pc q, ev_lu pg_c79 pc = some q → ev_ok pg_hs pg_cl pg_mt "TicketTag$Memory" "TicketTag" prog_2_method_11_code 3 2 61 pc q = true := fun pc q h => List.all_eq_true.mp pg_k79 (pc, q) (ev_lu_mem h)
theorem pg_k80 : pg_c80.all (fun z => ev_ok pg_hs pg_cl pg_mt "TicketTag$Memory" "TicketTag" prog_2_method_15_code 4 2 62 z.1 z.2) = true := by decide +kernel
theorem pg_o80 : ∀ pc q, ev_lu pg_c80 pc = some q → ev_ok pg_hs pg_cl pg_mt "TicketTag$Memory" "TicketTag" prog_2_method_15_code 4 2 62 pc q = true := fun pc q h => List.all_eq_true.mp pg_k80 (pc, q) (ev_lu_mem h)
theorem pg_k81 : pg_c81.all (fun z => ev_ok pg_hs pg_cl pg_mt "TicketTag$Memory" "TicketTag" prog_2_method_18_code 5 2 61 z.1 z.2) = true := by decide +kernel
theorem pg_o81 : ∀ pc q, ev_lu pg_c81 pc = some q → ev_ok pg_hs pg_cl pg_mt "TicketTag$Memory" "TicketTag" prog_2_method_18_code 5 2 61 pc q = true := fun pc q h => List.all_eq_true.mp pg_k81 (pc, q) (ev_lu_mem h)
theorem pg_k82 : pg_c82.all (fun z => ev_ok pg_hs pg_cl pg_mt "TicketTagModel" "TicketTag" prog_4_method_49_code 2 2 60 z.1 z.2) = true := by decide +kernel
theorem pg_o82 : ∀ pc q, ev_lu pg_c82 pc = some q → ev_ok pg_hs pg_cl pg_mt "TicketTagModel" "TicketTag" prog_4_method_49_code 2 2 60 pc q = true := fun pc q h => List.all_eq_true.mp pg_k82 (pc, q) (ev_lu_mem h)
theorem pg_k83 : pg_c83.all (fun z => ev_ok pg_hs pg_cl pg_mt "TicketTagModel" "TicketTag" prog_4_method_18_code 2 2 61 z.1 z.2) = true := by decide +kernel
theorem pg_o83 : ∀ pc q, ev_lu pg_c83 pc = some q → ev_ok pg_hs pg_cl pg_mt "TicketTagModel" "TicketTag" prog_4_method_18_code 2 2 61 pc q = true := fun pc q h => List.all_eq_true.mp pg_k83 (pc, q) (ev_lu_mem h)
theorem pg_k84 : pg_c84.all (fun z => ev_ok pg_hs pg_cl pg_mt "TicketTagModel" "TicketTag" prog_4_method_8_code 5 2 61 z.1 z.2) = true := by decide +kernel
theorem pg_o84 : ∀ pc q, ev_lu pg_c84 pc = some q → ev_ok pg_hs pg_cl pg_mt "TicketTagModel" "TicketTag" prog_4_method_8_code 5 2 61 pc q = true := fun pc q h => List.all_eq_true.mp pg_k84 (pc, q) (ev_lu_mem h)
theorem pg_k85 : pg_c85.all (fun z => ev_ok pg_hs pg_cl pg_mt "TicketTagModel" "TicketTag" prog_4_method_42_code 1 2 60 z.1 z.2) = true := by decide +kernel
theorem pg_o85 : ∀ pc q, ev_lu pg_c85 pc = some q → ev_ok pg_hs pg_cl pg_mt "TicketTagModel" "TicketTag" prog_4_method_42_code 1 2 60 pc q = true := fun pc q h => List.all_eq_true.mp pg_k85 (pc, q) (ev_lu_mem h)
theorem pg_k86 : pg_c86.all (fun z => ev_ok pg_hs pg_cl pg_mt "TicketTagModel" "TicketTag" prog_4_method_19_code 3 2 64 z.1 z.2) = true := by decide +kernel
theorem pg_o86 : ∀ pc q, ev_lu pg_c86 pc = some q → ev_ok pg_hs pg_cl pg_mt "TicketTagModel" "TicketTag" prog_4_method_19_code 3 2 64 pc q = true := fun pc q h => List.all_eq_true.mp pg_k86 (pc, q) (ev_lu_mem h)
theorem pg_k87 : pg_c87.all (fun z => ev_ok pg_hs pg_cl pg_mt "TicketTag" "TicketTag" prog_1_method_39_code 4 3 91 z.1 z.2) = true := by decide +kernel
theorem pg_o87 : ∀ pc q, ev_lu pg_c87 pc = some q → ev_ok pg_hs pg_cl pg_mt "TicketTag" "TicketTag" prog_1_method_39_code 4 3 91 pc q = true := fun pc q h => List.all_eq_true.mp pg_k87 (pc, q) (ev_lu_mem h)
theorem pg_k88 : pg_c88.all (fun z => ev_ok pg_hs pg_cl pg_mt "TicketTag" "TicketTag" prog_1_method_33_code 3 3 91 z.1 z.2) = true := by decide +kernel
theorem pg_o88 : ∀ pc q, ev_lu pg_c88 pc = some q → ev_ok pg_hs pg_cl pg_mt "TicketTag" "TicketTag" prog_1_method_33_code 3 3 91 pc q = true := fun pc q h => List.all_eq_true.mp pg_k88 (pc, q) (ev_lu_mem h)
theorem pg_k89 : pg_c89.all (fun z => ev_ok pg_hs pg_cl pg_mt "TicketTag" "TicketTag" prog_1_method_56_code 2 3 92 z.1 z.2) = true := by decide +kernel
theorem pg_o89 : ∀ pc q, ev_lu pg_c89 pc = some q → ev_ok pg_hs pg_cl pg_mt "TicketTag" "TicketTag" prog_1_method_56_code 2 3 92 pc q = true := fun pc q h => List.all_eq_true.mp pg_k89 (pc, q) (ev_lu_mem h)
theorem pg_k90 : pg_c90.all (fun z => ev_ok pg_hs pg_cl pg_mt "TicketTag" "TicketTag" prog_1_method_50_code 3 3 89 z.1 z.2) = true := by decide +kernel
theorem pg_o90 : ∀ pc q, ev_lu pg_c90 pc = some q → ev_ok pg_hs pg_cl pg_mt "TicketTag" "TicketTag" prog_1_method_50_code 3 3 89 pc q = true := fun pc q h => List.all_eq_true.mp pg_k90 (pc, q) (ev_lu_mem h)
theorem pg_k91 : pg_c91.all (fun z => ev_ok pg_hs pg_cl pg_mt "TicketTag" "TicketTag" prog_1_method_52_code 5 3 93 z.1 z.2) = true := by decide +kernel
theorem pg_o91 : ∀ pc q, ev_lu pg_c91 pc = some q → ev_ok pg_hs pg_cl pg_mt "TicketTag" "TicketTag" prog_1_method_52_code 5 3 93 pc q = true := fun pc q h => List.all_eq_true.mp pg_k91 (pc, q) (ev_lu_mem h)
theorem pg_k92 : pg_c92.all (fun z => ev_ok pg_hs pg_cl pg_mt "TicketTag" "TicketTag" prog_1_method_53_code 1 3 93 z.1 z.2) = true := by decide +kernel
theorem pg_o92 : ∀ pc q, ev_lu pg_c92 pc = some q → ev_ok pg_hs pg_cl pg_mt "TicketTag" "TicketTag" prog_1_method_53_code 1 3 93 pc q = true := fun pc q h => List.all_eq_true.mp pg_k92 (pc, q) (ev_lu_mem h)
theorem pg_k93 : pg_c93.all (fun z => ev_ok pg_hs pg_cl pg_mt "TicketTag" "TicketTag" prog_1_method_46_code 1 3 93 z.1 z.2) = true := by decide +kernel
theorem pg_o93 : ∀ pc q, ev_lu pg_c93 pc = some q → ev_ok pg_hs pg_cl pg_mt "TicketTag" "TicketTag" prog_1_method_46_code 1 3 93 pc q = true := fun pc q h => List.all_eq_true.mp pg_k93 (pc, q) (ev_lu_mem h)
theorem pg_k94 : pg_c94.all (fun z => ev_ok pg_hs pg_cl pg_mt "TicketTag" "TicketTag" prog_1_method_29_code 4 3 87 z.1 z.2) = true := by decide +kernel
theorem pg_o94 : ∀ pc q, ev_lu pg_c94 pc = some q → ev_ok pg_hs pg_cl pg_mt "TicketTag" "TicketTag" prog_1_method_29_code 4 3 87 pc q = true := fun pc q h => List.all_eq_true.mp pg_k94 (pc, q) (ev_lu_mem h)
theorem pg_k95 : pg_c95.all (fun z => ev_ok pg_hs pg_cl pg_mt "TicketTag" "TicketTag" prog_1_method_47_code 3 3 93 z.1 z.2) = true := by decide +kernel
theorem pg_o95 : ∀ pc q, ev_lu pg_c95 pc = some q → ev_ok pg_hs pg_cl pg_mt "TicketTag" "TicketTag" prog_1_method_47_code 3 3 93 pc q = true := fun pc q h => List.all_eq_true.mp pg_k95 (pc, q) (ev_lu_mem h)
theorem pg_k96 : pg_c96.all (fun z => ev_ok pg_hs pg_cl pg_mt "TicketTag$Memory" "TicketTag" prog_2_method_17_code 3 3 93 z.1 z.2) = true := by decide +kernel
theorem pg_o96 : ∀ pc q, ev_lu pg_c96 pc = some q → ev_ok pg_hs pg_cl pg_mt "TicketTag$Memory" "TicketTag" prog_2_method_17_code 3 3 93 pc q = true := fun pc q h => List.all_eq_true.mp pg_k96 (pc, q) (ev_lu_mem h)
theorem pg_k97 : pg_c97.all (fun z => ev_ok pg_hs pg_cl pg_mt "TicketTagModel" "TicketTag" prog_4_method_44_code 3 3 93 z.1 z.2) = true := by decide +kernel
theorem pg_o97 : ∀ pc q, ev_lu pg_c97 pc = some q → ev_ok pg_hs pg_cl pg_mt "TicketTagModel" "TicketTag" prog_4_method_44_code 3 3 93 pc q = true := fun pc q h => List.all_eq_true.mp pg_k97 (pc, q) (ev_lu_mem h)
theorem pg_k98 : pg_c98.all (fun z => ev_ok pg_hs pg_cl pg_mt "TicketTagModel" "TicketTag" prog_4_method_43_code 2 3 93 z.1 z.2) = true := by decide +kernel
theorem pg_o98 : ∀ pc q, ev_lu pg_c98 pc = some q → ev_ok pg_hs pg_cl pg_mt "TicketTagModel" "TicketTag" prog_4_method_43_code 2 3 93 pc q = true := fun pc q h => List.all_eq_true.mp pg_k98 (pc, q) (ev_lu_mem h)
theorem pg_k99 : pg_c99.all (fun z => ev_ok pg_hs pg_cl pg_mt "TicketTagModel" "TicketTag" prog_4_method_32_code 2 3 94 z.1 z.2) = true := by decide +kernel
theorem pg_o99 : ∀ pc q, ev_lu pg_c99 pc = some q → ev_ok pg_hs pg_cl pg_mt "TicketTagModel" "TicketTag" prog_4_method_32_code 2 3 94 pc q = true := fun pc q h => List.all_eq_true.mp pg_k99 (pc, q) (ev_lu_mem h)
theorem pg_k100 : pg_c100.all (fun z => ev_ok pg_hs pg_cl pg_mt "TicketTagModel" "TicketTag" prog_4_method_13_code 4 3 93 z.1 z.2) = true := by decide +kernel
theorem pg_o100 : ∀ pc q, ev_lu pg_c100 pc = some q → ev_ok pg_hs pg_cl pg_mt "TicketTagModel" "TicketTag" prog_4_method_13_code 4 3 93 pc q = true := fun pc q h => List.all_eq_true.mp pg_k100 (pc, q) (ev_lu_mem h)
theorem pg_k101 : pg_c101.all (fun z => ev_ok pg_hs pg_cl pg_mt "TicketTagModel" "TicketTag" prog_4_method_10_code 3 3 93 z.1 z.2) = true := by decide +kernel
theorem pg_o101 : ∀ pc q, ev_lu pg_c101 pc = some q → ev_ok pg_hs pg_cl pg_mt "TicketTagModel" "TicketTag" prog_4_method_10_code 3 3 93 pc q = true := fun pc q h => List.all_eq_true.mp pg_k101 (pc, q) (ev_lu_mem h)
theorem pg_k102 : pg_c102.all (fun z => ev_ok pg_hs pg_cl pg_mt "TicketTag" "TicketTag" prog_1_method_13_code 3 4 121 z.1 z.2) = true := by decide +kernel
theorem pg_o102 : ∀ pc q, ev_lu pg_c102 pc = some q → ev_ok pg_hs pg_cl pg_mt "TicketTag" "TicketTag" prog_1_method_13_code 3 4 121 pc q = true := fun pc q h => List.all_eq_true.mp pg_k102 (pc, q) (ev_lu_mem h)
theorem pg_k103 : pg_c103.all (fun z => ev_ok pg_hs pg_cl pg_mt "TicketTag" "TicketTag" prog_1_method_12_code 2 4 121 z.1 z.2) = true := by decide +kernel
theorem pg_o103 : ∀ pc q, ev_lu pg_c103 pc = some q → ev_ok pg_hs pg_cl pg_mt "TicketTag" "TicketTag" prog_1_method_12_code 2 4 121 pc q = true := fun pc q h => List.all_eq_true.mp pg_k103 (pc, q) (ev_lu_mem h)
theorem pg_k104 : pg_c104.all (fun z => ev_ok pg_hs pg_cl pg_mt "TicketTag" "TicketTag" prog_1_method_51_code 3 4 125 z.1 z.2) = true := by decide +kernel
theorem pg_o104 : ∀ pc q, ev_lu pg_c104 pc = some q → ev_ok pg_hs pg_cl pg_mt "TicketTag" "TicketTag" prog_1_method_51_code 3 4 125 pc q = true := fun pc q h => List.all_eq_true.mp pg_k104 (pc, q) (ev_lu_mem h)
theorem pg_k105 : pg_c105.all (fun z => ev_ok pg_hs pg_cl pg_mt "TicketTag" "TicketTag" prog_1_method_34_code 6 4 123 z.1 z.2) = true := by decide +kernel
theorem pg_o105 : ∀ pc q, ev_lu pg_c105 pc = some q → ev_ok pg_hs pg_cl pg_mt "TicketTag" "TicketTag" prog_1_method_34_code 6 4 123 pc q = true := fun pc q h => List.all_eq_true.mp pg_k105 (pc, q) (ev_lu_mem h)
theorem pg_k106 : pg_c106.all (fun z => ev_ok pg_hs pg_cl pg_mt "TicketTag" "TicketTag" prog_1_method_36_code 5 4 123 z.1 z.2) = true := by decide +kernel
theorem pg_o106 : ∀ pc q, ev_lu pg_c106 pc = some q → ev_ok pg_hs pg_cl pg_mt "TicketTag" "TicketTag" prog_1_method_36_code 5 4 123 pc q = true := fun pc q h => List.all_eq_true.mp pg_k106 (pc, q) (ev_lu_mem h)
theorem pg_k107 : pg_c107.all (fun z => ev_ok pg_hs pg_cl pg_mt "TicketTag" "TicketTag" prog_1_method_35_code 5 4 123 z.1 z.2) = true := by decide +kernel
theorem pg_o107 : ∀ pc q, ev_lu pg_c107 pc = some q → ev_ok pg_hs pg_cl pg_mt "TicketTag" "TicketTag" prog_1_method_35_code 5 4 123 pc q = true := fun pc q h => List.all_eq_true.mp pg_k107 (pc, q) (ev_lu_mem h)
theorem pg_k108 : pg_c108.all (fun z => ev_ok pg_hs pg_cl pg_mt "TicketTag" "TicketTag" prog_1_method_37_code 11 4 123 z.1 z.2) = true := by decide +kernel
theorem pg_o108 : ∀ pc q, ev_lu pg_c108 pc = some q → ev_ok pg_hs pg_cl pg_mt "TicketTag" "TicketTag" prog_1_method_37_code 11 4 123 pc q = true := fun pc q h => List.all_eq_true.mp pg_k108 (pc, q) (ev_lu_mem h)
theorem pg_k109 : pg_c109.all (fun z => ev_ok pg_hs pg_cl pg_mt "TicketTag" "TicketTag" prog_1_method_48_code 2 4 125 z.1 z.2) = true := by decide +kernel
theorem pg_o109 : ∀ pc q, ev_lu pg_c109 pc = some q → ev_ok pg_hs pg_cl pg_mt "TicketTag" "TicketTag" prog_1_method_48_code 2 4 125 pc q = true := fun pc q h => List.all_eq_true.mp pg_k109 (pc, q) (ev_lu_mem h)
theorem pg_k110 : pg_c110.all (fun z => ev_ok pg_hs pg_cl pg_mt "TicketTag" "TicketTag" prog_1_method_23_code 5 4 123 z.1 z.2) = true := by decide +kernel
theorem pg_o110 : ∀ pc q, ev_lu pg_c110 pc = some q → ev_ok pg_hs pg_cl pg_mt "TicketTag" "TicketTag" prog_1_method_23_code 5 4 123 pc q = true := fun pc q h => List.all_eq_true.mp pg_k110 (pc, q) (ev_lu_mem h)
theorem pg_k111 : pg_c111.all (fun z => ev_ok pg_hs pg_cl pg_mt "TicketTagModel" "TicketTag" prog_4_method_26_code 6 4 123 z.1 z.2) = true := by decide +kernel
theorem pg_o111 : ∀ pc q, ev_lu pg_c111 pc = some q → ev_ok pg_hs pg_cl pg_mt "TicketTagModel" "TicketTag" prog_4_method_26_code 6 4 123 pc q = true := fun pc q h => List.all_eq_true.mp pg_k111 (pc, q) (ev_lu_mem h)
theorem pg_k112 : pg_c112.all (fun z => ev_ok pg_hs pg_cl pg_mt "TicketTagModel" "TicketTag" prog_4_method_14_code 3 4 124 z.1 z.2) = true := by decide +kernel
theorem pg_o112 : ∀ pc q, ev_lu pg_c112 pc = some q → ev_ok pg_hs pg_cl pg_mt "TicketTagModel" "TicketTag" prog_4_method_14_code 3 4 124 pc q = true := fun pc q h => List.all_eq_true.mp pg_k112 (pc, q) (ev_lu_mem h)
theorem pg_k113 : pg_c113.all (fun z => ev_ok pg_hs pg_cl pg_mt "TicketTagModel" "TicketTag" prog_4_method_31_code 9 4 123 z.1 z.2) = true := by decide +kernel
theorem pg_o113 : ∀ pc q, ev_lu pg_c113 pc = some q → ev_ok pg_hs pg_cl pg_mt "TicketTagModel" "TicketTag" prog_4_method_31_code 9 4 123 pc q = true := fun pc q h => List.all_eq_true.mp pg_k113 (pc, q) (ev_lu_mem h)
theorem pg_k114 : pg_c114.all (fun z => ev_ok pg_hs pg_cl pg_mt "TicketTagModel" "TicketTag" prog_4_method_38_code 3 4 123 z.1 z.2) = true := by decide +kernel
theorem pg_o114 : ∀ pc q, ev_lu pg_c114 pc = some q → ev_ok pg_hs pg_cl pg_mt "TicketTagModel" "TicketTag" prog_4_method_38_code 3 4 123 pc q = true := fun pc q h => List.all_eq_true.mp pg_k114 (pc, q) (ev_lu_mem h)
theorem pg_k115 : pg_c115.all (fun z => ev_ok pg_hs pg_cl pg_mt "TicketTag" "TicketTag" prog_1_method_49_code 2 5 155 z.1 z.2) = true := by decide +kernel
theorem pg_o115 : ∀ pc q, ev_lu pg_c115 pc = some q → ev_ok pg_hs pg_cl pg_mt "TicketTag" "TicketTag" prog_1_method_49_code 2 5 155 pc q = true := fun pc q h => List.all_eq_true.mp pg_k115 (pc, q) (ev_lu_mem h)
theorem pg_k116 : pg_c116.all (fun z => ev_ok pg_hs pg_cl pg_mt "TicketTag" "TicketTag" prog_1_method_14_code 5 5 155 z.1 z.2) = true := by decide +kernel
theorem pg_o116 : ∀ pc q, ev_lu pg_c116 pc = some q → ev_ok pg_hs pg_cl pg_mt "TicketTag" "TicketTag" prog_1_method_14_code 5 5 155 pc q = true := fun pc q h => List.all_eq_true.mp pg_k116 (pc, q) (ev_lu_mem h)
theorem pg_k117 : pg_c117.all (fun z => ev_ok pg_hs pg_cl pg_mt "TicketTag" "TicketTag" prog_1_method_15_code 3 5 155 z.1 z.2) = true := by decide +kernel
theorem pg_o117 : ∀ pc q, ev_lu pg_c117 pc = some q → ev_ok pg_hs pg_cl pg_mt "TicketTag" "TicketTag" prog_1_method_15_code 3 5 155 pc q = true := fun pc q h => List.all_eq_true.mp pg_k117 (pc, q) (ev_lu_mem h)
theorem pg_k118 : pg_c118.all (fun z => ev_ok pg_hs pg_cl pg_mt "TicketTag" "TicketTag" prog_1_method_32_code 7 5 161 z.1 z.2) = true := by decide +kernel
theorem pg_o118 : ∀ pc q, ev_lu pg_c118 pc = some q → ev_ok pg_hs pg_cl pg_mt "TicketTag" "TicketTag" prog_1_method_32_code 7 5 161 pc q = true := fun pc q h => List.all_eq_true.mp pg_k118 (pc, q) (ev_lu_mem h)
theorem pg_k119 : pg_c119.all (fun z => ev_ok pg_hs pg_cl pg_mt "TicketTagModel" "TicketTag" prog_4_method_36_code 6 5 159 z.1 z.2) = true := by decide +kernel
theorem pg_o119 : ∀ pc q, ev_lu pg_c119 pc = some q → ev_ok pg_hs pg_cl pg_mt "TicketTagModel" "TicketTag" prog_4_method_36_code 6 5 159 pc q = true := fun pc q h => List.all_eq_true.mp pg_k119 (pc, q) (ev_lu_mem h)
theorem pg_k120 : pg_c120.all (fun z => ev_ok pg_hs pg_cl pg_mt "TicketTagModel" "TicketTag" prog_4_method_47_code 5 5 154 z.1 z.2) = true := by decide +kernel
theorem pg_o120 : ∀ pc q, ev_lu pg_c120 pc = some q → ev_ok pg_hs pg_cl pg_mt "TicketTagModel" "TicketTag" prog_4_method_47_code 5 5 154 pc q = true := fun pc q h => List.all_eq_true.mp pg_k120 (pc, q) (ev_lu_mem h)
theorem pg_k121 : pg_c121.all (fun z => ev_ok pg_hs pg_cl pg_mt "TicketTagModel" "TicketTag" prog_4_method_45_code 6 5 154 z.1 z.2) = true := by decide +kernel
theorem pg_o121 : ∀ pc q, ev_lu pg_c121 pc = some q → ev_ok pg_hs pg_cl pg_mt "TicketTagModel" "TicketTag" prog_4_method_45_code 6 5 154 pc q = true := fun pc q h => List.all_eq_true.mp pg_k121 (pc, q) (ev_lu_mem h)
theorem pg_k122 : pg_c122.all (fun z => ev_ok pg_hs pg_cl pg_mt "TicketTagModel" "TicketTag" prog_4_method_46_code 3 5 154 z.1 z.2) = true := by decide +kernel
theorem pg_o122 : ∀ pc q, ev_lu pg_c122 pc = some q → ev_ok pg_hs pg_cl pg_mt "TicketTagModel" "TicketTag" prog_4_method_46_code 3 5 154 pc q = true := fun pc q h => List.all_eq_true.mp pg_k122 (pc, q) (ev_lu_mem h)
theorem pg_k123 : pg_c123.all (fun z => ev_ok pg_hs pg_cl pg_mt "TicketTagModel" "TicketTag" prog_4_method_35_code 4 5 159 z.1 z.2) = true := by decide +kernel
theorem pg_o123 : ∀ pc q, ev_lu pg_c123 pc = some q → ev_ok pg_hs pg_cl pg_mt "TicketTagModel" "TicketTag" prog_4_method_35_code 4 5 159 pc q = true := fun pc q h => List.all_eq_true.mp pg_k123 (pc, q) (ev_lu_mem h)
theorem pg_k124 : pg_c124.all (fun z => ev_ok pg_hs pg_cl pg_mt "TicketTagModel" "TicketTag" prog_4_method_30_code 4 5 154 z.1 z.2) = true := by decide +kernel
theorem pg_o124 : ∀ pc q, ev_lu pg_c124 pc = some q → ev_ok pg_hs pg_cl pg_mt "TicketTagModel" "TicketTag" prog_4_method_30_code 4 5 154 pc q = true := fun pc q h => List.all_eq_true.mp pg_k124 (pc, q) (ev_lu_mem h)
theorem pg_k125 : pg_c125.all (fun z => ev_ok pg_hs pg_cl pg_mt "TicketTagModel" "TicketTag" prog_4_method_37_code 10 5 159 z.1 z.2) = true := by decide +kernel
theorem pg_o125 : ∀ pc q, ev_lu pg_c125 pc = some q → ev_ok pg_hs pg_cl pg_mt "TicketTagModel" "TicketTag" prog_4_method_37_code 10 5 159 pc q = true := fun pc q h => List.all_eq_true.mp pg_k125 (pc, q) (ev_lu_mem h)
theorem pg_k126 : pg_c126.all (fun z => ev_ok pg_hs pg_cl pg_mt "TicketTag" "TicketTag" prog_1_method_4_code 3 6 82 z.1 z.2) = true := by decide +kernel
theorem pg_o126 : ∀ pc q, ev_lu pg_c126 pc = some q → ev_ok pg_hs pg_cl pg_mt "TicketTag" "TicketTag" prog_1_method_4_code 3 6 82 pc q = true := fun pc q h => List.all_eq_true.mp pg_k126 (pc, q) (ev_lu_mem h)
theorem pg_k127 : pg_c127.all (fun z => ev_ok pg_hs pg_cl pg_mt "TicketTag" "TicketTag" prog_1_method_16_code 6 6 155 z.1 z.2) = true := by decide +kernel
theorem pg_o127 : ∀ pc q, ev_lu pg_c127 pc = some q → ev_ok pg_hs pg_cl pg_mt "TicketTag" "TicketTag" prog_1_method_16_code 6 6 155 pc q = true := fun pc q h => List.all_eq_true.mp pg_k127 (pc, q) (ev_lu_mem h)
theorem pg_k128 : pg_c128.all (fun z => ev_ok pg_hs pg_cl pg_mt "TicketTag" "TicketTag" prog_1_method_2_code 5 6 155 z.1 z.2) = true := by decide +kernel
theorem pg_o128 : ∀ pc q, ev_lu pg_c128 pc = some q → ev_ok pg_hs pg_cl pg_mt "TicketTag" "TicketTag" prog_1_method_2_code 5 6 155 pc q = true := fun pc q h => List.all_eq_true.mp pg_k128 (pc, q) (ev_lu_mem h)
theorem pg_k129 : pg_c129.all (fun z => ev_ok pg_hs pg_cl pg_mt "TicketTag" "TicketTag" prog_1_method_5_code 2 6 184 z.1 z.2) = true := by decide +kernel
theorem pg_o129 : ∀ pc q, ev_lu pg_c129 pc = some q → ev_ok pg_hs pg_cl pg_mt "TicketTag" "TicketTag" prog_1_method_5_code 2 6 184 pc q = true := fun pc q h => List.all_eq_true.mp pg_k129 (pc, q) (ev_lu_mem h)
theorem pg_k130 : pg_c130.all (fun z => ev_ok pg_hs pg_cl pg_mt "TicketTag" "TicketTag" prog_1_method_3_code 4 6 82 z.1 z.2) = true := by decide +kernel
theorem pg_o130 : ∀ pc q, ev_lu pg_c130 pc = some q → ev_ok pg_hs pg_cl pg_mt "TicketTag" "TicketTag" prog_1_method_3_code 4 6 82 pc q = true := fun pc q h => List.all_eq_true.mp pg_k130 (pc, q) (ev_lu_mem h)
theorem pg_k131 : pg_c131.all (fun z => ev_ok pg_hs pg_cl pg_mt "TicketTag" "TicketTag" prog_1_method_9_code 3 6 82 z.1 z.2) = true := by decide +kernel
theorem pg_o131 : ∀ pc q, ev_lu pg_c131 pc = some q → ev_ok pg_hs pg_cl pg_mt "TicketTag" "TicketTag" prog_1_method_9_code 3 6 82 pc q = true := fun pc q h => List.all_eq_true.mp pg_k131 (pc, q) (ev_lu_mem h)
theorem pg_k132 : pg_c132.all (fun z => ev_ok pg_hs pg_cl pg_mt "TicketTag" "TicketTag" prog_1_method_7_code 3 6 123 z.1 z.2) = true := by decide +kernel
theorem pg_o132 : ∀ pc q, ev_lu pg_c132 pc = some q → ev_ok pg_hs pg_cl pg_mt "TicketTag" "TicketTag" prog_1_method_7_code 3 6 123 pc q = true := fun pc q h => List.all_eq_true.mp pg_k132 (pc, q) (ev_lu_mem h)
theorem pg_k133 : pg_c133.all (fun z => ev_ok pg_hs pg_cl pg_mt "TicketTag" "TicketTag" prog_1_method_6_code 6 6 195 z.1 z.2) = true := by decide +kernel
theorem pg_o133 : ∀ pc q, ev_lu pg_c133 pc = some q → ev_ok pg_hs pg_cl pg_mt "TicketTag" "TicketTag" prog_1_method_6_code 6 6 195 pc q = true := fun pc q h => List.all_eq_true.mp pg_k133 (pc, q) (ev_lu_mem h)
theorem pg_k134 : pg_c134.all (fun z => ev_ok pg_hs pg_cl pg_mt "TicketTag" "TicketTag" prog_1_method_17_code 3 6 82 z.1 z.2) = true := by decide +kernel
theorem pg_o134 : ∀ pc q, ev_lu pg_c134 pc = some q → ev_ok pg_hs pg_cl pg_mt "TicketTag" "TicketTag" prog_1_method_17_code 3 6 82 pc q = true := fun pc q h => List.all_eq_true.mp pg_k134 (pc, q) (ev_lu_mem h)
theorem pg_k135 : pg_c135.all (fun z => ev_ok pg_hs pg_cl pg_mt "TicketTagModel" "TicketTag" prog_4_method_34_code 7 6 196 z.1 z.2) = true := by decide +kernel
theorem pg_o135 : ∀ pc q, ev_lu pg_c135 pc = some q → ev_ok pg_hs pg_cl pg_mt "TicketTagModel" "TicketTag" prog_4_method_34_code 7 6 196 pc q = true := fun pc q h => List.all_eq_true.mp pg_k135 (pc, q) (ev_lu_mem h)
theorem pg_k136 : pg_c136.all (fun z => ev_ok pg_hs pg_cl pg_mt "TicketTagLaw" "TicketTag" method_5_code 4 7 112 z.1 z.2) = true := by decide +kernel
theorem pg_o136 : ∀ pc q, ev_lu pg_c136 pc = some q → ev_ok pg_hs pg_cl pg_mt "TicketTagLaw" "TicketTag" method_5_code 4 7 112 pc q = true := fun pc q h => List.all_eq_true.mp pg_k136 (pc, q) (ev_lu_mem h)
theorem pg_k137 : pg_c137.all (fun z => ev_ok pg_hs pg_cl pg_mt "TicketTagLaw" "TicketTag" method_10_code 6 7 188 z.1 z.2) = true := by decide +kernel
theorem pg_o137 : ∀ pc q, ev_lu pg_c137 pc = some q → ev_ok pg_hs pg_cl pg_mt "TicketTagLaw" "TicketTag" method_10_code 6 7 188 pc q = true := fun pc q h => List.all_eq_true.mp pg_k137 (pc, q) (ev_lu_mem h)
theorem pg_k138 : pg_c138.all (fun z => ev_ok pg_hs pg_cl pg_mt "TicketTagLaw" "TicketTag" method_3_code 7 7 187 z.1 z.2) = true := by decide +kernel
theorem pg_o138 : ∀ pc q, ev_lu pg_c138 pc = some q → ev_ok pg_hs pg_cl pg_mt "TicketTagLaw" "TicketTag" method_3_code 7 7 187 pc q = true := fun pc q h => List.all_eq_true.mp pg_k138 (pc, q) (ev_lu_mem h)
theorem pg_k139 : pg_c139.all (fun z => ev_ok pg_hs pg_cl pg_mt "TicketTagLaw" "TicketTag" method_6_code 4 7 213 z.1 z.2) = true := by decide +kernel
theorem pg_o139 : ∀ pc q, ev_lu pg_c139 pc = some q → ev_ok pg_hs pg_cl pg_mt "TicketTagLaw" "TicketTag" method_6_code 4 7 213 pc q = true := fun pc q h => List.all_eq_true.mp pg_k139 (pc, q) (ev_lu_mem h)
theorem pg_k140 : pg_c140.all (fun z => ev_ok pg_hs pg_cl pg_mt "TicketTagLaw" "TicketTag" method_4_code 5 7 113 z.1 z.2) = true := by decide +kernel
theorem pg_o140 : ∀ pc q, ev_lu pg_c140 pc = some q → ev_ok pg_hs pg_cl pg_mt "TicketTagLaw" "TicketTag" method_4_code 5 7 113 pc q = true := fun pc q h => List.all_eq_true.mp pg_k140 (pc, q) (ev_lu_mem h)
theorem pg_k141 : pg_c141.all (fun z => ev_ok pg_hs pg_cl pg_mt "TicketTagLaw" "TicketTag" method_9_code 4 7 112 z.1 z.2) = true := by decide +kernel
theorem pg_o141 : ∀ pc q, ev_lu pg_c141 pc = some q → ev_ok pg_hs pg_cl pg_mt "TicketTagLaw" "TicketTag" method_9_code 4 7 112 pc q = true := fun pc q h => List.all_eq_true.mp pg_k141 (pc, q) (ev_lu_mem h)
theorem pg_k142 : pg_c142.all (fun z => ev_ok pg_hs pg_cl pg_mt "TicketTagLaw" "TicketTag" method_8_code 4 7 153 z.1 z.2) = true := by decide +kernel
theorem pg_o142 : ∀ pc q, ev_lu pg_c142 pc = some q → ev_ok pg_hs pg_cl pg_mt "TicketTagLaw" "TicketTag" method_8_code 4 7 153 pc q = true := fun pc q h => List.all_eq_true.mp pg_k142 (pc, q) (ev_lu_mem h)
theorem pg_k143 : pg_c143.all (fun z => ev_ok pg_hs pg_cl pg_mt "TicketTagLaw" "TicketTag" method_7_code 6 7 228 z.1 z.2) = true := by decide +kernel
theorem pg_o143 : ∀ pc q, ev_lu pg_c143 pc = some q → ev_ok pg_hs pg_cl pg_mt "TicketTagLaw" "TicketTag" method_7_code 6 7 228 pc q = true := fun pc q h => List.all_eq_true.mp pg_k143 (pc, q) (ev_lu_mem h)
theorem pg_k144 : pg_c144.all (fun z => ev_ok pg_hs pg_cl pg_mt "TicketTagLaw" "TicketTag" method_11_code 5 7 112 z.1 z.2) = true := by decide +kernel
theorem pg_o144 : ∀ pc q, ev_lu pg_c144 pc = some q → ev_ok pg_hs pg_cl pg_mt "TicketTagLaw" "TicketTag" method_11_code 5 7 112 pc q = true := fun pc q h => List.all_eq_true.mp pg_k144 (pc, q) (ev_lu_mem h)
