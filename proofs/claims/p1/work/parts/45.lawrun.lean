/-! THE LAW ON A SCRIPT OF ONE CALL AT MOST (laid by wip/gen/law.py) -/
theorem lw_cmp {a b : Int64} (h : a = b) : lg_cmp a b = 0 := by
  subst h
  simp [lg_cmp]
theorem md_fresh_T {σ σ' : ev_W} (h : md_fresh σ) (k : ∀ c, 6 ≤ c → σ'.1 c = σ.1 c) : md_fresh σ' := by
  unfold md_fresh at h ⊢
  rw [k 6 (by decide), k 7 (by decide)]
  exact h
theorem lw_run0 (xs : Nat → Int32) (σ : ev_W) (hf : sp_inv σ ∧ sp_fresh σ) (hm : md_fresh σ) (hb : 0 < σ.2.2) : ev_wp pg_F pg_lay (some (0, xs)) [] pg_dL (fun _ => false) (fun pc _ st _ => pc = 902 ∧ st = [.int 1]) 2000 20 [some (.ref 999), some (.ref 0), some (.ref 6), some (.ref 12), none, none, none] [] σ := by
  change ev_wp pg_F pg_lay (some (0, xs)) [] pg_dL (fun _ => false) _ 2000 20 [some (.ref 999), some (.ref 0), some (.ref 6), some (.ref 12), none, none, none] [] σ
  refine ⟨fun _ => ?_, fun h => absurd (by decide) h⟩
  change ev_wp pg_F pg_lay (some (0, xs)) [] pg_dL (fun _ => false) _ 1992 901 [some (.ref 999), some (.ref 0), some (.ref 6), some (.ref 12), some (.int 0), none, none] [] σ
  exact ⟨rfl, rfl⟩
theorem lw_R0 (xs : Nat → Int32) (σ : ev_W) (hf : sp_inv σ ∧ sp_fresh σ) (hm : md_fresh σ) (hb : 0 < σ.2.2) : ev_Run pg_TB pg_cl pg_lay (some (0, xs)) pg_F pg_mt [] "TicketTagLaw" code 7 10 394 (fun pc _ st _ => pc = 902 ∧ st = [.int 1]) 20 [some (.ref 999), some (.ref 0), some (.ref 6), some (.ref 12), none, none, none] [] σ := ev_go (host := "TicketTag") pg_hhs pg_cd pg_oL (fun _ => false) 2000 (lw_run0 xs σ hf hm hb) (fun _ _ _ _ h => ev_fin h)
theorem lw_run1 (xs : Nat → Int32) (σ : ev_W) (hf : sp_inv σ ∧ sp_fresh σ) (hm : md_fresh σ) (hb : 0 < σ.2.2) : ev_wp pg_F pg_lay (some (1, xs)) [] pg_dL (fun _ => false) (fun pc _ st _ => pc = 902 ∧ st = [.int 1]) 2000 20 [some (.ref 999), some (.ref 0), some (.ref 6), some (.ref 12), none, none, none] [] σ := by
  change ev_wp pg_F pg_lay (some (1, xs)) [] pg_dL (fun _ => false) _ 2000 20 [some (.ref 999), some (.ref 0), some (.ref 6), some (.ref 12), none, none, none] [] σ
  refine ⟨fun _ => ?_, fun h => absurd (by decide) h⟩
  change ev_wp pg_F pg_lay (some (1, xs)) [] pg_dL (fun _ => false) _ 1992 901 [some (.ref 999), some (.ref 0), some (.ref 6), some (.ref 12), some (.int 0), none, none] [] σ
  exact ⟨rfl, rfl⟩
theorem lw_R1 (xs : Nat → Int32) (σ : ev_W) (hf : sp_inv σ ∧ sp_fresh σ) (hm : md_fresh σ) (hb : 0 < σ.2.2) : ev_Run pg_TB pg_cl pg_lay (some (1, xs)) pg_F pg_mt [] "TicketTagLaw" code 7 10 394 (fun pc _ st _ => pc = 902 ∧ st = [.int 1]) 20 [some (.ref 999), some (.ref 0), some (.ref 6), some (.ref 12), none, none, none] [] σ := ev_go (host := "TicketTag") pg_hhs pg_cd pg_oL (fun _ => false) 2000 (lw_run1 xs σ hf hm hb) (fun _ _ _ _ h => ev_fin h)
theorem lw_run2 (xs : Nat → Int32) (σ : ev_W) (hf : sp_inv σ ∧ sp_fresh σ) (hm : md_fresh σ) (hb : 0 < σ.2.2) : ev_wp pg_F pg_lay (some (2, xs)) [] pg_dL (fun _ => false) (fun pc _ st _ => pc = 902 ∧ st = [.int 1]) 2000 20 [some (.ref 999), some (.ref 0), some (.ref 6), some (.ref 12), none, none, none] [] σ := by
  change ev_wp pg_F pg_lay (some (2, xs)) [] pg_dL (fun _ => false) _ 2000 20 [some (.ref 999), some (.ref 0), some (.ref 6), some (.ref 12), none, none, none] [] σ
  refine ⟨fun _ => ?_, fun h => absurd (by decide) h⟩
  change ev_wp pg_F pg_lay (some (2, xs)) [] pg_dL (fun _ => false) _ 1992 901 [some (.ref 999), some (.ref 0), some (.ref 6), some (.ref 12), some (.int 0), none, none] [] σ
  exact ⟨rfl, rfl⟩
theorem lw_R2 (xs : Nat → Int32) (σ : ev_W) (hf : sp_inv σ ∧ sp_fresh σ) (hm : md_fresh σ) (hb : 0 < σ.2.2) : ev_Run pg_TB pg_cl pg_lay (some (2, xs)) pg_F pg_mt [] "TicketTagLaw" code 7 10 394 (fun pc _ st _ => pc = 902 ∧ st = [.int 1]) 20 [some (.ref 999), some (.ref 0), some (.ref 6), some (.ref 12), none, none, none] [] σ := ev_go (host := "TicketTag") pg_hhs pg_cd pg_oL (fun _ => false) 2000 (lw_run2 xs σ hf hm hb) (fun _ _ _ _ h => ev_fin h)
theorem lw_run3 (xs : Nat → Int32) (σ : ev_W) (hf : sp_inv σ ∧ sp_fresh σ) (hm : md_fresh σ) (hb : 0 < σ.2.2) : ev_wp pg_F pg_lay (some (3, xs)) [] pg_dL (fun _ => false) (fun pc _ st _ => pc = 902 ∧ st = [.int 1]) 2000 20 [some (.ref 999), some (.ref 0), some (.ref 6), some (.ref 12), none, none, none] [] σ := by
  change ev_wp pg_F pg_lay (some (3, xs)) [] pg_dL (fun _ => false) _ 2000 20 [some (.ref 999), some (.ref 0), some (.ref 6), some (.ref 12), none, none, none] [] σ
  refine ⟨fun _ => ?_, fun h => absurd (by decide) h⟩
  change ev_wp pg_F pg_lay (some (3, xs)) [] pg_dL (fun _ => false) _ 1992 901 [some (.ref 999), some (.ref 0), some (.ref 6), some (.ref 12), some (.int 0), none, none] [] σ
  exact ⟨rfl, rfl⟩
theorem lw_R3 (xs : Nat → Int32) (σ : ev_W) (hf : sp_inv σ ∧ sp_fresh σ) (hm : md_fresh σ) (hb : 0 < σ.2.2) : ev_Run pg_TB pg_cl pg_lay (some (3, xs)) pg_F pg_mt [] "TicketTagLaw" code 7 10 394 (fun pc _ st _ => pc = 902 ∧ st = [.int 1]) 20 [some (.ref 999), some (.ref 0), some (.ref 6), some (.ref 12), none, none, none] [] σ := ev_go (host := "TicketTag") pg_hhs pg_cd pg_oL (fun _ => false) 2000 (lw_run3 xs σ hf hm hb) (fun _ _ _ _ h => ev_fin h)
theorem lw_run4 (xs : Nat → Int32) (σ : ev_W) (hf : sp_inv σ ∧ sp_fresh σ) (hm : md_fresh σ) (hb : 0 < σ.2.2) : ev_wp pg_F pg_lay (some (4, xs)) [] pg_dL (fun _ => false) (fun pc _ st _ => pc = 902 ∧ st = [.int 1]) 2000 20 [some (.ref 999), some (.ref 0), some (.ref 6), some (.ref 12), none, none, none] [] σ := by
  change ev_wp pg_F pg_lay (some (4, xs)) [] pg_dL (fun _ => false) _ 2000 20 [some (.ref 999), some (.ref 0), some (.ref 6), some (.ref 12), none, none, none] [] σ
  refine ⟨fun _ => ?_, fun h => absurd (by decide) h⟩
  change ev_wp pg_F pg_lay (some (4, xs)) [] pg_dL (fun _ => false) _ 1992 901 [some (.ref 999), some (.ref 0), some (.ref 6), some (.ref 12), some (.int 0), none, none] [] σ
  exact ⟨rfl, rfl⟩
theorem lw_R4 (xs : Nat → Int32) (σ : ev_W) (hf : sp_inv σ ∧ sp_fresh σ) (hm : md_fresh σ) (hb : 0 < σ.2.2) : ev_Run pg_TB pg_cl pg_lay (some (4, xs)) pg_F pg_mt [] "TicketTagLaw" code 7 10 394 (fun pc _ st _ => pc = 902 ∧ st = [.int 1]) 20 [some (.ref 999), some (.ref 0), some (.ref 6), some (.ref 12), none, none, none] [] σ := ev_go (host := "TicketTag") pg_hhs pg_cd pg_oL (fun _ => false) 2000 (lw_run4 xs σ hf hm hb) (fun _ _ _ _ h => ev_fin h)
theorem lw_case120 (xs : Nat → Int32) (σ : ev_W) (hf : sp_inv σ ∧ sp_fresh σ) (hm : md_fresh σ) (hb : 0 < σ.2.2) : ev_wp pg_F pg_lay (some (5, xs)) [] pg_dL (fun _ => false) (fun pc _ st _ => pc = 902 ∧ st = [.int 1]) 2000 120 [some (.ref 999), some (.ref 0), some (.ref 6), some (.ref 12), some (.int 0), none, none] [] σ := by
  change ev_wp pg_F pg_lay (some (5, xs)) [] pg_dL (fun _ => false) _ 2000 120 [some (.ref 999), some (.ref 0), some (.ref 6), some (.ref 12), some (.int 0), none, none] [] σ
  refine ⟨sp_in rfl rfl, ?_⟩
  change ev_wp pg_F pg_lay (some (5, xs)) [] pg_dL (fun _ => false) _ 1994 127 [some (.ref 999), some (.ref 0), some (.ref 6), some (.ref 12), some (.int 0), none, none] [.int (xs (Int32.toNatClampNeg 1)), .ref 0] σ
  refine ⟨sp_in rfl rfl, ?_⟩
  change ev_wp pg_F pg_lay (some (5, xs)) [] pg_dL (fun _ => false) _ 1989 133 [some (.ref 999), some (.ref 0), some (.ref 6), some (.ref 12), some (.int 0), none, none] [.int (xs (Int32.toNatClampNeg 2)), .int (xs (Int32.toNatClampNeg 1)), .ref 0] σ
  refine ⟨sp_in rfl rfl, ?_⟩
  change ev_wp pg_F pg_lay (some (5, xs)) [] pg_dL (fun _ => false) _ 1984 139 [some (.ref 999), some (.ref 0), some (.ref 6), some (.ref 12), some (.int 0), none, none] [.int (xs (Int32.toNatClampNeg 3)), .int (xs (Int32.toNatClampNeg 2)), .int (xs (Int32.toNatClampNeg 1)), .ref 0] σ
  refine ⟨sp_in rfl rfl, ?_⟩
  change ev_wp pg_F pg_lay (some (5, xs)) [] pg_dL (fun _ => false) _ 1979 145 [some (.ref 999), some (.ref 0), some (.ref 6), some (.ref 12), some (.int 0), none, none] [.int (xs (Int32.toNatClampNeg 4)), .int (xs (Int32.toNatClampNeg 3)), .int (xs (Int32.toNatClampNeg 2)), .int (xs (Int32.toNatClampNeg 1)), .ref 0] σ
  refine ⟨⟨hf.1, hb⟩, ?_⟩
  rintro _ s3 ⟨v1, k2, rfl⟩
  change ev_wp pg_F pg_lay (some (5, xs)) [] pg_dL (fun _ => false) _ 1977 149 [some (.ref 999), some (.ref 0), some (.ref 6), some (.ref 12), some (.int 0), none, none] [.int v1] s3
  refine ⟨sp_in rfl rfl, ?_⟩
  change ev_wp pg_F pg_lay (some (5, xs)) [] pg_dL (fun _ => false) _ 1970 158 [some (.ref 999), some (.ref 0), some (.ref 6), some (.ref 12), some (.int 0), some (.int v1), none] [.int (xs (Int32.toNatClampNeg 1)), .ref 6] s3
  refine ⟨sp_in rfl rfl, ?_⟩
  change ev_wp pg_F pg_lay (some (5, xs)) [] pg_dL (fun _ => false) _ 1965 164 [some (.ref 999), some (.ref 0), some (.ref 6), some (.ref 12), some (.int 0), some (.int v1), none] [.int (xs (Int32.toNatClampNeg 2)), .int (xs (Int32.toNatClampNeg 1)), .ref 6] s3
  refine ⟨sp_in rfl rfl, ?_⟩
  change ev_wp pg_F pg_lay (some (5, xs)) [] pg_dL (fun _ => false) _ 1960 170 [some (.ref 999), some (.ref 0), some (.ref 6), some (.ref 12), some (.int 0), some (.int v1), none] [.int (xs (Int32.toNatClampNeg 3)), .int (xs (Int32.toNatClampNeg 2)), .int (xs (Int32.toNatClampNeg 1)), .ref 6] s3
  refine ⟨sp_in rfl rfl, ?_⟩
  change ev_wp pg_F pg_lay (some (5, xs)) [] pg_dL (fun _ => false) _ 1955 176 [some (.ref 999), some (.ref 0), some (.ref 6), some (.ref 12), some (.int 0), some (.int v1), none] [.int (xs (Int32.toNatClampNeg 4)), .int (xs (Int32.toNatClampNeg 3)), .int (xs (Int32.toNatClampNeg 2)), .int (xs (Int32.toNatClampNeg 1)), .ref 6] s3
  refine ⟨(md_fresh_T hm k2.1.1), ?_⟩
  rintro _ s6 ⟨v4, k5, rfl⟩
  have ok5 : s6.2.1 12 0 = s3.2.1 12 0 := congrFun (congrFun (congrArg Prod.fst k5.1) 12) 0
  change ev_wp pg_F pg_lay (some (5, xs)) [] pg_dL (fun _ => false) _ 1954 179 [some (.ref 999), some (.ref 0), some (.ref 6), some (.ref 12), some (.int 0), some (.int v1), none] [.int v4] s6
  refine ⟨trivial, ?_⟩
  rintro _ _ ⟨rfl, rfl⟩
  change ev_wp pg_F pg_lay (some (5, xs)) [] pg_dL (fun _ => false) _ 1951 185 [some (.ref 999), some (.ref 0), some (.ref 6), some (.ref 12), some (.int 0), some (.int v1), some (.int v4)] [.int (s6.1 6 0)] s6
  refine ⟨fun (h7 : (s6.1 6 0) = v1) => ?_, fun (h7 : ¬ (s6.1 6 0) = v1) => ?_⟩
  · skip
    change ev_wp pg_F pg_lay (some (5, xs)) [] pg_dL (fun _ => false) _ 1949 192 [some (.ref 999), some (.ref 0), some (.ref 6), some (.ref 12), some (.int 0), some (.int v1), some (.int v4)] [] s6
    refine ⟨fun (h8 : v1 = 0) => ?_, fun (h8 : ¬ v1 = 0) => ?_⟩
    · skip
      change ev_wp pg_F pg_lay (some (5, xs)) [] pg_dL (fun _ => false) _ 1947 197 [some (.ref 999), some (.ref 0), some (.ref 6), some (.ref 12), some (.int 0), some (.int v1), some (.int v4)] [] s6
      refine ⟨sp_in rfl rfl, ?_⟩
      change ev_wp pg_F pg_lay (some (5, xs)) [] pg_dL (fun _ => false) _ 1944 200 [some (.ref 999), some (.ref 0), some (.ref 6), some (.ref 12), some (.int 0), some (.int v1), some (.int v4)] [.long (s6.2.1 12 (Int32.toNatClampNeg 0))] s6
      refine ⟨fun (h9 : v4 = 0) => ?_, fun (h9 : ¬ v4 = 0) => ?_⟩
      · exact ((show False from by rcases k2.2 with z | z | z <;> rcases k5.2 with y | y <;> first | exact absurd (z.1.symm.trans h8) (by decide) | exact absurd y.1 z.2.1 | exact absurd (y.2.2.symm.trans h9) (by decide))).elim
      · skip
        change ev_wp pg_F pg_lay (some (5, xs)) [] pg_dL (fun _ => false) _ 1942 205 [some (.ref 999), some (.ref 0), some (.ref 6), some (.ref 12), some (.int 0), some (.int v1), some (.int v4)] [.long (s6.2.1 12 (Int32.toNatClampNeg 0))] s6
        refine ⟨fun (h10 : (lg_cmp (s6.2.1 12 (Int32.toNatClampNeg 0)) (Int64.ofNat 1)) = 0) => ?_, fun (h10 : ¬ (lg_cmp (s6.2.1 12 (Int32.toNatClampNeg 0)) (Int64.ofNat 1)) = 0) => ?_⟩
        · skip
          change ev_wp pg_F pg_lay (some (5, xs)) [] pg_dL (fun _ => false) _ 1938 216 [some (.ref 999), some (.ref 0), some (.ref 6), some (.ref 12), some (.int 0), some (.int v1), some (.int v4)] [] s6
          refine ⟨fun _ => ?_, fun h => absurd (by decide) h⟩
          change ev_wp pg_F pg_lay (some (5, xs)) [] pg_dL (fun _ => false) _ 1929 901 [some (.ref 999), some (.ref 0), some (.ref 6), some (.ref 12), some (.int 5), some (.int v1), some (.int v4)] [] s6
          exact ⟨rfl, rfl⟩
        · exact ((show False from by rcases k2.2 with z | z | z <;> rcases k5.2 with y | y <;> first | exact absurd (z.1.symm.trans h8) (by decide) | exact absurd y.1 z.2.1 | exact h10 (lw_cmp (ok5.trans (z.2.2.2 (sp_at_zero hf.2.1 _ _)))))).elim
    · skip
      change ev_wp pg_F pg_lay (some (5, xs)) [] pg_dL (fun _ => false) _ 1947 216 [some (.ref 999), some (.ref 0), some (.ref 6), some (.ref 12), some (.int 0), some (.int v1), some (.int v4)] [] s6
      refine ⟨fun _ => ?_, fun h => absurd (by decide) h⟩
      change ev_wp pg_F pg_lay (some (5, xs)) [] pg_dL (fun _ => false) _ 1938 901 [some (.ref 999), some (.ref 0), some (.ref 6), some (.ref 12), some (.int 5), some (.int v1), some (.int v4)] [] s6
      exact ⟨rfl, rfl⟩
  · exact ((show False from by rcases k2.2 with z | z | z <;> rcases k5.2 with y | y <;> first | exact absurd z.2 y.1 | exact absurd y.1 z.2 | exact absurd y.1 z.2.1 | exact h7 (y.2.trans z.1.symm) | exact h7 (y.2.1.trans z.1.symm) | exact absurd hf.2.2.2.2.1 z.2.2 | exact absurd hf.2.2.2.2.1 z.2.2.1 | exact z.2.2 hf.2.2.2.2.1)).elim
theorem lw_case219 (xs : Nat → Int32) (σ : ev_W) (hf : sp_inv σ ∧ sp_fresh σ) (hm : md_fresh σ) (hb : 0 < σ.2.2) : ev_wp pg_F pg_lay (some (5, xs)) [] pg_dL (fun _ => false) (fun pc _ st _ => pc = 902 ∧ st = [.int 1]) 2000 219 [some (.ref 999), some (.ref 0), some (.ref 6), some (.ref 12), some (.int 0), none, none] [] σ := by
  change ev_wp pg_F pg_lay (some (5, xs)) [] pg_dL (fun _ => false) _ 2000 219 [some (.ref 999), some (.ref 0), some (.ref 6), some (.ref 12), some (.int 0), none, none] [] σ
  refine ⟨sp_in rfl rfl, ?_⟩
  change ev_wp pg_F pg_lay (some (5, xs)) [] pg_dL (fun _ => false) _ 1994 226 [some (.ref 999), some (.ref 0), some (.ref 6), some (.ref 12), some (.int 0), none, none] [.int (xs (Int32.toNatClampNeg 1)), .ref 0] σ
  refine ⟨sp_in rfl rfl, ?_⟩
  change ev_wp pg_F pg_lay (some (5, xs)) [] pg_dL (fun _ => false) _ 1989 232 [some (.ref 999), some (.ref 0), some (.ref 6), some (.ref 12), some (.int 0), none, none] [.int (xs (Int32.toNatClampNeg 2)), .int (xs (Int32.toNatClampNeg 1)), .ref 0] σ
  refine ⟨sp_in rfl rfl, ?_⟩
  change ev_wp pg_F pg_lay (some (5, xs)) [] pg_dL (fun _ => false) _ 1984 238 [some (.ref 999), some (.ref 0), some (.ref 6), some (.ref 12), some (.int 0), none, none] [.int (xs (Int32.toNatClampNeg 3)), .int (xs (Int32.toNatClampNeg 2)), .int (xs (Int32.toNatClampNeg 1)), .ref 0] σ
  refine ⟨⟨hf.1, hb⟩, ?_⟩
  rintro _ s3 ⟨v1, k2, rfl⟩
  change ev_wp pg_F pg_lay (some (5, xs)) [] pg_dL (fun _ => false) _ 1983 241 [some (.ref 999), some (.ref 0), some (.ref 6), some (.ref 12), some (.int 0), none, none] [.int v1] s3
  refine ⟨sp_in rfl rfl, ?_⟩
  change ev_wp pg_F pg_lay (some (5, xs)) [] pg_dL (fun _ => false) _ 1976 250 [some (.ref 999), some (.ref 0), some (.ref 6), some (.ref 12), some (.int 0), some (.int v1), none] [.int (xs (Int32.toNatClampNeg 1)), .ref 6] s3
  refine ⟨sp_in rfl rfl, ?_⟩
  change ev_wp pg_F pg_lay (some (5, xs)) [] pg_dL (fun _ => false) _ 1971 256 [some (.ref 999), some (.ref 0), some (.ref 6), some (.ref 12), some (.int 0), some (.int v1), none] [.int (xs (Int32.toNatClampNeg 2)), .int (xs (Int32.toNatClampNeg 1)), .ref 6] s3
  refine ⟨sp_in rfl rfl, ?_⟩
  change ev_wp pg_F pg_lay (some (5, xs)) [] pg_dL (fun _ => false) _ 1966 262 [some (.ref 999), some (.ref 0), some (.ref 6), some (.ref 12), some (.int 0), some (.int v1), none] [.int (xs (Int32.toNatClampNeg 3)), .int (xs (Int32.toNatClampNeg 2)), .int (xs (Int32.toNatClampNeg 1)), .ref 6] s3
  refine ⟨(md_fresh_T hm k2.1.1), ?_⟩
  rintro _ s6 ⟨k5, rfl⟩
  have ok5 : s6.2.1 12 0 = s3.2.1 12 0 := congrFun (congrFun (congrArg Prod.fst k5.1) 12) 0
  change ev_wp pg_F pg_lay (some (5, xs)) [] pg_dL (fun _ => false) _ 1965 265 [some (.ref 999), some (.ref 0), some (.ref 6), some (.ref 12), some (.int 0), some (.int v1), none] [] s6
  refine ⟨trivial, ?_⟩
  rintro _ _ ⟨rfl, rfl⟩
  change ev_wp pg_F pg_lay (some (5, xs)) [] pg_dL (fun _ => false) _ 1963 269 [some (.ref 999), some (.ref 0), some (.ref 6), some (.ref 12), some (.int 0), some (.int v1), none] [.int (s6.1 6 0)] s6
  refine ⟨fun (h7 : (s6.1 6 0) = v1) => ?_, fun (h7 : ¬ (s6.1 6 0) = v1) => ?_⟩
  · skip
    change ev_wp pg_F pg_lay (some (5, xs)) [] pg_dL (fun _ => false) _ 1961 276 [some (.ref 999), some (.ref 0), some (.ref 6), some (.ref 12), some (.int 0), some (.int v1), none] [] s6
    refine ⟨fun _ => ?_, fun h => absurd (by decide) h⟩
    change ev_wp pg_F pg_lay (some (5, xs)) [] pg_dL (fun _ => false) _ 1952 901 [some (.ref 999), some (.ref 0), some (.ref 6), some (.ref 12), some (.int 5), some (.int v1), none] [] s6
    exact ⟨rfl, rfl⟩
  · exact ((show False from by rcases k2.2 with z | z <;> rcases k5.2 with y | y <;> first | exact absurd z.2 y.1 | exact absurd y.1 z.2 | exact absurd y.1 z.2.1 | exact h7 (y.2.trans z.1.symm) | exact h7 (y.2.1.trans z.1.symm) | exact absurd hf.2.2.2.2.1 z.2.2 | exact absurd hf.2.2.2.2.1 z.2.2.1 | exact z.2.2 hf.2.2.2.2.1)).elim
theorem lw_case279 (xs : Nat → Int32) (σ : ev_W) (hf : sp_inv σ ∧ sp_fresh σ) (hm : md_fresh σ) (hb : 0 < σ.2.2) : ev_wp pg_F pg_lay (some (5, xs)) [] pg_dL (fun _ => false) (fun pc _ st _ => pc = 902 ∧ st = [.int 1]) 2000 279 [some (.ref 999), some (.ref 0), some (.ref 6), some (.ref 12), some (.int 0), none, none] [] σ := by
  change ev_wp pg_F pg_lay (some (5, xs)) [] pg_dL (fun _ => false) _ 2000 279 [some (.ref 999), some (.ref 0), some (.ref 6), some (.ref 12), some (.int 0), none, none] [] σ
  refine ⟨sp_in rfl rfl, ?_⟩
  change ev_wp pg_F pg_lay (some (5, xs)) [] pg_dL (fun _ => false) _ 1994 286 [some (.ref 999), some (.ref 0), some (.ref 6), some (.ref 12), some (.int 0), none, none] [.int (xs (Int32.toNatClampNeg 1)), .ref 0] σ
  refine ⟨sp_in rfl rfl, ?_⟩
  change ev_wp pg_F pg_lay (some (5, xs)) [] pg_dL (fun _ => false) _ 1989 292 [some (.ref 999), some (.ref 0), some (.ref 6), some (.ref 12), some (.int 0), none, none] [.int (xs (Int32.toNatClampNeg 2)), .int (xs (Int32.toNatClampNeg 1)), .ref 0] σ
  refine ⟨fun (h1 : (xs (Int32.toNatClampNeg 2)) = 0) => ?_, fun (h1 : ¬ (xs (Int32.toNatClampNeg 2)) = 0) => ?_⟩
  · skip
    change ev_wp pg_F pg_lay (some (5, xs)) [] pg_dL (fun _ => false) _ 1988 299 [some (.ref 999), some (.ref 0), some (.ref 6), some (.ref 12), some (.int 0), none, none] [.int (xs (Int32.toNatClampNeg 1)), .ref 0] σ
    refine ⟨⟨hf.1, hb⟩, ?_⟩
    rintro _ s4 ⟨v2, k3, rfl⟩
    change ev_wp pg_F pg_lay (some (5, xs)) [] pg_dL (fun _ => false) _ 1986 303 [some (.ref 999), some (.ref 0), some (.ref 6), some (.ref 12), some (.int 0), none, none] [.int v2] s4
    refine ⟨sp_in rfl rfl, ?_⟩
    change ev_wp pg_F pg_lay (some (5, xs)) [] pg_dL (fun _ => false) _ 1979 312 [some (.ref 999), some (.ref 0), some (.ref 6), some (.ref 12), some (.int 0), some (.int v2), none] [.int (xs (Int32.toNatClampNeg 1)), .ref 6] s4
    refine ⟨sp_in rfl rfl, ?_⟩
    change ev_wp pg_F pg_lay (some (5, xs)) [] pg_dL (fun _ => false) _ 1974 318 [some (.ref 999), some (.ref 0), some (.ref 6), some (.ref 12), some (.int 0), some (.int v2), none] [.int (xs (Int32.toNatClampNeg 2)), .int (xs (Int32.toNatClampNeg 1)), .ref 6] s4
    refine ⟨fun (h5 : (xs (Int32.toNatClampNeg 2)) = 0) => ?_, fun (h5 : ¬ (xs (Int32.toNatClampNeg 2)) = 0) => ?_⟩
    · skip
      change ev_wp pg_F pg_lay (some (5, xs)) [] pg_dL (fun _ => false) _ 1973 325 [some (.ref 999), some (.ref 0), some (.ref 6), some (.ref 12), some (.int 0), some (.int v2), none] [.int (xs (Int32.toNatClampNeg 1)), .ref 6] s4
      refine ⟨(md_fresh_T hm k3.1.1), ?_⟩
      rintro _ s8 ⟨k7, rfl⟩
      have ok7 : s8.2.1 12 0 = s4.2.1 12 0 := congrFun (congrFun (congrArg Prod.fst k7.1) 12) 0
      change ev_wp pg_F pg_lay (some (5, xs)) [] pg_dL (fun _ => false) _ 1971 329 [some (.ref 999), some (.ref 0), some (.ref 6), some (.ref 12), some (.int 0), some (.int v2), none] [] s8
      refine ⟨trivial, ?_⟩
      rintro _ _ ⟨rfl, rfl⟩
      change ev_wp pg_F pg_lay (some (5, xs)) [] pg_dL (fun _ => false) _ 1969 333 [some (.ref 999), some (.ref 0), some (.ref 6), some (.ref 12), some (.int 0), some (.int v2), none] [.int (s8.1 6 0)] s8
      refine ⟨fun (h9 : (s8.1 6 0) = v2) => ?_, fun (h9 : ¬ (s8.1 6 0) = v2) => ?_⟩
      · skip
        change ev_wp pg_F pg_lay (some (5, xs)) [] pg_dL (fun _ => false) _ 1967 340 [some (.ref 999), some (.ref 0), some (.ref 6), some (.ref 12), some (.int 0), some (.int v2), none] [] s8
        refine ⟨fun _ => ?_, fun h => absurd (by decide) h⟩
        change ev_wp pg_F pg_lay (some (5, xs)) [] pg_dL (fun _ => false) _ 1958 901 [some (.ref 999), some (.ref 0), some (.ref 6), some (.ref 12), some (.int 5), some (.int v2), none] [] s8
        exact ⟨rfl, rfl⟩
      · exact ((show False from by rcases k3.2 with z | z <;> rcases k7.2 with y | y <;> first | exact absurd z.2 y.1 | exact absurd y.1 z.2 | exact absurd y.1 z.2.1 | exact h9 (y.2.trans z.1.symm) | exact h9 (y.2.1.trans z.1.symm) | exact absurd hf.2.2.2.2.1 z.2.2 | exact absurd hf.2.2.2.2.1 z.2.2.1 | exact z.2.2 hf.2.2.2.2.1)).elim
    · skip
      change ev_wp pg_F pg_lay (some (5, xs)) [] pg_dL (fun _ => false) _ 1973 321 [some (.ref 999), some (.ref 0), some (.ref 6), some (.ref 12), some (.int 0), some (.int v2), none] [.int (xs (Int32.toNatClampNeg 1)), .ref 6] s4
      refine ⟨(md_fresh_T hm k3.1.1), ?_⟩
      rintro _ s12 ⟨k11, rfl⟩
      have ok11 : s12.2.1 12 0 = s4.2.1 12 0 := congrFun (congrFun (congrArg Prod.fst k11.1) 12) 0
      change ev_wp pg_F pg_lay (some (5, xs)) [] pg_dL (fun _ => false) _ 1970 329 [some (.ref 999), some (.ref 0), some (.ref 6), some (.ref 12), some (.int 0), some (.int v2), none] [] s12
      refine ⟨trivial, ?_⟩
      rintro _ _ ⟨rfl, rfl⟩
      change ev_wp pg_F pg_lay (some (5, xs)) [] pg_dL (fun _ => false) _ 1968 333 [some (.ref 999), some (.ref 0), some (.ref 6), some (.ref 12), some (.int 0), some (.int v2), none] [.int (s12.1 6 0)] s12
      refine ⟨fun (h13 : (s12.1 6 0) = v2) => ?_, fun (h13 : ¬ (s12.1 6 0) = v2) => ?_⟩
      · skip
        change ev_wp pg_F pg_lay (some (5, xs)) [] pg_dL (fun _ => false) _ 1966 340 [some (.ref 999), some (.ref 0), some (.ref 6), some (.ref 12), some (.int 0), some (.int v2), none] [] s12
        refine ⟨fun _ => ?_, fun h => absurd (by decide) h⟩
        change ev_wp pg_F pg_lay (some (5, xs)) [] pg_dL (fun _ => false) _ 1957 901 [some (.ref 999), some (.ref 0), some (.ref 6), some (.ref 12), some (.int 5), some (.int v2), none] [] s12
        exact ⟨rfl, rfl⟩
      · exact ((show False from by rcases k3.2 with z | z <;> rcases k11.2 with y | y <;> first | exact absurd z.2 y.1 | exact absurd y.1 z.2 | exact absurd y.1 z.2.1 | exact h13 (y.2.trans z.1.symm) | exact h13 (y.2.1.trans z.1.symm) | exact absurd hf.2.2.2.2.1 z.2.2 | exact absurd hf.2.2.2.2.1 z.2.2.1 | exact z.2.2 hf.2.2.2.2.1)).elim
  · skip
    change ev_wp pg_F pg_lay (some (5, xs)) [] pg_dL (fun _ => false) _ 1988 295 [some (.ref 999), some (.ref 0), some (.ref 6), some (.ref 12), some (.int 0), none, none] [.int (xs (Int32.toNatClampNeg 1)), .ref 0] σ
    refine ⟨⟨hf.1, hb⟩, ?_⟩
    rintro _ s16 ⟨v14, k15, rfl⟩
    change ev_wp pg_F pg_lay (some (5, xs)) [] pg_dL (fun _ => false) _ 1985 303 [some (.ref 999), some (.ref 0), some (.ref 6), some (.ref 12), some (.int 0), none, none] [.int v14] s16
    refine ⟨sp_in rfl rfl, ?_⟩
    change ev_wp pg_F pg_lay (some (5, xs)) [] pg_dL (fun _ => false) _ 1978 312 [some (.ref 999), some (.ref 0), some (.ref 6), some (.ref 12), some (.int 0), some (.int v14), none] [.int (xs (Int32.toNatClampNeg 1)), .ref 6] s16
    refine ⟨sp_in rfl rfl, ?_⟩
    change ev_wp pg_F pg_lay (some (5, xs)) [] pg_dL (fun _ => false) _ 1973 318 [some (.ref 999), some (.ref 0), some (.ref 6), some (.ref 12), some (.int 0), some (.int v14), none] [.int (xs (Int32.toNatClampNeg 2)), .int (xs (Int32.toNatClampNeg 1)), .ref 6] s16
    refine ⟨fun (h17 : (xs (Int32.toNatClampNeg 2)) = 0) => ?_, fun (h17 : ¬ (xs (Int32.toNatClampNeg 2)) = 0) => ?_⟩
    · skip
      change ev_wp pg_F pg_lay (some (5, xs)) [] pg_dL (fun _ => false) _ 1972 325 [some (.ref 999), some (.ref 0), some (.ref 6), some (.ref 12), some (.int 0), some (.int v14), none] [.int (xs (Int32.toNatClampNeg 1)), .ref 6] s16
      refine ⟨(md_fresh_T hm k15.1.1), ?_⟩
      rintro _ s20 ⟨k19, rfl⟩
      have ok19 : s20.2.1 12 0 = s16.2.1 12 0 := congrFun (congrFun (congrArg Prod.fst k19.1) 12) 0
      change ev_wp pg_F pg_lay (some (5, xs)) [] pg_dL (fun _ => false) _ 1970 329 [some (.ref 999), some (.ref 0), some (.ref 6), some (.ref 12), some (.int 0), some (.int v14), none] [] s20
      refine ⟨trivial, ?_⟩
      rintro _ _ ⟨rfl, rfl⟩
      change ev_wp pg_F pg_lay (some (5, xs)) [] pg_dL (fun _ => false) _ 1968 333 [some (.ref 999), some (.ref 0), some (.ref 6), some (.ref 12), some (.int 0), some (.int v14), none] [.int (s20.1 6 0)] s20
      refine ⟨fun (h21 : (s20.1 6 0) = v14) => ?_, fun (h21 : ¬ (s20.1 6 0) = v14) => ?_⟩
      · skip
        change ev_wp pg_F pg_lay (some (5, xs)) [] pg_dL (fun _ => false) _ 1966 340 [some (.ref 999), some (.ref 0), some (.ref 6), some (.ref 12), some (.int 0), some (.int v14), none] [] s20
        refine ⟨fun _ => ?_, fun h => absurd (by decide) h⟩
        change ev_wp pg_F pg_lay (some (5, xs)) [] pg_dL (fun _ => false) _ 1957 901 [some (.ref 999), some (.ref 0), some (.ref 6), some (.ref 12), some (.int 5), some (.int v14), none] [] s20
        exact ⟨rfl, rfl⟩
      · exact ((show False from by rcases k15.2 with z | z <;> rcases k19.2 with y | y <;> first | exact absurd z.2 y.1 | exact absurd y.1 z.2 | exact absurd y.1 z.2.1 | exact h21 (y.2.trans z.1.symm) | exact h21 (y.2.1.trans z.1.symm) | exact absurd hf.2.2.2.2.1 z.2.2 | exact absurd hf.2.2.2.2.1 z.2.2.1 | exact z.2.2 hf.2.2.2.2.1)).elim
    · skip
      change ev_wp pg_F pg_lay (some (5, xs)) [] pg_dL (fun _ => false) _ 1972 321 [some (.ref 999), some (.ref 0), some (.ref 6), some (.ref 12), some (.int 0), some (.int v14), none] [.int (xs (Int32.toNatClampNeg 1)), .ref 6] s16
      refine ⟨(md_fresh_T hm k15.1.1), ?_⟩
      rintro _ s24 ⟨k23, rfl⟩
      have ok23 : s24.2.1 12 0 = s16.2.1 12 0 := congrFun (congrFun (congrArg Prod.fst k23.1) 12) 0
      change ev_wp pg_F pg_lay (some (5, xs)) [] pg_dL (fun _ => false) _ 1969 329 [some (.ref 999), some (.ref 0), some (.ref 6), some (.ref 12), some (.int 0), some (.int v14), none] [] s24
      refine ⟨trivial, ?_⟩
      rintro _ _ ⟨rfl, rfl⟩
      change ev_wp pg_F pg_lay (some (5, xs)) [] pg_dL (fun _ => false) _ 1967 333 [some (.ref 999), some (.ref 0), some (.ref 6), some (.ref 12), some (.int 0), some (.int v14), none] [.int (s24.1 6 0)] s24
      refine ⟨fun (h25 : (s24.1 6 0) = v14) => ?_, fun (h25 : ¬ (s24.1 6 0) = v14) => ?_⟩
      · skip
        change ev_wp pg_F pg_lay (some (5, xs)) [] pg_dL (fun _ => false) _ 1965 340 [some (.ref 999), some (.ref 0), some (.ref 6), some (.ref 12), some (.int 0), some (.int v14), none] [] s24
        refine ⟨fun _ => ?_, fun h => absurd (by decide) h⟩
        change ev_wp pg_F pg_lay (some (5, xs)) [] pg_dL (fun _ => false) _ 1956 901 [some (.ref 999), some (.ref 0), some (.ref 6), some (.ref 12), some (.int 5), some (.int v14), none] [] s24
        exact ⟨rfl, rfl⟩
      · exact ((show False from by rcases k15.2 with z | z <;> rcases k23.2 with y | y <;> first | exact absurd z.2 y.1 | exact absurd y.1 z.2 | exact absurd y.1 z.2.1 | exact h25 (y.2.trans z.1.symm) | exact h25 (y.2.1.trans z.1.symm) | exact absurd hf.2.2.2.2.1 z.2.2 | exact absurd hf.2.2.2.2.1 z.2.2.1 | exact z.2.2 hf.2.2.2.2.1)).elim
theorem lw_case343 (xs : Nat → Int32) (σ : ev_W) (hf : sp_inv σ ∧ sp_fresh σ) (hm : md_fresh σ) (hb : 0 < σ.2.2) : ev_wp pg_F pg_lay (some (5, xs)) [] pg_dL (fun _ => false) (fun pc _ st _ => pc = 902 ∧ st = [.int 1]) 2000 343 [some (.ref 999), some (.ref 0), some (.ref 6), some (.ref 12), some (.int 0), none, none] [] σ := by
  change ev_wp pg_F pg_lay (some (5, xs)) [] pg_dL (fun _ => false) _ 2000 343 [some (.ref 999), some (.ref 0), some (.ref 6), some (.ref 12), some (.int 0), none, none] [] σ
  refine ⟨sp_in rfl rfl, ?_⟩
  change ev_wp pg_F pg_lay (some (5, xs)) [] pg_dL (fun _ => false) _ 1994 350 [some (.ref 999), some (.ref 0), some (.ref 6), some (.ref 12), some (.int 0), none, none] [.int (xs (Int32.toNatClampNeg 1)), .ref 0] σ
  refine ⟨⟨hf.1, hb⟩, ?_⟩
  rintro _ s3 ⟨v1, k2, rfl⟩
  change ev_wp pg_F pg_lay (some (5, xs)) [] pg_dL (fun _ => false) _ 1992 354 [some (.ref 999), some (.ref 0), some (.ref 6), some (.ref 12), some (.int 0), none, none] [.int v1] s3
  refine ⟨sp_in rfl rfl, ?_⟩
  change ev_wp pg_F pg_lay (some (5, xs)) [] pg_dL (fun _ => false) _ 1985 363 [some (.ref 999), some (.ref 0), some (.ref 6), some (.ref 12), some (.int 0), some (.int v1), none] [.int (xs (Int32.toNatClampNeg 1)), .ref 6] s3
  refine ⟨(md_fresh_T hm k2.1.1), ?_⟩
  rintro _ s6 ⟨v4, k5, rfl⟩
  have ok5 : s6.2.1 12 0 = s3.2.1 12 0 := congrFun (congrFun (congrArg Prod.fst k5.1) 12) 0
  change ev_wp pg_F pg_lay (some (5, xs)) [] pg_dL (fun _ => false) _ 1984 366 [some (.ref 999), some (.ref 0), some (.ref 6), some (.ref 12), some (.int 0), some (.int v1), none] [.int v4] s6
  refine ⟨trivial, ?_⟩
  rintro _ _ ⟨rfl, rfl⟩
  change ev_wp pg_F pg_lay (some (5, xs)) [] pg_dL (fun _ => false) _ 1981 372 [some (.ref 999), some (.ref 0), some (.ref 6), some (.ref 12), some (.int 0), some (.int v1), some (.int v4)] [.int (s6.1 6 0)] s6
  refine ⟨fun (h7 : (s6.1 6 0) = v1) => ?_, fun (h7 : ¬ (s6.1 6 0) = v1) => ?_⟩
  · skip
    change ev_wp pg_F pg_lay (some (5, xs)) [] pg_dL (fun _ => false) _ 1979 379 [some (.ref 999), some (.ref 0), some (.ref 6), some (.ref 12), some (.int 0), some (.int v1), some (.int v4)] [] s6
    refine ⟨fun (h8 : v1 = 0) => ?_, fun (h8 : ¬ v1 = 0) => ?_⟩
    · skip
      change ev_wp pg_F pg_lay (some (5, xs)) [] pg_dL (fun _ => false) _ 1977 384 [some (.ref 999), some (.ref 0), some (.ref 6), some (.ref 12), some (.int 0), some (.int v1), some (.int v4)] [] s6
      refine ⟨sp_in rfl rfl, ?_⟩
      change ev_wp pg_F pg_lay (some (5, xs)) [] pg_dL (fun _ => false) _ 1974 387 [some (.ref 999), some (.ref 0), some (.ref 6), some (.ref 12), some (.int 0), some (.int v1), some (.int v4)] [.long (s6.2.1 12 (Int32.toNatClampNeg 0))] s6
      refine ⟨fun (h9 : (lg_cmp (s6.2.1 12 (Int32.toNatClampNeg 0)) (Int32.toInt64 v4)) = 0) => ?_, fun (h9 : ¬ (lg_cmp (s6.2.1 12 (Int32.toNatClampNeg 0)) (Int32.toInt64 v4)) = 0) => ?_⟩
      · skip
        change ev_wp pg_F pg_lay (some (5, xs)) [] pg_dL (fun _ => false) _ 1970 396 [some (.ref 999), some (.ref 0), some (.ref 6), some (.ref 12), some (.int 0), some (.int v1), some (.int v4)] [] s6
        refine ⟨fun _ => ?_, fun h => absurd (by decide) h⟩
        change ev_wp pg_F pg_lay (some (5, xs)) [] pg_dL (fun _ => false) _ 1961 901 [some (.ref 999), some (.ref 0), some (.ref 6), some (.ref 12), some (.int 5), some (.int v1), some (.int v4)] [] s6
        exact ⟨rfl, rfl⟩
      · exact ((show False from by rcases k2.2 with z | z | z <;> rcases k5.2 with y | y <;> first | exact absurd (z.1.symm.trans h8) (by decide) | exact absurd y.1 z.2.1 | exact h9 (lw_cmp (ok5.trans ((z.2.2.2 hf.2.1).trans (congrArg Int32.toInt64 y.2.2.symm)))))).elim
    · skip
      change ev_wp pg_F pg_lay (some (5, xs)) [] pg_dL (fun _ => false) _ 1977 396 [some (.ref 999), some (.ref 0), some (.ref 6), some (.ref 12), some (.int 0), some (.int v1), some (.int v4)] [] s6
      refine ⟨fun _ => ?_, fun h => absurd (by decide) h⟩
      change ev_wp pg_F pg_lay (some (5, xs)) [] pg_dL (fun _ => false) _ 1968 901 [some (.ref 999), some (.ref 0), some (.ref 6), some (.ref 12), some (.int 5), some (.int v1), some (.int v4)] [] s6
      exact ⟨rfl, rfl⟩
  · exact ((show False from by rcases k2.2 with z | z | z <;> rcases k5.2 with y | y <;> first | exact absurd z.2 y.1 | exact absurd y.1 z.2 | exact absurd y.1 z.2.1 | exact h7 (y.2.trans z.1.symm) | exact h7 (y.2.1.trans z.1.symm) | exact absurd hf.2.2.2.2.1 z.2.2 | exact absurd hf.2.2.2.2.1 z.2.2.1 | exact z.2.2 hf.2.2.2.2.1)).elim
theorem lw_case399 (xs : Nat → Int32) (σ : ev_W) (hf : sp_inv σ ∧ sp_fresh σ) (hm : md_fresh σ) (hb : 0 < σ.2.2) : ev_wp pg_F pg_lay (some (5, xs)) [] pg_dL (fun _ => false) (fun pc _ st _ => pc = 902 ∧ st = [.int 1]) 2000 399 [some (.ref 999), some (.ref 0), some (.ref 6), some (.ref 12), some (.int 0), none, none] [] σ := by
  change ev_wp pg_F pg_lay (some (5, xs)) [] pg_dL (fun _ => false) _ 2000 399 [some (.ref 999), some (.ref 0), some (.ref 6), some (.ref 12), some (.int 0), none, none] [] σ
  refine ⟨sp_in rfl rfl, ?_⟩
  change ev_wp pg_F pg_lay (some (5, xs)) [] pg_dL (fun _ => false) _ 1994 406 [some (.ref 999), some (.ref 0), some (.ref 6), some (.ref 12), some (.int 0), none, none] [.int (xs (Int32.toNatClampNeg 1)), .ref 0] σ
  refine ⟨sp_in rfl rfl, ?_⟩
  change ev_wp pg_F pg_lay (some (5, xs)) [] pg_dL (fun _ => false) _ 1989 412 [some (.ref 999), some (.ref 0), some (.ref 6), some (.ref 12), some (.int 0), none, none] [.int (xs (Int32.toNatClampNeg 2)), .int (xs (Int32.toNatClampNeg 1)), .ref 0] σ
  refine ⟨sp_in rfl rfl, ?_⟩
  change ev_wp pg_F pg_lay (some (5, xs)) [] pg_dL (fun _ => false) _ 1984 418 [some (.ref 999), some (.ref 0), some (.ref 6), some (.ref 12), some (.int 0), none, none] [.int (xs (Int32.toNatClampNeg 3)), .int (xs (Int32.toNatClampNeg 2)), .int (xs (Int32.toNatClampNeg 1)), .ref 0] σ
  refine ⟨⟨hf.1, hb⟩, ?_⟩
  rintro _ s3 ⟨v1, k2, rfl⟩
  change ev_wp pg_F pg_lay (some (5, xs)) [] pg_dL (fun _ => false) _ 1982 422 [some (.ref 999), some (.ref 0), some (.ref 6), some (.ref 12), some (.int 0), none, none] [.int v1] s3
  refine ⟨sp_in rfl rfl, ?_⟩
  change ev_wp pg_F pg_lay (some (5, xs)) [] pg_dL (fun _ => false) _ 1975 431 [some (.ref 999), some (.ref 0), some (.ref 6), some (.ref 12), some (.int 0), some (.int v1), none] [.int (xs (Int32.toNatClampNeg 1)), .ref 6] s3
  refine ⟨sp_in rfl rfl, ?_⟩
  change ev_wp pg_F pg_lay (some (5, xs)) [] pg_dL (fun _ => false) _ 1970 437 [some (.ref 999), some (.ref 0), some (.ref 6), some (.ref 12), some (.int 0), some (.int v1), none] [.int (xs (Int32.toNatClampNeg 2)), .int (xs (Int32.toNatClampNeg 1)), .ref 6] s3
  refine ⟨sp_in rfl rfl, ?_⟩
  change ev_wp pg_F pg_lay (some (5, xs)) [] pg_dL (fun _ => false) _ 1965 443 [some (.ref 999), some (.ref 0), some (.ref 6), some (.ref 12), some (.int 0), some (.int v1), none] [.int (xs (Int32.toNatClampNeg 3)), .int (xs (Int32.toNatClampNeg 2)), .int (xs (Int32.toNatClampNeg 1)), .ref 6] s3
  refine ⟨(md_fresh_T hm k2.1.1), ?_⟩
  rintro _ s6 ⟨v4, k5, rfl⟩
  have ok5 : s6.2.1 12 0 = s3.2.1 12 0 := congrFun (congrFun (congrArg Prod.fst k5.1) 12) 0
  change ev_wp pg_F pg_lay (some (5, xs)) [] pg_dL (fun _ => false) _ 1964 446 [some (.ref 999), some (.ref 0), some (.ref 6), some (.ref 12), some (.int 0), some (.int v1), none] [.int v4] s6
  refine ⟨trivial, ?_⟩
  rintro _ _ ⟨rfl, rfl⟩
  change ev_wp pg_F pg_lay (some (5, xs)) [] pg_dL (fun _ => false) _ 1961 452 [some (.ref 999), some (.ref 0), some (.ref 6), some (.ref 12), some (.int 0), some (.int v1), some (.int v4)] [.int (s6.1 6 0)] s6
  refine ⟨fun (h7 : (s6.1 6 0) = v1) => ?_, fun (h7 : ¬ (s6.1 6 0) = v1) => ?_⟩
  · skip
    change ev_wp pg_F pg_lay (some (5, xs)) [] pg_dL (fun _ => false) _ 1959 459 [some (.ref 999), some (.ref 0), some (.ref 6), some (.ref 12), some (.int 0), some (.int v1), some (.int v4)] [] s6
    refine ⟨fun (h8 : v1 = 0) => ?_, fun (h8 : ¬ v1 = 0) => ?_⟩
    · exact ((show False from by rcases k2.2 with z | z | z <;> rcases k5.2 with y | y <;> first | exact absurd (z.1.symm.trans h8) (by decide) | exact absurd hf.2.2.2.2.1 z.2.2)).elim
    · skip
      change ev_wp pg_F pg_lay (some (5, xs)) [] pg_dL (fun _ => false) _ 1957 476 [some (.ref 999), some (.ref 0), some (.ref 6), some (.ref 12), some (.int 0), some (.int v1), some (.int v4)] [] s6
      refine ⟨fun _ => ?_, fun h => absurd (by decide) h⟩
      change ev_wp pg_F pg_lay (some (5, xs)) [] pg_dL (fun _ => false) _ 1948 901 [some (.ref 999), some (.ref 0), some (.ref 6), some (.ref 12), some (.int 5), some (.int v1), some (.int v4)] [] s6
      exact ⟨rfl, rfl⟩
  · exact ((show False from by rcases k2.2 with z | z | z <;> rcases k5.2 with y | y <;> first | exact absurd z.2 y.1 | exact absurd y.1 z.2 | exact absurd y.1 z.2.1 | exact h7 (y.2.trans z.1.symm) | exact h7 (y.2.1.trans z.1.symm) | exact absurd hf.2.2.2.2.1 z.2.2 | exact absurd hf.2.2.2.2.1 z.2.2.1 | exact z.2.2 hf.2.2.2.2.1)).elim
theorem lw_case479 (xs : Nat → Int32) (σ : ev_W) (hf : sp_inv σ ∧ sp_fresh σ) (hm : md_fresh σ) (hb : 0 < σ.2.2) : ev_wp pg_F pg_lay (some (5, xs)) [] pg_dL (fun _ => false) (fun pc _ st _ => pc = 902 ∧ st = [.int 1]) 2000 479 [some (.ref 999), some (.ref 0), some (.ref 6), some (.ref 12), some (.int 0), none, none] [] σ := by
  change ev_wp pg_F pg_lay (some (5, xs)) [] pg_dL (fun _ => false) _ 2000 479 [some (.ref 999), some (.ref 0), some (.ref 6), some (.ref 12), some (.int 0), none, none] [] σ
  refine ⟨sp_in rfl rfl, ?_⟩
  change ev_wp pg_F pg_lay (some (5, xs)) [] pg_dL (fun _ => false) _ 1994 486 [some (.ref 999), some (.ref 0), some (.ref 6), some (.ref 12), some (.int 0), none, none] [.int (xs (Int32.toNatClampNeg 1)), .ref 0] σ
  refine ⟨⟨hf.1, hb⟩, ?_⟩
  rintro _ s3 ⟨v1, k2, rfl⟩
  change ev_wp pg_F pg_lay (some (5, xs)) [] pg_dL (fun _ => false) _ 1992 490 [some (.ref 999), some (.ref 0), some (.ref 6), some (.ref 12), some (.int 0), none, none] [.int v1] s3
  refine ⟨sp_in rfl rfl, ?_⟩
  change ev_wp pg_F pg_lay (some (5, xs)) [] pg_dL (fun _ => false) _ 1985 499 [some (.ref 999), some (.ref 0), some (.ref 6), some (.ref 12), some (.int 0), some (.int v1), none] [.int (xs (Int32.toNatClampNeg 1)), .ref 6] s3
  refine ⟨(md_fresh_T hm k2.1.1), ?_⟩
  rintro _ s6 ⟨v4, k5, rfl⟩
  have ok5 : s6.2.1 12 0 = s3.2.1 12 0 := congrFun (congrFun (congrArg Prod.fst k5.1) 12) 0
  change ev_wp pg_F pg_lay (some (5, xs)) [] pg_dL (fun _ => false) _ 1984 502 [some (.ref 999), some (.ref 0), some (.ref 6), some (.ref 12), some (.int 0), some (.int v1), none] [.int v4] s6
  refine ⟨trivial, ?_⟩
  rintro _ _ ⟨rfl, rfl⟩
  change ev_wp pg_F pg_lay (some (5, xs)) [] pg_dL (fun _ => false) _ 1981 508 [some (.ref 999), some (.ref 0), some (.ref 6), some (.ref 12), some (.int 0), some (.int v1), some (.int v4)] [.int (s6.1 6 0)] s6
  refine ⟨fun (h7 : (s6.1 6 0) = v1) => ?_, fun (h7 : ¬ (s6.1 6 0) = v1) => ?_⟩
  · skip
    change ev_wp pg_F pg_lay (some (5, xs)) [] pg_dL (fun _ => false) _ 1979 515 [some (.ref 999), some (.ref 0), some (.ref 6), some (.ref 12), some (.int 0), some (.int v1), some (.int v4)] [] s6
    refine ⟨fun (h8 : v1 = 0) => ?_, fun (h8 : ¬ v1 = 0) => ?_⟩
    · exact ((show False from by rcases k2.2 with z | z | z <;> rcases k5.2 with y | y <;> first | exact absurd (z.1.symm.trans h8) (by decide) | exact absurd hf.2.2.2.2.1 z.2.2)).elim
    · skip
      change ev_wp pg_F pg_lay (some (5, xs)) [] pg_dL (fun _ => false) _ 1977 532 [some (.ref 999), some (.ref 0), some (.ref 6), some (.ref 12), some (.int 0), some (.int v1), some (.int v4)] [] s6
      refine ⟨fun _ => ?_, fun h => absurd (by decide) h⟩
      change ev_wp pg_F pg_lay (some (5, xs)) [] pg_dL (fun _ => false) _ 1968 901 [some (.ref 999), some (.ref 0), some (.ref 6), some (.ref 12), some (.int 5), some (.int v1), some (.int v4)] [] s6
      exact ⟨rfl, rfl⟩
  · exact ((show False from by rcases k2.2 with z | z | z <;> rcases k5.2 with y | y <;> first | exact absurd z.2 y.1 | exact absurd y.1 z.2 | exact absurd y.1 z.2.1 | exact h7 (y.2.trans z.1.symm) | exact h7 (y.2.1.trans z.1.symm) | exact absurd hf.2.2.2.2.1 z.2.2 | exact absurd hf.2.2.2.2.1 z.2.2.1 | exact z.2.2 hf.2.2.2.2.1)).elim
theorem lw_case535 (xs : Nat → Int32) (σ : ev_W) (hf : sp_inv σ ∧ sp_fresh σ) (hm : md_fresh σ) (hb : 0 < σ.2.2) : ev_wp pg_F pg_lay (some (5, xs)) [] pg_dL (fun _ => false) (fun pc _ st _ => pc = 902 ∧ st = [.int 1]) 2000 535 [some (.ref 999), some (.ref 0), some (.ref 6), some (.ref 12), some (.int 0), none, none] [] σ := by
  change ev_wp pg_F pg_lay (some (5, xs)) [] pg_dL (fun _ => false) _ 2000 535 [some (.ref 999), some (.ref 0), some (.ref 6), some (.ref 12), some (.int 0), none, none] [] σ
  refine ⟨trivial, ?_⟩
  rintro _ _ ⟨rfl, rfl⟩
  change ev_wp pg_F pg_lay (some (5, xs)) [] pg_dL (fun _ => false) _ 1998 539 [some (.ref 999), some (.ref 0), some (.ref 6), some (.ref 12), some (.int 0), none, none] [.int (σ.1 0 5)] σ
  refine ⟨hm, ?_⟩
  rintro _ s3 ⟨v1, k2, rfl⟩
  have ok2 : s3.2.1 12 0 = σ.2.1 12 0 := congrFun (congrFun (congrArg Prod.fst k2.1) 12) 0
  change ev_wp pg_F pg_lay (some (5, xs)) [] pg_dL (fun _ => false) _ 1996 543 [some (.ref 999), some (.ref 0), some (.ref 6), some (.ref 12), some (.int 0), none, none] [.int v1, .int (σ.1 0 5)] s3
  refine ⟨fun (h4 : (σ.1 0 5) = v1) => ?_, fun (h4 : ¬ (σ.1 0 5) = v1) => ?_⟩
  · skip
    change ev_wp pg_F pg_lay (some (5, xs)) [] pg_dL (fun _ => false) _ 1995 895 [some (.ref 999), some (.ref 0), some (.ref 6), some (.ref 12), some (.int 0), none, none] [] s3
    refine ⟨fun _ => ?_, fun h => absurd (by decide) h⟩
    change ev_wp pg_F pg_lay (some (5, xs)) [] pg_dL (fun _ => false) _ 1987 901 [some (.ref 999), some (.ref 0), some (.ref 6), some (.ref 12), some (.int 5), none, none] [] s3
    exact ⟨rfl, rfl⟩
  · exact (h4 (hf.2.2.2.2.2.trans k2.2.symm)).elim
theorem lw_case548 (xs : Nat → Int32) (σ : ev_W) (hf : sp_inv σ ∧ sp_fresh σ) (hm : md_fresh σ) (hb : 0 < σ.2.2) : ev_wp pg_F pg_lay (some (5, xs)) [] pg_dL (fun _ => false) (fun pc _ st _ => pc = 902 ∧ st = [.int 1]) 2000 548 [some (.ref 999), some (.ref 0), some (.ref 6), some (.ref 12), some (.int 0), none, none] [] σ := by
  change ev_wp pg_F pg_lay (some (5, xs)) [] pg_dL (fun _ => false) _ 2000 548 [some (.ref 999), some (.ref 0), some (.ref 6), some (.ref 12), some (.int 0), none, none] [] σ
  refine ⟨sp_in rfl rfl, ?_⟩
  change ev_wp pg_F pg_lay (some (5, xs)) [] pg_dL (fun _ => false) _ 1994 555 [some (.ref 999), some (.ref 0), some (.ref 6), some (.ref 12), some (.int 0), none, none] [.int (xs (Int32.toNatClampNeg 1)), .ref 0] σ
  refine ⟨sp_in rfl rfl, ?_⟩
  change ev_wp pg_F pg_lay (some (5, xs)) [] pg_dL (fun _ => false) _ 1989 561 [some (.ref 999), some (.ref 0), some (.ref 6), some (.ref 12), some (.int 0), none, none] [.int (xs (Int32.toNatClampNeg 2)), .int (xs (Int32.toNatClampNeg 1)), .ref 0] σ
  refine ⟨⟨hf.1, hb⟩, ?_⟩
  rintro _ s3 ⟨v1, k2, rfl⟩
  change ev_wp pg_F pg_lay (some (5, xs)) [] pg_dL (fun _ => false) _ 1988 564 [some (.ref 999), some (.ref 0), some (.ref 6), some (.ref 12), some (.int 0), none, none] [.int v1] s3
  refine ⟨sp_in rfl rfl, ?_⟩
  change ev_wp pg_F pg_lay (some (5, xs)) [] pg_dL (fun _ => false) _ 1981 573 [some (.ref 999), some (.ref 0), some (.ref 6), some (.ref 12), some (.int 0), some (.int v1), none] [.int (xs (Int32.toNatClampNeg 1)), .ref 6] s3
  refine ⟨sp_in rfl rfl, ?_⟩
  change ev_wp pg_F pg_lay (some (5, xs)) [] pg_dL (fun _ => false) _ 1976 579 [some (.ref 999), some (.ref 0), some (.ref 6), some (.ref 12), some (.int 0), some (.int v1), none] [.int (xs (Int32.toNatClampNeg 2)), .int (xs (Int32.toNatClampNeg 1)), .ref 6] s3
  refine ⟨(md_fresh_T hm k2.1.1), ?_⟩
  rintro _ s6 ⟨k5, rfl⟩
  have ok5 : s6.2.1 12 0 = s3.2.1 12 0 := congrFun (congrFun (congrArg Prod.fst k5.1) 12) 0
  change ev_wp pg_F pg_lay (some (5, xs)) [] pg_dL (fun _ => false) _ 1975 582 [some (.ref 999), some (.ref 0), some (.ref 6), some (.ref 12), some (.int 0), some (.int v1), none] [] s6
  refine ⟨trivial, ?_⟩
  rintro _ _ ⟨rfl, rfl⟩
  change ev_wp pg_F pg_lay (some (5, xs)) [] pg_dL (fun _ => false) _ 1973 586 [some (.ref 999), some (.ref 0), some (.ref 6), some (.ref 12), some (.int 0), some (.int v1), none] [.int (s6.1 6 0)] s6
  refine ⟨fun (h7 : (s6.1 6 0) = v1) => ?_, fun (h7 : ¬ (s6.1 6 0) = v1) => ?_⟩
  · skip
    change ev_wp pg_F pg_lay (some (5, xs)) [] pg_dL (fun _ => false) _ 1971 593 [some (.ref 999), some (.ref 0), some (.ref 6), some (.ref 12), some (.int 0), some (.int v1), none] [] s6
    refine ⟨fun _ => ?_, fun h => absurd (by decide) h⟩
    change ev_wp pg_F pg_lay (some (5, xs)) [] pg_dL (fun _ => false) _ 1962 901 [some (.ref 999), some (.ref 0), some (.ref 6), some (.ref 12), some (.int 5), some (.int v1), none] [] s6
    exact ⟨rfl, rfl⟩
  · exact ((show False from by rcases k2.2 with z | z <;> rcases k5.2 with y | y <;> first | exact absurd z.2 y.1 | exact absurd y.1 z.2 | exact absurd y.1 z.2.1 | exact h7 (y.2.trans z.1.symm) | exact h7 (y.2.1.trans z.1.symm) | exact absurd hf.2.2.2.2.1 z.2.2 | exact absurd hf.2.2.2.2.1 z.2.2.1 | exact z.2.2 hf.2.2.2.2.1)).elim
theorem lw_case596 (xs : Nat → Int32) (σ : ev_W) (hf : sp_inv σ ∧ sp_fresh σ) (hm : md_fresh σ) (hb : 0 < σ.2.2) : ev_wp pg_F pg_lay (some (5, xs)) [] pg_dL (fun _ => false) (fun pc _ st _ => pc = 902 ∧ st = [.int 1]) 2000 596 [some (.ref 999), some (.ref 0), some (.ref 6), some (.ref 12), some (.int 0), none, none] [] σ := by
  change ev_wp pg_F pg_lay (some (5, xs)) [] pg_dL (fun _ => false) _ 2000 596 [some (.ref 999), some (.ref 0), some (.ref 6), some (.ref 12), some (.int 0), none, none] [] σ
  refine ⟨hf.1, ?_⟩
  rintro _ s3 ⟨v1, k2, rfl⟩
  change ev_wp pg_F pg_lay (some (5, xs)) [] pg_dL (fun _ => false) _ 1998 600 [some (.ref 999), some (.ref 0), some (.ref 6), some (.ref 12), some (.int 0), none, none] [.int v1] s3
  refine ⟨(md_fresh_T hm k2.2.1.t.1), ?_⟩
  rintro _ s6 ⟨v4, k5, rfl⟩
  have ok5 : s6.2.1 12 0 = s3.2.1 12 0 := congrFun (congrFun (congrArg Prod.fst k5.1) 12) 0
  change ev_wp pg_F pg_lay (some (5, xs)) [] pg_dL (fun _ => false) _ 1996 604 [some (.ref 999), some (.ref 0), some (.ref 6), some (.ref 12), some (.int 0), none, none] [.int v4, .int v1] s6
  refine ⟨fun (h7 : v1 = v4) => ?_, fun (h7 : ¬ v1 = v4) => ?_⟩
  · skip
    change ev_wp pg_F pg_lay (some (5, xs)) [] pg_dL (fun _ => false) _ 1995 895 [some (.ref 999), some (.ref 0), some (.ref 6), some (.ref 12), some (.int 0), none, none] [] s6
    refine ⟨fun _ => ?_, fun h => absurd (by decide) h⟩
    change ev_wp pg_F pg_lay (some (5, xs)) [] pg_dL (fun _ => false) _ 1987 901 [some (.ref 999), some (.ref 0), some (.ref 6), some (.ref 12), some (.int 5), none, none] [] s6
    exact ⟨rfl, rfl⟩
  · exact (h7 ((k2.2.2 hf.2.2.2.2.1).trans k5.2.symm)).elim
theorem lw_case609 (xs : Nat → Int32) (σ : ev_W) (hf : sp_inv σ ∧ sp_fresh σ) (hm : md_fresh σ) (hb : 0 < σ.2.2) : ev_wp pg_F pg_lay (some (5, xs)) [] pg_dL (fun _ => false) (fun pc _ st _ => pc = 902 ∧ st = [.int 1]) 2000 609 [some (.ref 999), some (.ref 0), some (.ref 6), some (.ref 12), some (.int 0), none, none] [] σ := by
  change ev_wp pg_F pg_lay (some (5, xs)) [] pg_dL (fun _ => false) _ 2000 609 [some (.ref 999), some (.ref 0), some (.ref 6), some (.ref 12), some (.int 0), none, none] [] σ
  refine ⟨trivial, ?_⟩
  rintro _ _ ⟨v1, k2, rfl, rfl⟩
  change ev_wp pg_F pg_lay (some (5, xs)) [] pg_dL (fun _ => false) _ 1998 613 [some (.ref 999), some (.ref 0), some (.ref 6), some (.ref 12), some (.int 0), none, none] [.int v1] σ
  refine ⟨hm, ?_⟩
  rintro _ s5 ⟨v3, k4, rfl⟩
  have ok4 : s5.2.1 12 0 = σ.2.1 12 0 := congrFun (congrFun (congrArg Prod.fst k4.1) 12) 0
  change ev_wp pg_F pg_lay (some (5, xs)) [] pg_dL (fun _ => false) _ 1996 617 [some (.ref 999), some (.ref 0), some (.ref 6), some (.ref 12), some (.int 0), none, none] [.int v3, .int v1] s5
  refine ⟨fun (h6 : v1 = v3) => ?_, fun (h6 : ¬ v1 = v3) => ?_⟩
  · skip
    change ev_wp pg_F pg_lay (some (5, xs)) [] pg_dL (fun _ => false) _ 1995 895 [some (.ref 999), some (.ref 0), some (.ref 6), some (.ref 12), some (.int 0), none, none] [] s5
    refine ⟨fun _ => ?_, fun h => absurd (by decide) h⟩
    change ev_wp pg_F pg_lay (some (5, xs)) [] pg_dL (fun _ => false) _ 1987 901 [some (.ref 999), some (.ref 0), some (.ref 6), some (.ref 12), some (.int 5), none, none] [] s5
    exact ⟨rfl, rfl⟩
  · exact (h6 ((k2 (by rw [sp_at_zero hf.2.1]; decide)).trans k4.2.symm)).elim
theorem lw_case622 (xs : Nat → Int32) (σ : ev_W) (hf : sp_inv σ ∧ sp_fresh σ) (hm : md_fresh σ) (hb : 0 < σ.2.2) : ev_wp pg_F pg_lay (some (5, xs)) [] pg_dL (fun _ => false) (fun pc _ st _ => pc = 902 ∧ st = [.int 1]) 2000 622 [some (.ref 999), some (.ref 0), some (.ref 6), some (.ref 12), some (.int 0), none, none] [] σ := by
  change ev_wp pg_F pg_lay (some (5, xs)) [] pg_dL (fun _ => false) _ 2000 622 [some (.ref 999), some (.ref 0), some (.ref 6), some (.ref 12), some (.int 0), none, none] [] σ
  refine ⟨trivial, ?_⟩
  rintro _ _ ⟨v1, k2, rfl, rfl⟩
  change ev_wp pg_F pg_lay (some (5, xs)) [] pg_dL (fun _ => false) _ 1998 626 [some (.ref 999), some (.ref 0), some (.ref 6), some (.ref 12), some (.int 0), none, none] [.int v1] σ
  refine ⟨hm, ?_⟩
  rintro _ s5 ⟨v3, k4, rfl⟩
  have ok4 : s5.2.1 12 0 = σ.2.1 12 0 := congrFun (congrFun (congrArg Prod.fst k4.1) 12) 0
  change ev_wp pg_F pg_lay (some (5, xs)) [] pg_dL (fun _ => false) _ 1996 630 [some (.ref 999), some (.ref 0), some (.ref 6), some (.ref 12), some (.int 0), none, none] [.int v3, .int v1] s5
  refine ⟨fun (h6 : v1 = v3) => ?_, fun (h6 : ¬ v1 = v3) => ?_⟩
  · skip
    change ev_wp pg_F pg_lay (some (5, xs)) [] pg_dL (fun _ => false) _ 1995 895 [some (.ref 999), some (.ref 0), some (.ref 6), some (.ref 12), some (.int 0), none, none] [] s5
    refine ⟨fun _ => ?_, fun h => absurd (by decide) h⟩
    change ev_wp pg_F pg_lay (some (5, xs)) [] pg_dL (fun _ => false) _ 1987 901 [some (.ref 999), some (.ref 0), some (.ref 6), some (.ref 12), some (.int 5), none, none] [] s5
    exact ⟨rfl, rfl⟩
  · exact (h6 ((k2 (by rw [sp_at_zero hf.2.1]; decide)).trans k4.2.symm)).elim
theorem lw_case635 (xs : Nat → Int32) (σ : ev_W) (hf : sp_inv σ ∧ sp_fresh σ) (hm : md_fresh σ) (hb : 0 < σ.2.2) : ev_wp pg_F pg_lay (some (5, xs)) [] pg_dL (fun _ => false) (fun pc _ st _ => pc = 902 ∧ st = [.int 1]) 2000 635 [some (.ref 999), some (.ref 0), some (.ref 6), some (.ref 12), some (.int 0), none, none] [] σ := by
  change ev_wp pg_F pg_lay (some (5, xs)) [] pg_dL (fun _ => false) _ 2000 635 [some (.ref 999), some (.ref 0), some (.ref 6), some (.ref 12), some (.int 0), none, none] [] σ
  refine ⟨sp_in rfl rfl, ?_⟩
  change ev_wp pg_F pg_lay (some (5, xs)) [] pg_dL (fun _ => false) _ 1994 642 [some (.ref 999), some (.ref 0), some (.ref 6), some (.ref 12), some (.int 0), none, none] [.int (xs (Int32.toNatClampNeg 1)), .ref 0] σ
  refine ⟨trivial, ?_⟩
  rintro _ _ ⟨v1, k2, rfl, rfl⟩
  change ev_wp pg_F pg_lay (some (5, xs)) [] pg_dL (fun _ => false) _ 1993 645 [some (.ref 999), some (.ref 0), some (.ref 6), some (.ref 12), some (.int 0), none, none] [.int v1] σ
  refine ⟨sp_in rfl rfl, ?_⟩
  change ev_wp pg_F pg_lay (some (5, xs)) [] pg_dL (fun _ => false) _ 1987 652 [some (.ref 999), some (.ref 0), some (.ref 6), some (.ref 12), some (.int 0), none, none] [.int (xs (Int32.toNatClampNeg 1)), .ref 6, .int v1] σ
  refine ⟨hm, ?_⟩
  rintro _ s5 ⟨v3, k4, rfl⟩
  have ok4 : s5.2.1 12 0 = σ.2.1 12 0 := congrFun (congrFun (congrArg Prod.fst k4.1) 12) 0
  change ev_wp pg_F pg_lay (some (5, xs)) [] pg_dL (fun _ => false) _ 1986 655 [some (.ref 999), some (.ref 0), some (.ref 6), some (.ref 12), some (.int 0), none, none] [.int v3, .int v1] s5
  refine ⟨fun (h6 : v1 = v3) => ?_, fun (h6 : ¬ v1 = v3) => ?_⟩
  · skip
    change ev_wp pg_F pg_lay (some (5, xs)) [] pg_dL (fun _ => false) _ 1985 895 [some (.ref 999), some (.ref 0), some (.ref 6), some (.ref 12), some (.int 0), none, none] [] s5
    refine ⟨fun _ => ?_, fun h => absurd (by decide) h⟩
    change ev_wp pg_F pg_lay (some (5, xs)) [] pg_dL (fun _ => false) _ 1977 901 [some (.ref 999), some (.ref 0), some (.ref 6), some (.ref 12), some (.int 5), none, none] [] s5
    exact ⟨rfl, rfl⟩
  · exact (h6 ((k2 (by rw [sp_at_zero hf.2.1]; decide)).trans k4.2.symm)).elim
theorem lw_case660 (xs : Nat → Int32) (σ : ev_W) (hf : sp_inv σ ∧ sp_fresh σ) (hm : md_fresh σ) (hb : 0 < σ.2.2) : ev_wp pg_F pg_lay (some (5, xs)) [] pg_dL (fun _ => false) (fun pc _ st _ => pc = 902 ∧ st = [.int 1]) 2000 660 [some (.ref 999), some (.ref 0), some (.ref 6), some (.ref 12), some (.int 0), none, none] [] σ := by
  change ev_wp pg_F pg_lay (some (5, xs)) [] pg_dL (fun _ => false) _ 2000 660 [some (.ref 999), some (.ref 0), some (.ref 6), some (.ref 12), some (.int 0), none, none] [] σ
  refine ⟨sp_in rfl rfl, ?_⟩
  change ev_wp pg_F pg_lay (some (5, xs)) [] pg_dL (fun _ => false) _ 1994 667 [some (.ref 999), some (.ref 0), some (.ref 6), some (.ref 12), some (.int 0), none, none] [.int (xs (Int32.toNatClampNeg 1)), .ref 0] σ
  refine ⟨sp_in rfl rfl, ?_⟩
  change ev_wp pg_F pg_lay (some (5, xs)) [] pg_dL (fun _ => false) _ 1989 673 [some (.ref 999), some (.ref 0), some (.ref 6), some (.ref 12), some (.int 0), none, none] [.int (xs (Int32.toNatClampNeg 2)), .int (xs (Int32.toNatClampNeg 1)), .ref 0] σ
  refine ⟨trivial, ?_⟩
  rintro _ _ ⟨v1, k2, rfl, rfl⟩
  change ev_wp pg_F pg_lay (some (5, xs)) [] pg_dL (fun _ => false) _ 1988 676 [some (.ref 999), some (.ref 0), some (.ref 6), some (.ref 12), some (.int 0), none, none] [.int v1] σ
  refine ⟨sp_in rfl rfl, ?_⟩
  change ev_wp pg_F pg_lay (some (5, xs)) [] pg_dL (fun _ => false) _ 1982 683 [some (.ref 999), some (.ref 0), some (.ref 6), some (.ref 12), some (.int 0), none, none] [.int (xs (Int32.toNatClampNeg 1)), .ref 6, .int v1] σ
  refine ⟨sp_in rfl rfl, ?_⟩
  change ev_wp pg_F pg_lay (some (5, xs)) [] pg_dL (fun _ => false) _ 1977 689 [some (.ref 999), some (.ref 0), some (.ref 6), some (.ref 12), some (.int 0), none, none] [.int (xs (Int32.toNatClampNeg 2)), .int (xs (Int32.toNatClampNeg 1)), .ref 6, .int v1] σ
  refine ⟨hm, ?_⟩
  rintro _ s5 ⟨v3, k4, rfl⟩
  have ok4 : s5.2.1 12 0 = σ.2.1 12 0 := congrFun (congrFun (congrArg Prod.fst k4.1) 12) 0
  change ev_wp pg_F pg_lay (some (5, xs)) [] pg_dL (fun _ => false) _ 1976 692 [some (.ref 999), some (.ref 0), some (.ref 6), some (.ref 12), some (.int 0), none, none] [.int v3, .int v1] s5
  refine ⟨fun (h6 : v1 = v3) => ?_, fun (h6 : ¬ v1 = v3) => ?_⟩
  · skip
    change ev_wp pg_F pg_lay (some (5, xs)) [] pg_dL (fun _ => false) _ 1975 895 [some (.ref 999), some (.ref 0), some (.ref 6), some (.ref 12), some (.int 0), none, none] [] s5
    refine ⟨fun _ => ?_, fun h => absurd (by decide) h⟩
    change ev_wp pg_F pg_lay (some (5, xs)) [] pg_dL (fun _ => false) _ 1967 901 [some (.ref 999), some (.ref 0), some (.ref 6), some (.ref 12), some (.int 5), none, none] [] s5
    exact ⟨rfl, rfl⟩
  · exact (h6 ((k2 hf.2.1).trans k4.2.symm)).elim
theorem lw_case697 (xs : Nat → Int32) (σ : ev_W) (hf : sp_inv σ ∧ sp_fresh σ) (hm : md_fresh σ) (hb : 0 < σ.2.2) : ev_wp pg_F pg_lay (some (5, xs)) [] pg_dL (fun _ => false) (fun pc _ st _ => pc = 902 ∧ st = [.int 1]) 2000 697 [some (.ref 999), some (.ref 0), some (.ref 6), some (.ref 12), some (.int 0), none, none] [] σ := by
  change ev_wp pg_F pg_lay (some (5, xs)) [] pg_dL (fun _ => false) _ 2000 697 [some (.ref 999), some (.ref 0), some (.ref 6), some (.ref 12), some (.int 0), none, none] [] σ
  refine ⟨sp_in rfl rfl, ?_⟩
  change ev_wp pg_F pg_lay (some (5, xs)) [] pg_dL (fun _ => false) _ 1994 704 [some (.ref 999), some (.ref 0), some (.ref 6), some (.ref 12), some (.int 0), none, none] [.int (xs (Int32.toNatClampNeg 1)), .ref 0] σ
  refine ⟨trivial, ?_⟩
  rintro _ _ ⟨v1, k2, rfl, rfl⟩
  change ev_wp pg_F pg_lay (some (5, xs)) [] pg_dL (fun _ => false) _ 1993 707 [some (.ref 999), some (.ref 0), some (.ref 6), some (.ref 12), some (.int 0), none, none] [.int v1] σ
  refine ⟨sp_in rfl rfl, ?_⟩
  change ev_wp pg_F pg_lay (some (5, xs)) [] pg_dL (fun _ => false) _ 1987 714 [some (.ref 999), some (.ref 0), some (.ref 6), some (.ref 12), some (.int 0), none, none] [.int (xs (Int32.toNatClampNeg 1)), .ref 6, .int v1] σ
  refine ⟨hm, ?_⟩
  rintro _ s5 ⟨v3, k4, rfl⟩
  have ok4 : s5.2.1 12 0 = σ.2.1 12 0 := congrFun (congrFun (congrArg Prod.fst k4.1) 12) 0
  change ev_wp pg_F pg_lay (some (5, xs)) [] pg_dL (fun _ => false) _ 1986 717 [some (.ref 999), some (.ref 0), some (.ref 6), some (.ref 12), some (.int 0), none, none] [.int v3, .int v1] s5
  refine ⟨fun (h6 : v1 = v3) => ?_, fun (h6 : ¬ v1 = v3) => ?_⟩
  · skip
    change ev_wp pg_F pg_lay (some (5, xs)) [] pg_dL (fun _ => false) _ 1985 895 [some (.ref 999), some (.ref 0), some (.ref 6), some (.ref 12), some (.int 0), none, none] [] s5
    refine ⟨fun _ => ?_, fun h => absurd (by decide) h⟩
    change ev_wp pg_F pg_lay (some (5, xs)) [] pg_dL (fun _ => false) _ 1977 901 [some (.ref 999), some (.ref 0), some (.ref 6), some (.ref 12), some (.int 5), none, none] [] s5
    exact ⟨rfl, rfl⟩
  · exact (h6 ((k2 hf.2.1).trans k4.2.symm)).elim
theorem lw_case722 (xs : Nat → Int32) (σ : ev_W) (hf : sp_inv σ ∧ sp_fresh σ) (hm : md_fresh σ) (hb : 0 < σ.2.2) : ev_wp pg_F pg_lay (some (5, xs)) [] pg_dL (fun _ => false) (fun pc _ st _ => pc = 902 ∧ st = [.int 1]) 2000 722 [some (.ref 999), some (.ref 0), some (.ref 6), some (.ref 12), some (.int 0), none, none] [] σ := by
  change ev_wp pg_F pg_lay (some (5, xs)) [] pg_dL (fun _ => false) _ 2000 722 [some (.ref 999), some (.ref 0), some (.ref 6), some (.ref 12), some (.int 0), none, none] [] σ
  refine ⟨sp_in rfl rfl, ?_⟩
  change ev_wp pg_F pg_lay (some (5, xs)) [] pg_dL (fun _ => false) _ 1994 729 [some (.ref 999), some (.ref 0), some (.ref 6), some (.ref 12), some (.int 0), none, none] [.int (xs (Int32.toNatClampNeg 1)), .ref 0] σ
  refine ⟨sp_in rfl rfl, ?_⟩
  change ev_wp pg_F pg_lay (some (5, xs)) [] pg_dL (fun _ => false) _ 1989 735 [some (.ref 999), some (.ref 0), some (.ref 6), some (.ref 12), some (.int 0), none, none] [.int (xs (Int32.toNatClampNeg 2)), .int (xs (Int32.toNatClampNeg 1)), .ref 0] σ
  refine ⟨sp_in rfl rfl, ?_⟩
  change ev_wp pg_F pg_lay (some (5, xs)) [] pg_dL (fun _ => false) _ 1984 741 [some (.ref 999), some (.ref 0), some (.ref 6), some (.ref 12), some (.int 0), none, none] [.int (xs (Int32.toNatClampNeg 3)), .int (xs (Int32.toNatClampNeg 2)), .int (xs (Int32.toNatClampNeg 1)), .ref 0] σ
  refine ⟨⟨hf.1, hb⟩, ?_⟩
  rintro _ s3 ⟨v1, k2, rfl⟩
  change ev_wp pg_F pg_lay (some (5, xs)) [] pg_dL (fun _ => false) _ 1982 745 [some (.ref 999), some (.ref 0), some (.ref 6), some (.ref 12), some (.int 0), none, none] [.int v1] s3
  refine ⟨sp_in rfl rfl, ?_⟩
  change ev_wp pg_F pg_lay (some (5, xs)) [] pg_dL (fun _ => false) _ 1975 754 [some (.ref 999), some (.ref 0), some (.ref 6), some (.ref 12), some (.int 0), some (.int v1), none] [.int (xs (Int32.toNatClampNeg 1)), .ref 6] s3
  refine ⟨sp_in rfl rfl, ?_⟩
  change ev_wp pg_F pg_lay (some (5, xs)) [] pg_dL (fun _ => false) _ 1970 760 [some (.ref 999), some (.ref 0), some (.ref 6), some (.ref 12), some (.int 0), some (.int v1), none] [.int (xs (Int32.toNatClampNeg 2)), .int (xs (Int32.toNatClampNeg 1)), .ref 6] s3
  refine ⟨sp_in rfl rfl, ?_⟩
  change ev_wp pg_F pg_lay (some (5, xs)) [] pg_dL (fun _ => false) _ 1965 766 [some (.ref 999), some (.ref 0), some (.ref 6), some (.ref 12), some (.int 0), some (.int v1), none] [.int (xs (Int32.toNatClampNeg 3)), .int (xs (Int32.toNatClampNeg 2)), .int (xs (Int32.toNatClampNeg 1)), .ref 6] s3
  refine ⟨(md_fresh_T hm k2.1.1), ?_⟩
  rintro _ s6 ⟨v4, k5, rfl⟩
  have ok5 : s6.2.1 12 0 = s3.2.1 12 0 := congrFun (congrFun (congrArg Prod.fst k5.1) 12) 0
  change ev_wp pg_F pg_lay (some (5, xs)) [] pg_dL (fun _ => false) _ 1964 769 [some (.ref 999), some (.ref 0), some (.ref 6), some (.ref 12), some (.int 0), some (.int v1), none] [.int v4] s6
  refine ⟨trivial, ?_⟩
  rintro _ _ ⟨rfl, rfl⟩
  change ev_wp pg_F pg_lay (some (5, xs)) [] pg_dL (fun _ => false) _ 1961 775 [some (.ref 999), some (.ref 0), some (.ref 6), some (.ref 12), some (.int 0), some (.int v1), some (.int v4)] [.int (s6.1 6 0)] s6
  refine ⟨fun (h7 : (s6.1 6 0) = v1) => ?_, fun (h7 : ¬ (s6.1 6 0) = v1) => ?_⟩
  · skip
    change ev_wp pg_F pg_lay (some (5, xs)) [] pg_dL (fun _ => false) _ 1959 782 [some (.ref 999), some (.ref 0), some (.ref 6), some (.ref 12), some (.int 0), some (.int v1), some (.int v4)] [] s6
    refine ⟨fun (h8 : v1 = 0) => ?_, fun (h8 : ¬ v1 = 0) => ?_⟩
    · skip
      change ev_wp pg_F pg_lay (some (5, xs)) [] pg_dL (fun _ => false) _ 1957 787 [some (.ref 999), some (.ref 0), some (.ref 6), some (.ref 12), some (.int 0), some (.int v1), some (.int v4)] [] s6
      refine ⟨sp_in rfl rfl, ?_⟩
      change ev_wp pg_F pg_lay (some (5, xs)) [] pg_dL (fun _ => false) _ 1954 790 [some (.ref 999), some (.ref 0), some (.ref 6), some (.ref 12), some (.int 0), some (.int v1), some (.int v4)] [.long (s6.2.1 12 (Int32.toNatClampNeg 0))] s6
      refine ⟨fun (h9 : (lg_cmp (s6.2.1 12 (Int32.toNatClampNeg 0)) (Int32.toInt64 v4)) = 0) => ?_, fun (h9 : ¬ (lg_cmp (s6.2.1 12 (Int32.toNatClampNeg 0)) (Int32.toInt64 v4)) = 0) => ?_⟩
      · skip
        change ev_wp pg_F pg_lay (some (5, xs)) [] pg_dL (fun _ => false) _ 1950 799 [some (.ref 999), some (.ref 0), some (.ref 6), some (.ref 12), some (.int 0), some (.int v1), some (.int v4)] [] s6
        refine ⟨fun _ => ?_, fun h => absurd (by decide) h⟩
        change ev_wp pg_F pg_lay (some (5, xs)) [] pg_dL (fun _ => false) _ 1941 901 [some (.ref 999), some (.ref 0), some (.ref 6), some (.ref 12), some (.int 5), some (.int v1), some (.int v4)] [] s6
        exact ⟨rfl, rfl⟩
      · exact ((show False from by rcases k2.2 with z | z <;> rcases k5.2 with y | y <;> first | exact absurd (z.1.symm.trans h8) (by decide) | exact absurd y.1 z.2.1 | exact h9 (lw_cmp (ok5.trans ((z.2.2 (sp_at_zero hf.2.1 _ _)).trans (congrArg Int32.toInt64 y.2.2.symm)))))).elim
    · skip
      change ev_wp pg_F pg_lay (some (5, xs)) [] pg_dL (fun _ => false) _ 1957 799 [some (.ref 999), some (.ref 0), some (.ref 6), some (.ref 12), some (.int 0), some (.int v1), some (.int v4)] [] s6
      refine ⟨fun _ => ?_, fun h => absurd (by decide) h⟩
      change ev_wp pg_F pg_lay (some (5, xs)) [] pg_dL (fun _ => false) _ 1948 901 [some (.ref 999), some (.ref 0), some (.ref 6), some (.ref 12), some (.int 5), some (.int v1), some (.int v4)] [] s6
      exact ⟨rfl, rfl⟩
  · exact ((show False from by rcases k2.2 with z | z <;> rcases k5.2 with y | y <;> first | exact absurd z.2 y.1 | exact absurd y.1 z.2 | exact absurd y.1 z.2.1 | exact h7 (y.2.trans z.1.symm) | exact h7 (y.2.1.trans z.1.symm) | exact absurd hf.2.2.2.2.1 z.2.2 | exact absurd hf.2.2.2.2.1 z.2.2.1 | exact z.2.2 hf.2.2.2.2.1)).elim
theorem lw_case802 (xs : Nat → Int32) (σ : ev_W) (hf : sp_inv σ ∧ sp_fresh σ) (hm : md_fresh σ) (hb : 0 < σ.2.2) : ev_wp pg_F pg_lay (some (5, xs)) [] pg_dL (fun _ => false) (fun pc _ st _ => pc = 902 ∧ st = [.int 1]) 2000 802 [some (.ref 999), some (.ref 0), some (.ref 6), some (.ref 12), some (.int 0), none, none] [] σ := by
  change ev_wp pg_F pg_lay (some (5, xs)) [] pg_dL (fun _ => false) _ 2000 802 [some (.ref 999), some (.ref 0), some (.ref 6), some (.ref 12), some (.int 0), none, none] [] σ
  refine ⟨sp_in rfl rfl, ?_⟩
  change ev_wp pg_F pg_lay (some (5, xs)) [] pg_dL (fun _ => false) _ 1994 809 [some (.ref 999), some (.ref 0), some (.ref 6), some (.ref 12), some (.int 0), none, none] [.int (xs (Int32.toNatClampNeg 1)), .ref 0] σ
  refine ⟨sp_in rfl rfl, ?_⟩
  change ev_wp pg_F pg_lay (some (5, xs)) [] pg_dL (fun _ => false) _ 1989 815 [some (.ref 999), some (.ref 0), some (.ref 6), some (.ref 12), some (.int 0), none, none] [.int (xs (Int32.toNatClampNeg 2)), .int (xs (Int32.toNatClampNeg 1)), .ref 0] σ
  refine ⟨⟨hf.1, hb⟩, ?_⟩
  rintro _ s3 ⟨v1, k2, rfl⟩
  change ev_wp pg_F pg_lay (some (5, xs)) [] pg_dL (fun _ => false) _ 1987 819 [some (.ref 999), some (.ref 0), some (.ref 6), some (.ref 12), some (.int 0), none, none] [.int v1] s3
  refine ⟨sp_in rfl rfl, ?_⟩
  change ev_wp pg_F pg_lay (some (5, xs)) [] pg_dL (fun _ => false) _ 1980 828 [some (.ref 999), some (.ref 0), some (.ref 6), some (.ref 12), some (.int 0), some (.int v1), none] [.int (xs (Int32.toNatClampNeg 1)), .ref 6] s3
  refine ⟨sp_in rfl rfl, ?_⟩
  change ev_wp pg_F pg_lay (some (5, xs)) [] pg_dL (fun _ => false) _ 1975 834 [some (.ref 999), some (.ref 0), some (.ref 6), some (.ref 12), some (.int 0), some (.int v1), none] [.int (xs (Int32.toNatClampNeg 2)), .int (xs (Int32.toNatClampNeg 1)), .ref 6] s3
  refine ⟨(md_fresh_T hm k2.1.1), ?_⟩
  rintro _ s6 ⟨v4, k5, rfl⟩
  have ok5 : s6.2.1 12 0 = s3.2.1 12 0 := congrFun (congrFun (congrArg Prod.fst k5.1) 12) 0
  change ev_wp pg_F pg_lay (some (5, xs)) [] pg_dL (fun _ => false) _ 1974 837 [some (.ref 999), some (.ref 0), some (.ref 6), some (.ref 12), some (.int 0), some (.int v1), none] [.int v4] s6
  refine ⟨trivial, ?_⟩
  rintro _ _ ⟨rfl, rfl⟩
  change ev_wp pg_F pg_lay (some (5, xs)) [] pg_dL (fun _ => false) _ 1971 843 [some (.ref 999), some (.ref 0), some (.ref 6), some (.ref 12), some (.int 0), some (.int v1), some (.int v4)] [.int (s6.1 6 0)] s6
  refine ⟨fun (h7 : (s6.1 6 0) = v1) => ?_, fun (h7 : ¬ (s6.1 6 0) = v1) => ?_⟩
  · skip
    change ev_wp pg_F pg_lay (some (5, xs)) [] pg_dL (fun _ => false) _ 1969 850 [some (.ref 999), some (.ref 0), some (.ref 6), some (.ref 12), some (.int 0), some (.int v1), some (.int v4)] [] s6
    refine ⟨fun (h8 : v1 = 0) => ?_, fun (h8 : ¬ v1 = 0) => ?_⟩
    · skip
      change ev_wp pg_F pg_lay (some (5, xs)) [] pg_dL (fun _ => false) _ 1967 855 [some (.ref 999), some (.ref 0), some (.ref 6), some (.ref 12), some (.int 0), some (.int v1), some (.int v4)] [] s6
      refine ⟨sp_in rfl rfl, ?_⟩
      change ev_wp pg_F pg_lay (some (5, xs)) [] pg_dL (fun _ => false) _ 1964 858 [some (.ref 999), some (.ref 0), some (.ref 6), some (.ref 12), some (.int 0), some (.int v1), some (.int v4)] [.long (s6.2.1 12 (Int32.toNatClampNeg 0))] s6
      refine ⟨fun (h9 : (lg_cmp (s6.2.1 12 (Int32.toNatClampNeg 0)) (Int32.toInt64 v4)) = 0) => ?_, fun (h9 : ¬ (lg_cmp (s6.2.1 12 (Int32.toNatClampNeg 0)) (Int32.toInt64 v4)) = 0) => ?_⟩
      · skip
        change ev_wp pg_F pg_lay (some (5, xs)) [] pg_dL (fun _ => false) _ 1960 867 [some (.ref 999), some (.ref 0), some (.ref 6), some (.ref 12), some (.int 0), some (.int v1), some (.int v4)] [] s6
        refine ⟨fun _ => ?_, fun h => absurd (by decide) h⟩
        change ev_wp pg_F pg_lay (some (5, xs)) [] pg_dL (fun _ => false) _ 1951 901 [some (.ref 999), some (.ref 0), some (.ref 6), some (.ref 12), some (.int 5), some (.int v1), some (.int v4)] [] s6
        exact ⟨rfl, rfl⟩
      · exact ((show False from by rcases k2.2 with z | z <;> rcases k5.2 with y | y <;> first | exact absurd (z.1.symm.trans h8) (by decide) | exact absurd y.1 z.2.1 | exact h9 (lw_cmp (ok5.trans (z.2.2.trans (congrArg Int32.toInt64 ((sp_at_zero hf.2.1 _ _).trans y.2.2.symm))))))).elim
    · skip
      change ev_wp pg_F pg_lay (some (5, xs)) [] pg_dL (fun _ => false) _ 1967 867 [some (.ref 999), some (.ref 0), some (.ref 6), some (.ref 12), some (.int 0), some (.int v1), some (.int v4)] [] s6
      refine ⟨fun _ => ?_, fun h => absurd (by decide) h⟩
      change ev_wp pg_F pg_lay (some (5, xs)) [] pg_dL (fun _ => false) _ 1958 901 [some (.ref 999), some (.ref 0), some (.ref 6), some (.ref 12), some (.int 5), some (.int v1), some (.int v4)] [] s6
      exact ⟨rfl, rfl⟩
  · exact ((show False from by rcases k2.2 with z | z <;> rcases k5.2 with y | y <;> first | exact absurd z.2 y.1 | exact absurd y.1 z.2 | exact absurd y.1 z.2.1 | exact h7 (y.2.trans z.1.symm) | exact h7 (y.2.1.trans z.1.symm) | exact absurd hf.2.2.2.2.1 z.2.2 | exact absurd hf.2.2.2.2.1 z.2.2.1 | exact z.2.2 hf.2.2.2.2.1)).elim
theorem lw_case870 (xs : Nat → Int32) (σ : ev_W) (hf : sp_inv σ ∧ sp_fresh σ) (hm : md_fresh σ) (hb : 0 < σ.2.2) : ev_wp pg_F pg_lay (some (5, xs)) [] pg_dL (fun _ => false) (fun pc _ st _ => pc = 902 ∧ st = [.int 1]) 2000 870 [some (.ref 999), some (.ref 0), some (.ref 6), some (.ref 12), some (.int 0), none, none] [] σ := by
  change ev_wp pg_F pg_lay (some (5, xs)) [] pg_dL (fun _ => false) _ 2000 870 [some (.ref 999), some (.ref 0), some (.ref 6), some (.ref 12), some (.int 0), none, none] [] σ
  refine ⟨sp_in rfl rfl, ?_⟩
  change ev_wp pg_F pg_lay (some (5, xs)) [] pg_dL (fun _ => false) _ 1994 877 [some (.ref 999), some (.ref 0), some (.ref 6), some (.ref 12), some (.int 0), none, none] [.int (xs (Int32.toNatClampNeg 1)), .ref 0] σ
  refine ⟨hf.1, ?_⟩
  rintro _ _ ⟨v1, k2, rfl, rfl⟩
  change ev_wp pg_F pg_lay (some (5, xs)) [] pg_dL (fun _ => false) _ 1993 880 [some (.ref 999), some (.ref 0), some (.ref 6), some (.ref 12), some (.int 0), none, none] [.int v1] σ
  refine ⟨sp_in rfl rfl, ?_⟩
  change ev_wp pg_F pg_lay (some (5, xs)) [] pg_dL (fun _ => false) _ 1987 887 [some (.ref 999), some (.ref 0), some (.ref 6), some (.ref 12), some (.int 0), none, none] [.int (xs (Int32.toNatClampNeg 1)), .ref 6, .int v1] σ
  refine ⟨hm, ?_⟩
  rintro _ s5 ⟨v3, k4, rfl⟩
  have ok4 : s5.2.1 12 0 = σ.2.1 12 0 := congrFun (congrFun (congrArg Prod.fst k4.1) 12) 0
  change ev_wp pg_F pg_lay (some (5, xs)) [] pg_dL (fun _ => false) _ 1986 890 [some (.ref 999), some (.ref 0), some (.ref 6), some (.ref 12), some (.int 0), none, none] [.int v3, .int v1] s5
  refine ⟨fun (h6 : v1 = v3) => ?_, fun (h6 : ¬ v1 = v3) => ?_⟩
  · skip
    change ev_wp pg_F pg_lay (some (5, xs)) [] pg_dL (fun _ => false) _ 1985 895 [some (.ref 999), some (.ref 0), some (.ref 6), some (.ref 12), some (.int 0), none, none] [] s5
    refine ⟨fun _ => ?_, fun h => absurd (by decide) h⟩
    change ev_wp pg_F pg_lay (some (5, xs)) [] pg_dL (fun _ => false) _ 1977 901 [some (.ref 999), some (.ref 0), some (.ref 6), some (.ref 12), some (.int 5), none, none] [] s5
    exact ⟨rfl, rfl⟩
  · exact (h6 ((k2 hf.2).trans k4.2.symm)).elim
theorem lw_case895 (xs : Nat → Int32) (σ : ev_W) (hf : sp_inv σ ∧ sp_fresh σ) (hm : md_fresh σ) (hb : 0 < σ.2.2) : ev_wp pg_F pg_lay (some (5, xs)) [] pg_dL (fun _ => false) (fun pc _ st _ => pc = 902 ∧ st = [.int 1]) 2000 895 [some (.ref 999), some (.ref 0), some (.ref 6), some (.ref 12), some (.int 0), none, none] [] σ := by
  change ev_wp pg_F pg_lay (some (5, xs)) [] pg_dL (fun _ => false) _ 2000 895 [some (.ref 999), some (.ref 0), some (.ref 6), some (.ref 12), some (.int 0), none, none] [] σ
  refine ⟨fun _ => ?_, fun h => absurd (by decide) h⟩
  change ev_wp pg_F pg_lay (some (5, xs)) [] pg_dL (fun _ => false) _ 1992 901 [some (.ref 999), some (.ref 0), some (.ref 6), some (.ref 12), some (.int 5), none, none] [] σ
  exact ⟨rfl, rfl⟩
theorem lw_first5 (xs : Nat → Int32) (σ : ev_W) (hf : sp_inv σ ∧ sp_fresh σ) (hm : md_fresh σ) (hb : 0 < σ.2.2) : ev_wp pg_F pg_lay (some (5, xs)) [] pg_dL (fun pc => Nat.ble 120 pc) (fun pc ls st σ' => pc ∈ [120, 219, 279, 343, 399, 479, 535, 548, 596, 609, 622, 635, 660, 697, 722, 802, 870, 895] ∧ ls = [some (.ref 999), some (.ref 0), some (.ref 6), some (.ref 12), some (.int 0), none, none] ∧ st = [] ∧ σ' = σ) 2000 20 [some (.ref 999), some (.ref 0), some (.ref 6), some (.ref 12), none, none, none] [] σ := by
  change ev_wp pg_F pg_lay (some (5, xs)) [] pg_dL (fun pc => Nat.ble 120 pc) _ 2000 20 [some (.ref 999), some (.ref 0), some (.ref 6), some (.ref 12), none, none, none] [] σ
  refine ⟨fun h => absurd h (by decide), fun _ => ?_⟩
  change ev_wp pg_F pg_lay (some (5, xs)) [] pg_dL (fun pc => Nat.ble 120 pc) _ 1992 32 [some (.ref 999), some (.ref 0), some (.ref 6), some (.ref 12), some (.int 0), none, none] [] σ
  refine ⟨sp_in rfl rfl, ?_⟩
  change ev_wp pg_F pg_lay (some (5, xs)) [] pg_dL (fun pc => Nat.ble 120 pc) _ 1989 36 [some (.ref 999), some (.ref 0), some (.ref 6), some (.ref 12), some (.int 0), none, none] [.int (xs (Int32.toNatClampNeg 0))] σ
  refine ⟨fun (h1 : ((xs (Int32.toNatClampNeg 0)) &&& 31) = 0) => ?_, fun (h1 : ¬ ((xs (Int32.toNatClampNeg 0)) &&& 31) = 0) => ?_⟩
  · exact ⟨by decide, rfl, rfl, rfl⟩
  refine ⟨fun (h2 : ((xs (Int32.toNatClampNeg 0)) &&& 31) = 1) => ?_, fun (h2 : ¬ ((xs (Int32.toNatClampNeg 0)) &&& 31) = 1) => ?_⟩
  · exact ⟨by decide, rfl, rfl, rfl⟩
  refine ⟨fun (h3 : ((xs (Int32.toNatClampNeg 0)) &&& 31) = 2) => ?_, fun (h3 : ¬ ((xs (Int32.toNatClampNeg 0)) &&& 31) = 2) => ?_⟩
  · exact ⟨by decide, rfl, rfl, rfl⟩
  refine ⟨fun (h4 : ((xs (Int32.toNatClampNeg 0)) &&& 31) = 3) => ?_, fun (h4 : ¬ ((xs (Int32.toNatClampNeg 0)) &&& 31) = 3) => ?_⟩
  · exact ⟨by decide, rfl, rfl, rfl⟩
  refine ⟨fun (h5 : ((xs (Int32.toNatClampNeg 0)) &&& 31) = 4) => ?_, fun (h5 : ¬ ((xs (Int32.toNatClampNeg 0)) &&& 31) = 4) => ?_⟩
  · exact ⟨by decide, rfl, rfl, rfl⟩
  refine ⟨fun (h6 : ((xs (Int32.toNatClampNeg 0)) &&& 31) = 5) => ?_, fun (h6 : ¬ ((xs (Int32.toNatClampNeg 0)) &&& 31) = 5) => ?_⟩
  · exact ⟨by decide, rfl, rfl, rfl⟩
  refine ⟨fun (h7 : ((xs (Int32.toNatClampNeg 0)) &&& 31) = 6) => ?_, fun (h7 : ¬ ((xs (Int32.toNatClampNeg 0)) &&& 31) = 6) => ?_⟩
  · exact ⟨by decide, rfl, rfl, rfl⟩
  refine ⟨fun (h8 : ((xs (Int32.toNatClampNeg 0)) &&& 31) = 7) => ?_, fun (h8 : ¬ ((xs (Int32.toNatClampNeg 0)) &&& 31) = 7) => ?_⟩
  · exact ⟨by decide, rfl, rfl, rfl⟩
  refine ⟨fun (h9 : ((xs (Int32.toNatClampNeg 0)) &&& 31) = 8) => ?_, fun (h9 : ¬ ((xs (Int32.toNatClampNeg 0)) &&& 31) = 8) => ?_⟩
  · exact ⟨by decide, rfl, rfl, rfl⟩
  refine ⟨fun (h10 : ((xs (Int32.toNatClampNeg 0)) &&& 31) = 9) => ?_, fun (h10 : ¬ ((xs (Int32.toNatClampNeg 0)) &&& 31) = 9) => ?_⟩
  · exact ⟨by decide, rfl, rfl, rfl⟩
  refine ⟨fun (h11 : ((xs (Int32.toNatClampNeg 0)) &&& 31) = 10) => ?_, fun (h11 : ¬ ((xs (Int32.toNatClampNeg 0)) &&& 31) = 10) => ?_⟩
  · exact ⟨by decide, rfl, rfl, rfl⟩
  refine ⟨fun (h12 : ((xs (Int32.toNatClampNeg 0)) &&& 31) = 11) => ?_, fun (h12 : ¬ ((xs (Int32.toNatClampNeg 0)) &&& 31) = 11) => ?_⟩
  · exact ⟨by decide, rfl, rfl, rfl⟩
  refine ⟨fun (h13 : ((xs (Int32.toNatClampNeg 0)) &&& 31) = 12) => ?_, fun (h13 : ¬ ((xs (Int32.toNatClampNeg 0)) &&& 31) = 12) => ?_⟩
  · exact ⟨by decide, rfl, rfl, rfl⟩
  refine ⟨fun (h14 : ((xs (Int32.toNatClampNeg 0)) &&& 31) = 13) => ?_, fun (h14 : ¬ ((xs (Int32.toNatClampNeg 0)) &&& 31) = 13) => ?_⟩
  · exact ⟨by decide, rfl, rfl, rfl⟩
  refine ⟨fun (h15 : ((xs (Int32.toNatClampNeg 0)) &&& 31) = 14) => ?_, fun (h15 : ¬ ((xs (Int32.toNatClampNeg 0)) &&& 31) = 14) => ?_⟩
  · exact ⟨by decide, rfl, rfl, rfl⟩
  refine ⟨fun (h16 : ((xs (Int32.toNatClampNeg 0)) &&& 31) = 15) => ?_, fun (h16 : ¬ ((xs (Int32.toNatClampNeg 0)) &&& 31) = 15) => ?_⟩
  · exact ⟨by decide, rfl, rfl, rfl⟩
  refine ⟨fun (h17 : ((xs (Int32.toNatClampNeg 0)) &&& 31) = 16) => ?_, fun (h17 : ¬ ((xs (Int32.toNatClampNeg 0)) &&& 31) = 16) => ?_⟩
  · exact ⟨by decide, rfl, rfl, rfl⟩
  exact ⟨by decide, rfl, rfl, rfl⟩
theorem lw_R5 (xs : Nat → Int32) (σ : ev_W) (hf : sp_inv σ ∧ sp_fresh σ) (hm : md_fresh σ) (hb : 0 < σ.2.2) : ev_Run pg_TB pg_cl pg_lay (some (5, xs)) pg_F pg_mt [] "TicketTagLaw" code 7 10 394 (fun pc _ st _ => pc = 902 ∧ st = [.int 1]) 20 [some (.ref 999), some (.ref 0), some (.ref 6), some (.ref 12), none, none, none] [] σ := by
  refine ev_go (host := "TicketTag") pg_hhs pg_cd pg_oL _ 2000 (lw_first5 xs σ hf hm hb) (fun pc ls st σ' h => ?_)
  obtain ⟨h, rfl, rfl, rfl⟩ := h
  simp only [List.mem_cons, List.not_mem_nil, or_false] at h
  rcases h with rfl | rfl | rfl | rfl | rfl | rfl | rfl | rfl | rfl | rfl | rfl | rfl | rfl | rfl | rfl | rfl | rfl | rfl
  · exact ev_go (host := "TicketTag") pg_hhs pg_cd pg_oL (fun _ => false) 2000 (lw_case120 xs _ hf hm hb) (fun _ _ _ _ h => ev_fin h)
  · exact ev_go (host := "TicketTag") pg_hhs pg_cd pg_oL (fun _ => false) 2000 (lw_case219 xs _ hf hm hb) (fun _ _ _ _ h => ev_fin h)
  · exact ev_go (host := "TicketTag") pg_hhs pg_cd pg_oL (fun _ => false) 2000 (lw_case279 xs _ hf hm hb) (fun _ _ _ _ h => ev_fin h)
  · exact ev_go (host := "TicketTag") pg_hhs pg_cd pg_oL (fun _ => false) 2000 (lw_case343 xs _ hf hm hb) (fun _ _ _ _ h => ev_fin h)
  · exact ev_go (host := "TicketTag") pg_hhs pg_cd pg_oL (fun _ => false) 2000 (lw_case399 xs _ hf hm hb) (fun _ _ _ _ h => ev_fin h)
  · exact ev_go (host := "TicketTag") pg_hhs pg_cd pg_oL (fun _ => false) 2000 (lw_case479 xs _ hf hm hb) (fun _ _ _ _ h => ev_fin h)
  · exact ev_go (host := "TicketTag") pg_hhs pg_cd pg_oL (fun _ => false) 2000 (lw_case535 xs _ hf hm hb) (fun _ _ _ _ h => ev_fin h)
  · exact ev_go (host := "TicketTag") pg_hhs pg_cd pg_oL (fun _ => false) 2000 (lw_case548 xs _ hf hm hb) (fun _ _ _ _ h => ev_fin h)
  · exact ev_go (host := "TicketTag") pg_hhs pg_cd pg_oL (fun _ => false) 2000 (lw_case596 xs _ hf hm hb) (fun _ _ _ _ h => ev_fin h)
  · exact ev_go (host := "TicketTag") pg_hhs pg_cd pg_oL (fun _ => false) 2000 (lw_case609 xs _ hf hm hb) (fun _ _ _ _ h => ev_fin h)
  · exact ev_go (host := "TicketTag") pg_hhs pg_cd pg_oL (fun _ => false) 2000 (lw_case622 xs _ hf hm hb) (fun _ _ _ _ h => ev_fin h)
  · exact ev_go (host := "TicketTag") pg_hhs pg_cd pg_oL (fun _ => false) 2000 (lw_case635 xs _ hf hm hb) (fun _ _ _ _ h => ev_fin h)
  · exact ev_go (host := "TicketTag") pg_hhs pg_cd pg_oL (fun _ => false) 2000 (lw_case660 xs _ hf hm hb) (fun _ _ _ _ h => ev_fin h)
  · exact ev_go (host := "TicketTag") pg_hhs pg_cd pg_oL (fun _ => false) 2000 (lw_case697 xs _ hf hm hb) (fun _ _ _ _ h => ev_fin h)
  · exact ev_go (host := "TicketTag") pg_hhs pg_cd pg_oL (fun _ => false) 2000 (lw_case722 xs _ hf hm hb) (fun _ _ _ _ h => ev_fin h)
  · exact ev_go (host := "TicketTag") pg_hhs pg_cd pg_oL (fun _ => false) 2000 (lw_case802 xs _ hf hm hb) (fun _ _ _ _ h => ev_fin h)
  · exact ev_go (host := "TicketTag") pg_hhs pg_cd pg_oL (fun _ => false) 2000 (lw_case870 xs _ hf hm hb) (fun _ _ _ _ h => ev_fin h)
  · exact ev_go (host := "TicketTag") pg_hhs pg_cd pg_oL (fun _ => false) 2000 (lw_case895 xs _ hf hm hb) (fun _ _ _ _ h => ev_fin h)
