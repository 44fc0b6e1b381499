/-! WHAT THE METHODS DO (laid by wip/gen/spec.py) -/
/-- T_fare -/
def pf_0 (vs : List Value) (σ : ev_W) : Option sp_P := match vs with
  | [.int a, .int b] => some (sp_i True (fun _ => True) σ)
  | _ => none
/-- T_isUpTo -/
def pf_1 (vs : List Value) (σ : ev_W) : Option sp_P := match vs with
  | [.int n, .int t] => some (sp_e (sp_upto n t) σ)
  | _ => none
/-- T_journeyPlace -/
def pf_2 (vs : List Value) (σ : ev_W) : Option sp_P := match vs with
  | [.int a] => some (sp_i True (fun _ => True) σ)
  | _ => none
/-- T_manner -/
def pf_3 (vs : List Value) (σ : ev_W) : Option sp_P := match vs with
  | [.ref 0, .int a, .int b] => some (sp_i True (fun _ => True) σ)
  | _ => none
/-- T_now -/
def pf_4 (vs : List Value) (σ : ev_W) : Option sp_P := match vs with
  | [.ref 0] => some (sp_i (sp_inv σ) (fun _ => True) σ)
  | _ => none
/-- T_reason -/
def pf_5 (vs : List Value) (σ : ev_W) : Option sp_P := match vs with
  | [.ref 0] => some (sp_e (σ.1 0 5) σ)
  | _ => none
/-- T_refuse -/
def pf_6 (vs : List Value) (σ : ev_W) : Option sp_P := match vs with
  | [.ref 0, .int a] => some (sp_m True (fun v σ' => v = 3 ∧ σ' = ev_up σ 0 5 a))
  | _ => none
/-- M_addToSum -/
def pf_7 (vs : List Value) (σ : ev_W) : Option sp_P := match vs with
  | [.int a, .int b] => some (sp_e (sp_add a b) σ)
  | _ => none
/-- M_at -/
def pf_8 (vs : List Value) (σ : ev_W) : Option sp_P := match vs with
  | [.ref 1, .int b, .int w] => some (sp_e (sp_at σ b w) σ)
  | _ => none
/-- M_comeNear -/
def pf_9 (vs : List Value) (σ : ev_W) : Option sp_P := match vs with
  | [.ref 1] => some (sp_v True (fun σ' => σ' = ev_up σ 1 4 1))
  | _ => none
/-- M_goAway -/
def pf_11 (vs : List Value) (σ : ev_W) : Option sp_P := match vs with
  | [.ref 1] => some (sp_v True (fun σ' => σ' = ev_up (ev_up σ 1 4 0) 1 5 0))
  | _ => none
/-- M_isNear -/
def pf_12 (vs : List Value) (σ : ev_W) : Option sp_P := match vs with
  | [.ref 1] => some ((sp_b (σ.1 1 4), (sp_e (σ.1 1 4) σ).2))
  | _ => none
/-- M_timesTorn -/
def pf_15 (vs : List Value) (σ : ev_W) : Option sp_P := match vs with
  | [.ref 1] => some (sp_e (σ.1 1 3) σ)
  | _ => none
/-- M_wordsWritten -/
def pf_17 (vs : List Value) (σ : ev_W) : Option sp_P := match vs with
  | [.ref 1] => some (sp_e (σ.1 1 2) σ)
  | _ => none
/-- M_twinOf -/
def pf_16 (vs : List Value) (σ : ev_W) : Option sp_P := match vs with
  | [.int a, .int b] => some (sp_i True (fun _ => True) σ)
  | _ => none
/-- J_bitCount -/
def pf_33 (vs : List Value) (σ : ev_W) : Option sp_P := match vs with
  | [.int a] => some (sp_i True (fun v => a = 0 → v = 0) σ)
  | _ => none
/-- J_max -/
def pf_34 (vs : List Value) (σ : ev_W) : Option sp_P := match vs with
  | [.int a, .int b] => some (sp_e (if a < b then b else a) σ)
  | _ => none
/-- J_min -/
def pf_35 (vs : List Value) (σ : ev_W) : Option sp_P := match vs with
  | [.int a, .int b] => some (sp_e (if b < a then b else a) σ)
  | _ => none
/-- T_beganAt -/
def pf_37 (vs : List Value) (σ : ev_W) : Option sp_P := match vs with
  | [.ref 0, .int a] => some (sp_i True (fun _ => True) σ)
  | _ => none
/-- T_beganMinuteOf -/
def pf_38 (vs : List Value) (σ : ev_W) : Option sp_P := match vs with
  | [.ref 0, .int a] => some (sp_i True (fun _ => True) σ)
  | _ => none
/-- T_centsOf -/
def pf_40 (vs : List Value) (σ : ev_W) : Option sp_P := match vs with
  | [.ref 0, .int a] => some (sp_i True (fun _ => True) σ)
  | _ => none
/-- T_codeOf -/
def pf_42 (vs : List Value) (σ : ev_W) : Option sp_P := match vs with
  | [.ref 0, .int a] => some (sp_i True (fun _ => True) σ)
  | _ => none
/-- T_counterOf -/
def pf_43 (vs : List Value) (σ : ev_W) : Option sp_P := match vs with
  | [.ref 0, .int a] => some (sp_i True (fun _ => True) σ)
  | _ => none
/-- T_directionOf -/
def pf_44 (vs : List Value) (σ : ev_W) : Option sp_P := match vs with
  | [.ref 0, .int a] => some (sp_i True (fun _ => True) σ)
  | _ => none
/-- T_gateOf -/
def pf_47 (vs : List Value) (σ : ev_W) : Option sp_P := match vs with
  | [.ref 0, .int a] => some (sp_i True (fun _ => True) σ)
  | _ => none
/-- T_lineOf -/
def pf_52 (vs : List Value) (σ : ev_W) : Option sp_P := match vs with
  | [.ref 0, .int a] => some (sp_i True (fun _ => True) σ)
  | _ => none
/-- T_numberOf -/
def pf_53 (vs : List Value) (σ : ev_W) : Option sp_P := match vs with
  | [.ref 0, .int a] => some (sp_i True (fun _ => True) σ)
  | _ => none
/-- T_usedOf -/
def pf_55 (vs : List Value) (σ : ev_W) : Option sp_P := match vs with
  | [.ref 0, .int a] => some (sp_i True (fun _ => True) σ)
  | _ => none
/-- T_zoneOf -/
def pf_56 (vs : List Value) (σ : ev_W) : Option sp_P := match vs with
  | [.ref 0, .int a] => some (sp_i True (fun _ => True) σ)
  | _ => none
/-- T_chargedOn -/
def pf_41 (vs : List Value) (σ : ev_W) : Option sp_P := match vs with
  | [.ref 0, .int a, .int b] => some (sp_i True (fun _ => True) σ)
  | _ => none
/-- T_isGate -/
def pf_48 (vs : List Value) (σ : ev_W) : Option sp_P := match vs with
  | [.int n] => some (sp_e (sp_upto n 11) σ)
  | _ => none
/-- T_kindOfTag -/
def pf_51 (vs : List Value) (σ : ev_W) : Option sp_P := match vs with
  | [.ref 0] => some (sp_e (sp_at σ 0 0) σ)
  | _ => none
/-- T_parameter -/
def pf_54 (vs : List Value) (σ : ev_W) : Option sp_P := match vs with
  | [.ref 0, .int a] => some (sp_e (sp_at σ 0 a) σ)
  | _ => none
/-- T_isTime -/
def pf_50 (vs : List Value) (σ : ev_W) : Option sp_P := match vs with
  | [.int a, .int b] => some (sp_e (sp_time a b) σ)
  | _ => none
/-- T_bitsOn -/
def pf_39 (vs : List Value) (σ : ev_W) : Option sp_P := match vs with
  | [.ref 0] => some (sp_i True (fun v => sp_zero σ → v = 0) σ)
  | _ => none
/-- M_isRight -/
def pf_57 (vs : List Value) (σ : ev_W) : Option sp_P := match vs with
  | [.ref 1, .int r] => some (sp_i True (fun v => sp_b v ∧ (sp_zero σ → v = 0)) σ)
  | _ => none
/-- M_draft -/
def pf_10 (vs : List Value) (σ : ev_W) : Option sp_P := match vs with
  | [.ref 1, .int a, .int b, .int c, .int d, .int e, .int f] => some (sp_v True (fun σ' => sp_w σ σ'))
  | _ => none
/-- M_isTearDue -/
def pf_13 (vs : List Value) (σ : ev_W) : Option sp_P := match vs with
  | [.ref 1] => some (sp_m True (fun v σ' => sp_b v ∧ sp_w σ σ'))
  | _ => none
/-- M_planTear -/
def pf_14 (vs : List Value) (σ : ev_W) : Option sp_P := match vs with
  | [.ref 1, .int a, .int b] => some (sp_v True (fun σ' => sp_w σ σ'))
  | _ => none
/-- M_write -/
def pf_58 (vs : List Value) (σ : ev_W) : Option sp_P := match vs with
  | [.ref 1, .int a, .int b, .int c] => some (sp_m True (fun v σ' => sp_b v ∧ sp_w σ σ'))
  | _ => none
/-- M_erase -/
def pf_79 (vs : List Value) (σ : ev_W) : Option sp_P := match vs with
  | [.ref 1, .int a] => some (sp_m True (fun v σ' => sp_b v ∧ sp_w σ σ'))
  | _ => none
/-- M_writeDraft -/
def pf_81 (vs : List Value) (σ : ev_W) : Option sp_P := match vs with
  | [.ref 1, .int a, .int b] => some (sp_m True (fun v σ' => sp_b v ∧ sp_w σ σ'))
  | _ => none
/-- M_latestOf -/
def pf_80 (vs : List Value) (σ : ev_W) : Option sp_P := match vs with
  | [.ref 1, .int a] => some (sp_i True (fun v => sp_zero σ → v = -1) σ)
  | _ => none
/-- M_writeTwin -/
def pf_96 (vs : List Value) (σ : ev_W) : Option sp_P := match vs with
  | [.ref 1, .int a] => some (sp_m True (fun v σ' => sp_b v ∧ sp_w σ σ'))
  | _ => none
/-- T_draftNewTransfer -/
def pf_45 (vs : List Value) (σ : ev_W) : Option sp_P := match vs with
  | [.ref 0, .int a, .int b, .int c, .int d] => some (sp_v (sp_inv σ) (fun σ' => sp_w σ σ'))
  | _ => none
/-- T_draftValue -/
def pf_46 (vs : List Value) (σ : ev_W) : Option sp_P := match vs with
  | [.ref 0, .int a, .int b, .int c] => some (sp_v True (fun σ' => sp_w σ σ'))
  | _ => none
/-- T_beganWithin -/
def pf_70 (vs : List Value) (σ : ev_W) : Option sp_P := match vs with
  | [.ref 0, .int a, .int b, .int c] => some (sp_i True sp_b σ)
  | _ => none
/-- T_capLeftBy -/
def pf_71 (vs : List Value) (σ : ev_W) : Option sp_P := match vs with
  | [.ref 0, .int a, .int b] => some (sp_i True (fun _ => True) σ)
  | _ => none
/-- T_journeyRecord -/
def pf_73 (vs : List Value) (σ : ev_W) : Option sp_P := match vs with
  | [.ref 0, .int a] => some (sp_i True (fun _ => True) σ)
  | _ => none
/-- T_reasonAtGate -/
def pf_74 (vs : List Value) (σ : ev_W) : Option sp_P := match vs with
  | [.ref 0] => some (sp_i (sp_inv σ) (fun _ => True) σ)
  | _ => none
/-- T_reasonByPass -/
def pf_75 (vs : List Value) (σ : ev_W) : Option sp_P := match vs with
  | [.ref 0, .int a, .int b] => some (sp_i True (fun _ => True) σ)
  | _ => none
/-- T_rodeAt -/
def pf_77 (vs : List Value) (σ : ev_W) : Option sp_P := match vs with
  | [.ref 0, .int a] => some (sp_i True (fun _ => True) σ)
  | _ => none
/-- T_rides -/
def pf_76 (vs : List Value) (σ : ev_W) : Option sp_P := match vs with
  | [.ref 0] => some (sp_i True (fun v => sp_at σ 0 0 ≠ 1 → v = -1) σ)
  | _ => none
/-- T_writeNextBit -/
def pf_78 (vs : List Value) (σ : ev_W) : Option sp_P := match vs with
  | [.ref 0] => some (sp_m True (fun v σ' => sp_b v ∧ sp_w σ σ'))
  | _ => none
/-- T_chargeBy -/
def pf_87 (vs : List Value) (σ : ev_W) : Option sp_P := match vs with
  | [.ref 0, .int a, .int b, .int c] => some (sp_i True (fun _ => True) σ)
  | _ => none
/-- T_isFreeAfter -/
def pf_88 (vs : List Value) (σ : ev_W) : Option sp_P := match vs with
  | [.ref 0, .int a, .int b] => some (sp_i (sp_inv σ) sp_b σ)
  | _ => none
/-- T_isJourneyWanting -/
def pf_89 (vs : List Value) (σ : ev_W) : Option sp_P := match vs with
  | [.ref 0, .int a] => some (sp_i True sp_b σ)
  | _ => none
/-- T_isOpenFor -/
def pf_90 (vs : List Value) (σ : ev_W) : Option sp_P := match vs with
  | [.ref 0, .int a, .int b] => some (sp_i (sp_inv σ) sp_b σ)
  | _ => none
/-- T_isVoid -/
def pf_91 (vs : List Value) (σ : ev_W) : Option sp_P := match vs with
  | [.ref 0, .int a] => some (sp_i True sp_b σ)
  | _ => none
/-- T_latestValue -/
def pf_92 (vs : List Value) (σ : ev_W) : Option sp_P := match vs with
  | [.ref 0] => some (sp_i True (fun v => sp_at σ 0 0 ≠ 3 → v = -1) σ)
  | _ => none
/-- T_newestRide -/
def pf_93 (vs : List Value) (σ : ev_W) : Option sp_P := match vs with
  | [.ref 0] => some (sp_i True (fun _ => True) σ)
  | _ => none
/-- T_reasonAgainstTopUp -/
def pf_94 (vs : List Value) (σ : ev_W) : Option sp_P := match vs with
  | [.ref 0, .int a, .int b] => some (sp_i (sp_inv σ) (fun _ => True) σ)
  | _ => none
/-- T_writeJourneyOf -/
def pf_95 (vs : List Value) (σ : ev_W) : Option sp_P := match vs with
  | [.ref 0, .int a] => some (sp_m True (fun v σ' => sp_b v ∧ sp_w σ σ'))
  | _ => none
/-- T_capLeft -/
def pf_102 (vs : List Value) (σ : ev_W) : Option sp_P := match vs with
  | [.ref 0, .int a] => some (sp_i True (fun v => sp_at σ 0 0 ≠ 3 → v = -1) σ)
  | _ => none
/-- T_cents -/
def pf_103 (vs : List Value) (σ : ev_W) : Option sp_P := match vs with
  | [.ref 0] => some (sp_i True (fun v => sp_at σ 0 0 ≠ 3 → v = -1) σ)
  | _ => none
/-- T_lastRideRecord -/
def pf_104 (vs : List Value) (σ : ev_W) : Option sp_P := match vs with
  | [.ref 0] => some (sp_i True (fun v => sp_zero σ → v = -1) σ)
  | _ => none
/-- T_rideFree -/
def pf_105 (vs : List Value) (σ : ev_W) : Option sp_P := match vs with
  | [.ref 0, .int a, .int b, .int c] => some (sp_m (sp_inv σ) (fun _ σ' => sp_t σ σ'))
  | _ => none
/-- T_rideOnCarnet -/
def pf_106 (vs : List Value) (σ : ev_W) : Option sp_P := match vs with
  | [.ref 0, .int a, .int b] => some (sp_m (sp_inv σ) (fun _ σ' => sp_t σ σ'))
  | _ => none
/-- T_rideOnPass -/
def pf_107 (vs : List Value) (σ : ev_W) : Option sp_P := match vs with
  | [.ref 0, .int a, .int b, .int c] => some (sp_m (sp_inv σ) (fun _ σ' => sp_t σ σ'))
  | _ => none
/-- T_rideOnPurse -/
def pf_108 (vs : List Value) (σ : ev_W) : Option sp_P := match vs with
  | [.ref 0, .int a, .int b, .int c] => some (sp_m (sp_inv σ) (fun _ σ' => sp_t σ σ'))
  | _ => none
/-- T_takeRide -/
def pf_118 (vs : List Value) (σ : ev_W) : Option sp_P := match vs with
  | [.ref 0, .int a, .int b, .int c, .int d] => some (sp_m (sp_inv σ) (fun _ σ' => sp_t σ σ'))
  | _ => none
/-- T_writeProduct -/
def pf_110 (vs : List Value) (σ : ev_W) : Option sp_P := match vs with
  | [.ref 0, .int a, .int b, .int c, .int d] => some (sp_v True (fun σ' => sp_w σ σ'))
  | _ => none
/-- T_takeBackVoidRide -/
def pf_109 (vs : List Value) (σ : ev_W) : Option sp_P := match vs with
  | [.ref 0] => some (sp_m True (fun v σ' => sp_b v ∧ sp_w σ σ' ∧ (sp_zero σ → v = 1 ∧ σ' = σ)))
  | _ => none
/-- T_finishLastRide -/
def pf_115 (vs : List Value) (σ : ev_W) : Option sp_P := match vs with
  | [.ref 0] => some (sp_m True (fun v σ' => sp_b v ∧ sp_t σ σ' ∧ (sp_zero σ → v = 1 ∧ σ' = σ)))
  | _ => none
/-- T_journey -/
def pf_116 (vs : List Value) (σ : ev_W) : Option sp_P := match vs with
  | [.ref 0, .int a, .int b] => some (sp_i True (fun v => sp_zero σ → v = -1) σ)
  | _ => none
/-- T_lastRide -/
def pf_117 (vs : List Value) (σ : ev_W) : Option sp_P := match vs with
  | [.ref 0, .int a] => some (sp_i True (fun v => sp_zero σ → v = -1) σ)
  | _ => none
/-- T_isProduct -/
def pf_49 (vs : List Value) (σ : ev_W) : Option sp_P := match vs with
  | [.int k, .int a, .int b, .int c] => some (sp_e (sp_prod k a b c) σ)
  | _ => none
/-- T_count -/
def pf_72 (vs : List Value) (σ : ev_W) : Option sp_P := match vs with
  | [.ref 0, .int a] => some (sp_i (sp_inv σ) (fun v => sp_fresh σ → v = sp_cnt a) σ)
  | _ => none
/-- T_away -/
def pf_36 (vs : List Value) (σ : ev_W) : Option sp_P := match vs with
  | [.ref 0] => some (sp_m (sp_inv σ) (fun v σ' => sp_b v ∧ sp_w σ σ' ∧ (σ.1 1 4 = 0 → v = 0)))
  | _ => none
/-- T_setClock -/
def pf_130 (vs : List Value) (σ : ev_W) : Option sp_P := match vs with
  | [.ref 0, .int g, .int d, .int m] => some (sp_x (sp_inv σ) (fun κ => κ = 0 ∧ sp_clk g d m = 0) (fun v σ' => v = none ∧ sp_t σ σ' ∧ ¬ sp_clk g d m = 0) σ)
  | _ => none
/-- T_bar -/
def pf_126 (vs : List Value) (σ : ev_W) : Option sp_P := match vs with
  | [.ref 0, .int g, .int x] => some (sp_x (sp_inv σ) (fun κ => κ = 0 ∧ sp_upto g 11 = 0) (fun v σ' => v = none ∧ sp_t σ σ' ∧ ¬ sp_upto g 11 = 0) σ)
  | _ => none
/-- T_tearAfter -/
def pf_131 (vs : List Value) (σ : ev_W) : Option sp_P := match vs with
  | [.ref 0, .int n, .int j] => some (sp_x (sp_inv σ) (fun κ => κ = 0 ∧ sp_tr n j = 0) (fun v σ' => v = none ∧ sp_t σ σ' ∧ ¬ sp_tr n j = 0) σ)
  | _ => none
/-- T_issue -/
def pf_128 (vs : List Value) (σ : ev_W) : Option sp_P := match vs with
  | [.ref 0, .int k, .int a, .int b, .int c] => some (sp_x (sp_inv σ) (fun κ => κ = 0 ∧ sp_prod k a b c = 0 ∨ κ = 1 ∧ ¬ sp_prod k a b c = 0 ∧ ¬ σ.1 1 4 = 0) (fun v σ' => ∃ x : Int32, v = some (.int x) ∧ sp_t σ σ' ∧ ¬ sp_prod k a b c = 0 ∧ σ.1 1 4 = 0 ∧ sp_b x ∧ (sp_at σ 0 0 = 0 → x = 1)) σ)
  | _ => none
/-- T_present -/
def pf_129 (vs : List Value) (σ : ev_W) : Option sp_P := match vs with
  | [.ref 0, .int g] => some (sp_x (sp_inv σ) (fun κ => κ = 0 ∧ sp_upto g 11 = 0 ∨ κ = 1 ∧ ¬ sp_upto g 11 = 0 ∧ ¬ σ.1 1 4 = 0) (fun v σ' => ∃ x : Int32, v = some (.int x) ∧ sp_t σ σ' ∧ ¬ sp_upto g 11 = 0 ∧ σ.1 1 4 = 0 ∧ (sp_zero σ → x = 0)) σ)
  | _ => none
/-- T_validate -/
def pf_133 (vs : List Value) (σ : ev_W) : Option sp_P := match vs with
  | [.ref 0, .int l, .int z, .int d] => some (sp_x (sp_inv σ) (fun κ => κ = 0 ∧ sp_val l z d = 0 ∨ κ = 1 ∧ ¬ sp_val l z d = 0 ∧ σ.1 1 4 = 0) (fun v σ' => ∃ x : Int32, v = some (.int x) ∧ sp_t σ σ' ∧ ¬ sp_val l z d = 0 ∧ ¬ σ.1 1 4 = 0) σ)
  | _ => none
/-- T_topUp -/
def pf_132 (vs : List Value) (σ : ev_W) : Option sp_P := match vs with
  | [.ref 0, .int c] => some (sp_x (sp_inv σ) (fun κ => κ = 0 ∧ sp_top c = 0 ∨ κ = 1 ∧ ¬ sp_top c = 0 ∧ σ.1 1 4 = 0) (fun v σ' => ∃ x : Int32, v = some (.int x) ∧ sp_t σ σ' ∧ ¬ sp_top c = 0 ∧ ¬ σ.1 1 4 = 0) σ)
  | _ => none
/-- T_inspect -/
def pf_127 (vs : List Value) (σ : ev_W) : Option sp_P := match vs with
  | [.ref 0, .int d, .int m, .int z] => some (sp_x (sp_inv σ) (fun κ => κ = 0 ∧ sp_ins d m z = 0) (fun v σ' => ∃ x : Int32, v = some (.int x) ∧ sp_t σ σ' ∧ ¬ sp_ins d m z = 0 ∧ (sp_at σ 0 0 = 0 → x = 2)) σ)
  | _ => none
/-- T_word -/
def pf_134 (vs : List Value) (σ : ev_W) : Option sp_P := match vs with
  | [.ref 0, .int b, .int w] => some (sp_x (sp_inv σ) (fun κ => κ = 2 ∧ sp_wd b w = 0) (fun v σ' => ∃ x : Int32, v = some (.int x) ∧ sp_t σ σ' ∧ ¬ sp_wd b w = 0 ∧ x = sp_at σ b w) σ)
  | _ => none
/-- L_setClock -/
def pf_140 (vs : List Value) (σ : ev_W) : Option sp_P := match vs with
  | [.ref 0, .int g, .int d, .int m] => some (sp_m (sp_inv σ ∧ 0 < σ.2.2) (fun v σ' => sp_T σ σ' ∧ ((v = 1 ∧ sp_clk g d m = 0) ∨ (v = 0 ∧ ¬ sp_clk g d m = 0))))
  | _ => none
/-- L_bar -/
def pf_136 (vs : List Value) (σ : ev_W) : Option sp_P := match vs with
  | [.ref 0, .int g, .int x] => some (sp_m (sp_inv σ ∧ 0 < σ.2.2) (fun v σ' => sp_T σ σ' ∧ ((v = 1 ∧ sp_upto g 11 = 0) ∨ (v = 0 ∧ ¬ sp_upto g 11 = 0))))
  | _ => none
/-- L_tearAfter -/
def pf_141 (vs : List Value) (σ : ev_W) : Option sp_P := match vs with
  | [.ref 0, .int n, .int j] => some (sp_m (sp_inv σ ∧ 0 < σ.2.2) (fun v σ' => sp_T σ σ' ∧ ((v = 1 ∧ sp_tr n j = 0) ∨ (v = 0 ∧ ¬ sp_tr n j = 0))))
  | _ => none
/-- L_present -/
def pf_139 (vs : List Value) (σ : ev_W) : Option sp_P := match vs with
  | [.ref 0, .int g, .ref 12] => some (sp_m (sp_inv σ ∧ 0 < σ.2.2) (fun v σ' => sp_T σ σ' ∧ ((v = 1 ∧ sp_upto g 11 = 0) ∨ (v = 2 ∧ ¬ sp_upto g 11 = 0 ∧ ¬ σ.1 1 4 = 0) ∨ (v = 0 ∧ ¬ sp_upto g 11 = 0 ∧ σ.1 1 4 = 0 ∧ (sp_zero σ → σ'.2.1 12 0 = Int32.toInt64 0)))))
  | _ => none
/-- L_validate -/
def pf_143 (vs : List Value) (σ : ev_W) : Option sp_P := match vs with
  | [.ref 0, .int l, .int z, .int d, .ref 12] => some (sp_m (sp_inv σ ∧ 0 < σ.2.2) (fun v σ' => sp_T σ σ' ∧ ((v = 1 ∧ sp_val l z d = 0) ∨ (v = 2 ∧ ¬ sp_val l z d = 0 ∧ σ.1 1 4 = 0) ∨ (v = 0 ∧ ¬ sp_val l z d = 0 ∧ ¬ σ.1 1 4 = 0))))
  | _ => none
/-- L_topUp -/
def pf_142 (vs : List Value) (σ : ev_W) : Option sp_P := match vs with
  | [.ref 0, .int c, .ref 12] => some (sp_m (sp_inv σ ∧ 0 < σ.2.2) (fun v σ' => sp_T σ σ' ∧ ((v = 1 ∧ sp_top c = 0) ∨ (v = 2 ∧ ¬ sp_top c = 0 ∧ σ.1 1 4 = 0) ∨ (v = 0 ∧ ¬ sp_top c = 0 ∧ ¬ σ.1 1 4 = 0))))
  | _ => none
/-- L_inspect -/
def pf_137 (vs : List Value) (σ : ev_W) : Option sp_P := match vs with
  | [.ref 0, .int d, .int m, .int z, .ref 12] => some (sp_m (sp_inv σ ∧ 0 < σ.2.2) (fun v σ' => sp_T σ σ' ∧ ((v = 1 ∧ sp_ins d m z = 0) ∨ (v = 0 ∧ ¬ sp_ins d m z = 0 ∧ (sp_at σ 0 0 = 0 → σ'.2.1 12 0 = Int32.toInt64 2)))))
  | _ => none
/-- L_word -/
def pf_144 (vs : List Value) (σ : ev_W) : Option sp_P := match vs with
  | [.ref 0, .int b, .int w, .ref 12] => some (sp_m (sp_inv σ ∧ 0 < σ.2.2) (fun v σ' => sp_T σ σ' ∧ ((v = 1 ∧ sp_wd b w = 0) ∨ (v = 0 ∧ ¬ sp_wd b w = 0 ∧ σ'.2.1 12 0 = Int32.toInt64 (sp_at σ b w)))))
  | _ => none
/-- L_issue -/
def pf_138 (vs : List Value) (σ : ev_W) : Option sp_P := match vs with
  | [.ref 0, .int k, .int a, .int b, .int c, .ref 12] => some (sp_m (sp_inv σ ∧ 0 < σ.2.2) (fun v σ' => sp_T σ σ' ∧ ((v = 1 ∧ sp_prod k a b c = 0) ∨ (v = 2 ∧ ¬ sp_prod k a b c = 0 ∧ ¬ σ.1 1 4 = 0) ∨ (v = 0 ∧ ¬ sp_prod k a b c = 0 ∧ σ.1 1 4 = 0 ∧ (sp_at σ 0 0 = 0 → σ'.2.1 12 0 = Int64.ofNat 1)))))
  | _ => none
/-- R_add -/
def pf_18 (vs : List Value) (σ : ev_W) : Option sp_P := match vs with
  | [.int a, .int b] => some (sp_e (sp_add a b) σ)
  | _ => none
/-- R_isIn -/
def pf_23 (vs : List Value) (σ : ev_W) : Option sp_P := match vs with
  | [.int v, .int a, .int b] => some (sp_e (sp_isin v a b) σ)
  | _ => none
/-- R_thrown -/
def pf_31 (vs : List Value) (σ : ev_W) : Option sp_P := match vs with
  | [.ref 6] => some (sp_e (σ.1 6 0) σ)
  | _ => none
/-- R_isWithin -/
def pf_24 (vs : List Value) (σ : ev_W) : Option sp_P := match vs with
  | [.int a, .int b, .int c] => some (sp_i True sp_b σ)
  | _ => none
/-- R_less -/
def pf_26 (vs : List Value) (σ : ev_W) : Option sp_P := match vs with
  | [.int a, .int b] => some (sp_i True (fun _ => True) σ)
  | _ => none
/-- R_left -/
def pf_25 (vs : List Value) (σ : ev_W) : Option sp_P := match vs with
  | [.int a, .int b] => some (sp_i True (fun _ => True) σ)
  | _ => none
/-- R_at -/
def pf_19 (vs : List Value) (σ : ev_W) : Option sp_P := match vs with
  | [.ref 6, .int b, .int w] => some ((vp_in (4 * b + w) 256, (sp_e (σ.1 7 (Int32.toNatClampNeg (4 * b + w))) σ).2))
  | _ => none
/-- R_kind -/
def pf_63 (vs : List Value) (σ : ev_W) : Option sp_P := match vs with
  | [.ref 6] => some (sp_e (σ.1 7 0) σ)
  | _ => none
/-- R_ridesTaken -/
def pf_64 (vs : List Value) (σ : ev_W) : Option sp_P := match vs with
  | [.ref 6] => some (sp_e (md_cnt σ 64) σ)
  | _ => none
/-- R_isRight -/
def pf_62 (vs : List Value) (σ : ev_W) : Option sp_P := match vs with
  | [.ref 6, .int b] => some (sp_i (md_j b) (fun v => sp_b v ∧ (∀ j, j ≤ 62 → b = Int32.ofNat j → md_right σ j → ¬ v = 0)) σ)
  | _ => none
/-- R_latest -/
def pf_84 (vs : List Value) (σ : ev_W) : Option sp_P := match vs with
  | [.ref 6, .int b] => some (sp_i (b = 5 ∨ b = 41) (fun v => (v = -1 ∨ v = b ∨ v = b + 2) ∧ ((md_right σ (Int32.toNatClampNeg b) ∨ md_right σ (Int32.toNatClampNeg b + 2)) → ¬ v = -1)) σ)
  | _ => none
/-- R_isVoid -/
def pf_100 (vs : List Value) (σ : ev_W) : Option sp_P := match vs with
  | [.ref 6, .int t] => some (sp_i (t = 41 ∨ t = 43) sp_b σ)
  | _ => none
/-- R_lastBlock -/
def pf_112 (vs : List Value) (σ : ev_W) : Option sp_P := match vs with
  | [.ref 6] => some (sp_i True (fun v => v = -1 ∨ v = 41 ∨ v = 43) σ)
  | _ => none
/-- R_began -/
def pf_60 (vs : List Value) (σ : ev_W) : Option sp_P := match vs with
  | [.ref 6, .int t] => some (sp_i (t = 41 ∨ t = 43) (fun _ => True) σ)
  | _ => none
/-- R_used -/
def pf_67 (vs : List Value) (σ : ev_W) : Option sp_P := match vs with
  | [.ref 6, .int t] => some (sp_i (t = 41 ∨ t = 43) (fun _ => True) σ)
  | _ => none
/-- R_placeOf -/
def pf_28 (vs : List Value) (σ : ev_W) : Option sp_P := match vs with
  | [.ref 6, .int n] => some (sp_i (0 ≤ n) (fun v => ∃ j : Nat, j < 16 ∧ v = Int32.ofNat (9 + 2 * j)) σ)
  | _ => none
/-- R_hasJourney -/
def pf_83 (vs : List Value) (σ : ev_W) : Option sp_P := match vs with
  | [.ref 6, .int n] => some (sp_i (0 ≤ n) sp_b σ)
  | _ => none
/-- R_now -/
def pf_27 (vs : List Value) (σ : ev_W) : Option sp_P := match vs with
  | [.ref 6] => some (sp_i (vp_in (σ.1 6 5) 12) (fun _ => True) σ)
  | _ => none
/-- R_fails -/
def pf_22 (vs : List Value) (σ : ev_W) : Option sp_P := match vs with
  | [.ref 6, .int c, .int x] => some (sp_m (sp_b x) (fun v σ' => v = x ∧ σ' = ev_up σ 6 0 (if x = 0 then 0 else c)))
  | _ => none
/-- R_refuse -/
def pf_30 (vs : List Value) (σ : ev_W) : Option sp_P := match vs with
  | [.ref 6, .int a] => some (sp_m True (fun v σ' => v = 3 ∧ σ' = ev_up σ 6 7 a))
  | _ => none
/-- R_isProduct -/
def pf_61 (vs : List Value) (σ : ev_W) : Option sp_P := match vs with
  | [.ref 6, .int k, .int a, .int b, .int c] => some (sp_e (sp_prod k a b c) σ)
  | _ => none
/-- R_write -/
def pf_32 (vs : List Value) (σ : ev_W) : Option sp_P := match vs with
  | [.ref 6, .int b, .int w, .int v] => some (sp_v (vp_in (4 * b + w) 256) (fun σ' => md_wr b v (Int32.toNatClampNeg (4 * b + w)) σ σ'))
  | _ => none
/-- R_clear -/
def pf_21 (vs : List Value) (σ : ev_W) : Option sp_P := match vs with
  | [.ref 6] => some (sp_v True (fun σ' => md_c σ σ'))
  | _ => none
/-- R_writeRecord -/
def pf_69 (vs : List Value) (σ : ev_W) : Option sp_P := match vs with
  | [.ref 6, .int b] => some (sp_v (∃ i : Nat, 5 ≤ i ∧ i ≤ 62 ∧ b = Int32.ofNat i) (fun σ' => ∀ i : Nat, 5 ≤ i → i ≤ 62 → b = Int32.ofNat i → md_rc i σ σ'))
  | _ => none
/-- R_writeTwin -/
def pf_101 (vs : List Value) (σ : ev_W) : Option sp_P := match vs with
  | [.ref 6, .int b] => some (sp_v ((b = 5 ∨ b = 41) ∧ md_ok σ) (fun σ' => md_m σ σ' ∧ md_tw (Int32.toNatClampNeg b) σ σ'))
  | _ => none
/-- R_writeJourney -/
def pf_86 (vs : List Value) (σ : ev_W) : Option sp_P := match vs with
  | [.ref 6, .int t] => some (sp_v ((t = 41 ∨ t = 43) ∧ md_ok σ) (fun σ' => md_m σ σ'))
  | _ => none
/-- R_ride -/
def pf_113 (vs : List Value) (σ : ev_W) : Option sp_P := match vs with
  | [.ref 6, .int a1, .int a2, .int a3, .int a4, .int a5, .int a6, .int a7, .int a8] => some (sp_v (md_ok σ ∧ vp_in (σ.1 6 5) 12) (fun σ' => md_m σ σ' ∧ md_tw 41 σ σ'))
  | _ => none
/-- R_done -/
def pf_99 (vs : List Value) (σ : ev_W) : Option sp_P := match vs with
  | [.ref 6, .int c] => some (sp_m (md_ok σ ∧ (σ.1 6 10 = 0 → md_right σ 41 ∨ md_right σ 43)) (fun _ σ' => md_m σ σ'))
  | _ => none
/-- R_pass -/
def pf_123 (vs : List Value) (σ : ev_W) : Option sp_P := match vs with
  | [.ref 6, .int l, .int z, .int d] => some (sp_m (md_ok σ ∧ vp_in (σ.1 6 5) 12) (fun _ σ' => md_m σ σ'))
  | _ => none
/-- R_carnet -/
def pf_119 (vs : List Value) (σ : ev_W) : Option sp_P := match vs with
  | [.ref 6, .int l, .int z, .int d] => some (sp_m (md_ok σ ∧ vp_in (σ.1 6 5) 12 ∧ σ.1 7 0 = 1) (fun _ σ' => md_m σ σ'))
  | _ => none
/-- R_purse -/
def pf_125 (vs : List Value) (σ : ev_W) : Option sp_P := match vs with
  | [.ref 6, .int l, .int z, .int d, .int v] => some (sp_m (md_ok σ ∧ vp_in (σ.1 6 5) 12 ∧ (v = -1 ∨ v = 5 ∨ v = 7)) (fun _ σ' => md_m σ σ'))
  | _ => none
/-- R_validate -/
def pf_135 (vs : List Value) (σ : ev_W) : Option sp_P := match vs with
  | [.ref 6, .int l, .int z, .int d] => some (sp_m (md_ok σ) (fun _ σ' => md_m σ σ'))
  | _ => none
/-- R_topUp -/
def pf_114 (vs : List Value) (σ : ev_W) : Option sp_P := match vs with
  | [.ref 6, .int c] => some (sp_m (md_ok σ) (fun _ σ' => md_m σ σ'))
  | _ => none
/-- R_present -/
def pf_124 (vs : List Value) (σ : ev_W) : Option sp_P := match vs with
  | [.ref 6, .int g] => some (sp_m (md_ok σ) (fun _ σ' => md_m σ σ'))
  | _ => none
/-- R_issue -/
def pf_111 (vs : List Value) (σ : ev_W) : Option sp_P := match vs with
  | [.ref 6, .int k, .int a, .int b, .int c] => some (sp_m (md_ok σ) (fun _ σ' => md_m σ σ'))
  | _ => none
/-- R_reason -/
def pf_29 (vs : List Value) (σ : ev_W) : Option sp_P := match vs with
  | [.ref 6] => some (sp_m (md_ok σ) (fun _ σ' => md_m σ σ'))
  | _ => none
/-- R_away -/
def pf_20 (vs : List Value) (σ : ev_W) : Option sp_P := match vs with
  | [.ref 6] => some (sp_m (md_ok σ) (fun _ σ' => md_m σ σ'))
  | _ => none
/-- R_rides -/
def pf_85 (vs : List Value) (σ : ev_W) : Option sp_P := match vs with
  | [.ref 6] => some (sp_m (md_ok σ) (fun _ σ' => md_m σ σ'))
  | _ => none
/-- R_cents -/
def pf_98 (vs : List Value) (σ : ev_W) : Option sp_P := match vs with
  | [.ref 6] => some (sp_m (md_ok σ) (fun _ σ' => md_m σ σ'))
  | _ => none
/-- R_capLeft -/
def pf_97 (vs : List Value) (σ : ev_W) : Option sp_P := match vs with
  | [.ref 6, .int d] => some (sp_m (md_ok σ) (fun _ σ' => md_m σ σ'))
  | _ => none
/-- R_journey -/
def pf_121 (vs : List Value) (σ : ev_W) : Option sp_P := match vs with
  | [.ref 6, .int k, .int a] => some (sp_m (md_ok σ) (fun _ σ' => md_m σ σ'))
  | _ => none
/-- R_lastRide -/
def pf_122 (vs : List Value) (σ : ev_W) : Option sp_P := match vs with
  | [.ref 6, .int a] => some (sp_m (md_ok σ) (fun _ σ' => md_m σ σ'))
  | _ => none
/-- R_inspect -/
def pf_120 (vs : List Value) (σ : ev_W) : Option sp_P := match vs with
  | [.ref 6, .int d, .int m, .int z] => some (sp_m (md_ok σ) (fun _ σ' => md_m σ σ'))
  | _ => none
/-- R_count -/
def pf_82 (vs : List Value) (σ : ev_W) : Option sp_P := match vs with
  | [.ref 6, .int a] => some (sp_m (md_ok σ) (fun _ σ' => md_m σ σ'))
  | _ => none
/-- R_word -/
def pf_68 (vs : List Value) (σ : ev_W) : Option sp_P := match vs with
  | [.ref 6, .int b, .int w] => some (sp_m (md_ok σ) (fun _ σ' => md_m σ σ'))
  | _ => none
/-- R_setClock -/
def pf_65 (vs : List Value) (σ : ev_W) : Option sp_P := match vs with
  | [.ref 6, .int g, .int d, .int m] => some (sp_v (md_ok σ) (fun σ' => md_m σ σ' ∧ (sp_clk g d m = 0 ∧ σ'.1 6 0 = 1 ∨ ¬ sp_clk g d m = 0 ∧ σ'.1 6 0 = 0)))
  | _ => none
/-- R_bar -/
def pf_59 (vs : List Value) (σ : ev_W) : Option sp_P := match vs with
  | [.ref 6, .int g, .int x] => some (sp_v (md_ok σ) (fun σ' => md_m σ σ' ∧ (sp_upto g 11 = 0 ∧ σ'.1 6 0 = 1 ∨ ¬ sp_upto g 11 = 0 ∧ σ'.1 6 0 = 0)))
  | _ => none
/-- R_tearAfter -/
def pf_66 (vs : List Value) (σ : ev_W) : Option sp_P := match vs with
  | [.ref 6, .int n, .int j] => some (sp_v (md_ok σ) (fun σ' => md_m σ σ' ∧ (sp_tr n j = 0 ∧ σ'.1 6 0 = 1 ∨ ¬ sp_tr n j = 0 ∧ σ'.1 6 0 = 0)))
  | _ => none
def pg_F : ev_F := fun j vs σ => match j with
  | 0 => pf_0 vs σ
  | 1 => pf_1 vs σ
  | 2 => pf_2 vs σ
  | 3 => pf_3 vs σ
  | 4 => pf_4 vs σ
  | 5 => pf_5 vs σ
  | 6 => pf_6 vs σ
  | 7 => pf_7 vs σ
  | 8 => pf_8 vs σ
  | 9 => pf_9 vs σ
  | 10 => pf_10 vs σ
  | 11 => pf_11 vs σ
  | 12 => pf_12 vs σ
  | 13 => pf_13 vs σ
  | 14 => pf_14 vs σ
  | 15 => pf_15 vs σ
  | 16 => pf_16 vs σ
  | 17 => pf_17 vs σ
  | 18 => pf_18 vs σ
  | 19 => pf_19 vs σ
  | 20 => pf_20 vs σ
  | 21 => pf_21 vs σ
  | 22 => pf_22 vs σ
  | 23 => pf_23 vs σ
  | 24 => pf_24 vs σ
  | 25 => pf_25 vs σ
  | 26 => pf_26 vs σ
  | 27 => pf_27 vs σ
  | 28 => pf_28 vs σ
  | 29 => pf_29 vs σ
  | 30 => pf_30 vs σ
  | 31 => pf_31 vs σ
  | 32 => pf_32 vs σ
  | 33 => pf_33 vs σ
  | 34 => pf_34 vs σ
  | 35 => pf_35 vs σ
  | 36 => pf_36 vs σ
  | 37 => pf_37 vs σ
  | 38 => pf_38 vs σ
  | 39 => pf_39 vs σ
  | 40 => pf_40 vs σ
  | 41 => pf_41 vs σ
  | 42 => pf_42 vs σ
  | 43 => pf_43 vs σ
  | 44 => pf_44 vs σ
  | 45 => pf_45 vs σ
  | 46 => pf_46 vs σ
  | 47 => pf_47 vs σ
  | 48 => pf_48 vs σ
  | 49 => pf_49 vs σ
  | 50 => pf_50 vs σ
  | 51 => pf_51 vs σ
  | 52 => pf_52 vs σ
  | 53 => pf_53 vs σ
  | 54 => pf_54 vs σ
  | 55 => pf_55 vs σ
  | 56 => pf_56 vs σ
  | 57 => pf_57 vs σ
  | 58 => pf_58 vs σ
  | 59 => pf_59 vs σ
  | 60 => pf_60 vs σ
  | 61 => pf_61 vs σ
  | 62 => pf_62 vs σ
  | 63 => pf_63 vs σ
  | 64 => pf_64 vs σ
  | 65 => pf_65 vs σ
  | 66 => pf_66 vs σ
  | 67 => pf_67 vs σ
  | 68 => pf_68 vs σ
  | 69 => pf_69 vs σ
  | 70 => pf_70 vs σ
  | 71 => pf_71 vs σ
  | 72 => pf_72 vs σ
  | 73 => pf_73 vs σ
  | 74 => pf_74 vs σ
  | 75 => pf_75 vs σ
  | 76 => pf_76 vs σ
  | 77 => pf_77 vs σ
  | 78 => pf_78 vs σ
  | 79 => pf_79 vs σ
  | 80 => pf_80 vs σ
  | 81 => pf_81 vs σ
  | 82 => pf_82 vs σ
  | 83 => pf_83 vs σ
  | 84 => pf_84 vs σ
  | 85 => pf_85 vs σ
  | 86 => pf_86 vs σ
  | 87 => pf_87 vs σ
  | 88 => pf_88 vs σ
  | 89 => pf_89 vs σ
  | 90 => pf_90 vs σ
  | 91 => pf_91 vs σ
  | 92 => pf_92 vs σ
  | 93 => pf_93 vs σ
  | 94 => pf_94 vs σ
  | 95 => pf_95 vs σ
  | 96 => pf_96 vs σ
  | 97 => pf_97 vs σ
  | 98 => pf_98 vs σ
  | 99 => pf_99 vs σ
  | 100 => pf_100 vs σ
  | 101 => pf_101 vs σ
  | 102 => pf_102 vs σ
  | 103 => pf_103 vs σ
  | 104 => pf_104 vs σ
  | 105 => pf_105 vs σ
  | 106 => pf_106 vs σ
  | 107 => pf_107 vs σ
  | 108 => pf_108 vs σ
  | 109 => pf_109 vs σ
  | 110 => pf_110 vs σ
  | 111 => pf_111 vs σ
  | 112 => pf_112 vs σ
  | 113 => pf_113 vs σ
  | 114 => pf_114 vs σ
  | 115 => pf_115 vs σ
  | 116 => pf_116 vs σ
  | 117 => pf_117 vs σ
  | 118 => pf_118 vs σ
  | 119 => pf_119 vs σ
  | 120 => pf_120 vs σ
  | 121 => pf_121 vs σ
  | 122 => pf_122 vs σ
  | 123 => pf_123 vs σ
  | 124 => pf_124 vs σ
  | 125 => pf_125 vs σ
  | 126 => pf_126 vs σ
  | 127 => pf_127 vs σ
  | 128 => pf_128 vs σ
  | 129 => pf_129 vs σ
  | 130 => pf_130 vs σ
  | 131 => pf_131 vs σ
  | 132 => pf_132 vs σ
  | 133 => pf_133 vs σ
  | 134 => pf_134 vs σ
  | 135 => pf_135 vs σ
  | 136 => pf_136 vs σ
  | 137 => pf_137 vs σ
  | 138 => pf_138 vs σ
  | 139 => pf_139 vs σ
  | 140 => pf_140 vs σ
  | 141 => pf_141 vs σ
  | 142 => pf_142 vs σ
  | 143 => pf_143 vs σ
  | 144 => pf_144 vs σ
  | _ => none
