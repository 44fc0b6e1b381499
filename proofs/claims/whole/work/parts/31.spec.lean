/-! WHAT THE METHODS DO (laid by wip/gen/spec.py) -/
/-- T_fare -/
def pf_0 (vs : List Value) (σ : ev_W) : Option sp_P := match vs with
  | [.int a, .int b] => some (sp_i True (fun _ => True) σ)
  | _ => none
/-- T_isUpTo -/
def pf_1 (vs : List Value) (σ : ev_W) : Option sp_P := match vs with
  | [.int n, .int t] => some (sp_e (sp_upto n t) σ)
  | _ => none
/-- T_journeyPlace -/
def pf_2 (vs : List Value) (σ : ev_W) : Option sp_P := match vs with
  | [.int a] => some (sp_i True (fun _ => True) σ)
  | _ => none
/-- T_manner -/
def pf_3 (vs : List Value) (σ : ev_W) : Option sp_P := match vs with
  | [.ref 0, .int a, .int b] => some (sp_i True (fun _ => True) σ)
  | _ => none
/-- T_now -/
def pf_4 (vs : List Value) (σ : ev_W) : Option sp_P := match vs with
  | [.ref 0] => some (sp_i (sp_inv σ) (fun _ => True) σ)
  | _ => none
/-- T_reason -/
def pf_5 (vs : List Value) (σ : ev_W) : Option sp_P := match vs with
  | [.ref 0] => some (sp_e (σ.1 0 5) σ)
  | _ => none
/-- T_refuse -/
def pf_6 (vs : List Value) (σ : ev_W) : Option sp_P := match vs with
  | [.ref 0, .int a] => some (sp_m True (fun v σ' => v = 3 ∧ σ' = ev_up σ 0 5 a))
  | _ => none
/-- M_addToSum -/
def pf_7 (vs : List Value) (σ : ev_W) : Option sp_P := match vs with
  | [.int a, .int b] => some (sp_e (sp_add a b) σ)
  | _ => none
/-- M_at -/
def pf_8 (vs : List Value) (σ : ev_W) : Option sp_P := match vs with
  | [.ref 1, .int b, .int w] => some (sp_e (sp_at σ b w) σ)
  | _ => none
/-- M_comeNear -/
def pf_9 (vs : List Value) (σ : ev_W) : Option sp_P := match vs with
  | [.ref 1] => some (sp_v True (fun σ' => σ' = ev_up σ 1 4 1))
  | _ => none
/-- M_goAway -/
def pf_11 (vs : List Value) (σ : ev_W) : Option sp_P := match vs with
  | [.ref 1] => some (sp_v True (fun σ' => σ' = ev_up (ev_up σ 1 4 0) 1 5 0))
  | _ => none
/-- M_isNear -/
def pf_12 (vs : List Value) (σ : ev_W) : Option sp_P := match vs with
  | [.ref 1] => some ((sp_b (σ.1 1 4), (sp_e (σ.1 1 4) σ).2))
  | _ => none
/-- M_timesTorn -/
def pf_15 (vs : List Value) (σ : ev_W) : Option sp_P := match vs with
  | [.ref 1] => some (sp_e (σ.1 1 3) σ)
  | _ => none
/-- M_wordsWritten -/
def pf_17 (vs : List Value) (σ : ev_W) : Option sp_P := match vs with
  | [.ref 1] => some (sp_e (σ.1 1 2) σ)
  | _ => none
/-- M_twinOf -/
def pf_16 (vs : List Value) (σ : ev_W) : Option sp_P := match vs with
  | [.int a, .int b] => some (sp_i True (fun _ => True) σ)
  | _ => none
/-- J_bitCount -/
def pf_33 (vs : List Value) (σ : ev_W) : Option sp_P := match vs with
  | [.int a] => some (sp_i True (fun v => a = 0 → v = 0) σ)
  | _ => none
/-- J_max -/
def pf_34 (vs : List Value) (σ : ev_W) : Option sp_P := match vs with
  | [.int a, .int b] => some (sp_e (if a < b then b else a) σ)
  | _ => none
/-- J_min -/
def pf_35 (vs : List Value) (σ : ev_W) : Option sp_P := match vs with
  | [.int a, .int b] => some (sp_e (if b < a then b else a) σ)
  | _ => none
/-- T_beganAt -/
def pf_37 (vs : List Value) (σ : ev_W) : Option sp_P := match vs with
  | [.ref 0, .int a] => some (sp_i True (fun _ => True) σ)
  | _ => none
/-- T_beganMinuteOf -/
def pf_38 (vs : List Value) (σ : ev_W) : Option sp_P := match vs with
  | [.ref 0, .int a] => some (sp_i True (fun _ => True) σ)
  | _ => none
/-- T_centsOf -/
def pf_40 (vs : List Value) (σ : ev_W) : Option sp_P := match vs with
  | [.ref 0, .int a] => some (sp_i True (fun _ => True) σ)
  | _ => none
/-- T_codeOf -/
def pf_42 (vs : List Value) (σ : ev_W) : Option sp_P := match vs with
  | [.ref 0, .int a] => some (sp_i True (fun _ => True) σ)
  | _ => none
/-- T_counterOf -/
def pf_43 (vs : List Value) (σ : ev_W) : Option sp_P := match vs with
  | [.ref 0, .int a] => some (sp_i True (fun _ => True) σ)
  | _ => none
/-- T_directionOf -/
def pf_44 (vs : List Value) (σ : ev_W) : Option sp_P := match vs with
  | [.ref 0, .int a] => some (sp_i True (fun _ => True) σ)
  | _ => none
/-- T_gateOf -/
def pf_47 (vs : List Value) (σ : ev_W) : Option sp_P := match vs with
  | [.ref 0, .int a] => some (sp_i True (fun _ => True) σ)
  | _ => none
/-- T_lineOf -/
def pf_52 (vs : List Value) (σ : ev_W) : Option sp_P := match vs with
  | [.ref 0, .int a] => some (sp_i True (fun _ => True) σ)
  | _ => none
/-- T_numberOf -/
def pf_53 (vs : List Value) (σ : ev_W) : Option sp_P := match vs with
  | [.ref 0, .int a] => some (sp_i True (fun _ => True) σ)
  | _ => none
/-- T_usedOf -/
def pf_55 (vs : List Value) (σ : ev_W) : Option sp_P := match vs with
  | [.ref 0, .int a] => some (sp_i True (fun _ => True) σ)
  | _ => none
/-- T_zoneOf -/
def pf_56 (vs : List Value) (σ : ev_W) : Option sp_P := match vs with
  | [.ref 0, .int a] => some (sp_i True (fun _ => True) σ)
  | _ => none
/-- T_chargedOn -/
def pf_41 (vs : List Value) (σ : ev_W) : Option sp_P := match vs with
  | [.ref 0, .int a, .int b] => some (sp_i True (fun _ => True) σ)
  | _ => none
/-- T_isGate -/
def pf_48 (vs : List Value) (σ : ev_W) : Option sp_P := match vs with
  | [.int n] => some (sp_e (sp_upto n 11) σ)
  | _ => none
/-- T_kindOfTag -/
def pf_51 (vs : List Value) (σ : ev_W) : Option sp_P := match vs with
  | [.ref 0] => some (sp_e (sp_at σ 0 0) σ)
  | _ => none
/-- T_parameter -/
def pf_54 (vs : List Value) (σ : ev_W) : Option sp_P := match vs with
  | [.ref 0, .int a] => some (sp_e (sp_at σ 0 a) σ)
  | _ => none
/-- T_isTime -/
def pf_50 (vs : List Value) (σ : ev_W) : Option sp_P := match vs with
  | [.int a, .int b] => some (sp_e (sp_time a b) σ)
  | _ => none
/-- T_bitsOn -/
def pf_39 (vs : List Value) (σ : ev_W) : Option sp_P := match vs with
  | [.ref 0] => some (sp_i True (fun v => sp_zero σ → v = 0) σ)
  | _ => none
/-- M_isRight -/
def pf_57 (vs : List Value) (σ : ev_W) : Option sp_P := match vs with
  | [.ref 1, .int r] => some (sp_i True (fun v => sp_b v ∧ (sp_zero σ → v = 0)) σ)
  | _ => none
def pg_F : ev_F := fun j vs σ => match j with
  | 0 => pf_0 vs σ
  | 1 => pf_1 vs σ
  | 2 => pf_2 vs σ
  | 3 => pf_3 vs σ
  | 4 => pf_4 vs σ
  | 5 => pf_5 vs σ
  | 6 => pf_6 vs σ
  | 7 => pf_7 vs σ
  | 8 => pf_8 vs σ
  | 9 => pf_9 vs σ
  | 11 => pf_11 vs σ
  | 12 => pf_12 vs σ
  | 15 => pf_15 vs σ
  | 16 => pf_16 vs σ
  | 17 => pf_17 vs σ
  | 33 => pf_33 vs σ
  | 34 => pf_34 vs σ
  | 35 => pf_35 vs σ
  | 37 => pf_37 vs σ
  | 38 => pf_38 vs σ
  | 39 => pf_39 vs σ
  | 40 => pf_40 vs σ
  | 41 => pf_41 vs σ
  | 42 => pf_42 vs σ
  | 43 => pf_43 vs σ
  | 44 => pf_44 vs σ
  | 47 => pf_47 vs σ
  | 48 => pf_48 vs σ
  | 50 => pf_50 vs σ
  | 51 => pf_51 vs σ
  | 52 => pf_52 vs σ
  | 53 => pf_53 vs σ
  | 54 => pf_54 vs σ
  | 55 => pf_55 vs σ
  | 56 => pf_56 vs σ
  | 57 => pf_57 vs σ
  | _ => none
