/-! printed by wip/p33/j2p.py out of the Java texts and the listing -/
theorem ml_X8_init_1 : Cond.methodLink RX8 1 objectInit ∈ wsX8_init := by decide +kernel
theorem mo_X8_init : Cond.instanceMethod objectInit ∈ wsX8_init := by decide +kernel
theorem mc_X8_init : Cond.code objectInit ⟨#[0xb1]⟩ 1 none ∈ wsX8_init := by decide +kernel
theorem in_X8_init_X6 : ∀ w ∈ u_ws RX6 TX6 6, w ∈ wsX8_init := by decide +kernel
theorem cl_X8_init_7 : Cond.classLink RX8 7 RX6 ∈ wsX8_init := by decide +kernel
theorem it_X8_init_X6 : Cond.instantiable RX6 6 ∈ wsX8_init := by decide +kernel
theorem ii_X8_init_X6 : Cond.initialized RX6 ∈ wsX8_init := by decide +kernel
theorem ml_X8_init_9 : Cond.methodLink RX8 9 yX6_init ∈ wsX8_init := by decide +kernel
theorem mi_X8_init_X6_init : Cond.instanceMethod yX6_init ∈ wsX8_init := by decide +kernel
theorem in_X8_init_X8 : ∀ w ∈ u_ws RX8 TX8 11, w ∈ wsX8_init := by decide +kernel
theorem lk_X8_init_10 : Cond.fieldLink RX8 10 RX8 "now" "LStairKin$Stairs;" ∈ wsX8_init := by decide +kernel
theorem lk_X8_init_16 : Cond.fieldLink RX8 16 RX8 "trial" "LStairKin$Stairs;" ∈ wsX8_init := by decide +kernel
theorem lk_X8_init_19 : Cond.fieldLink RX8 19 RX8 "snapshot" "LStairKin$Stairs;" ∈ wsX8_init := by decide +kernel
theorem in_X8_init_X3 : ∀ w ∈ u_ws RX3 TX3 3, w ∈ wsX8_init := by decide +kernel
theorem cl_X8_init_22 : Cond.classLink RX8 22 RX3 ∈ wsX8_init := by decide +kernel
theorem it_X8_init_X3 : Cond.instantiable RX3 3 ∈ wsX8_init := by decide +kernel
theorem ii_X8_init_X3 : Cond.initialized RX3 ∈ wsX8_init := by decide +kernel
theorem ml_X8_init_24 : Cond.methodLink RX8 24 yX3_init ∈ wsX8_init := by decide +kernel
theorem mi_X8_init_X3_init : Cond.instanceMethod yX3_init ∈ wsX8_init := by decide +kernel
theorem lk_X8_init_25 : Cond.fieldLink RX8 25 RX8 "history" "LStairKin$History;" ∈ wsX8_init := by decide +kernel
theorem in_X8_init_X4 : ∀ w ∈ u_ws RX4 TX4 9, w ∈ wsX8_init := by decide +kernel
theorem cl_X8_init_29 : Cond.classLink RX8 29 RX4 ∈ wsX8_init := by decide +kernel
theorem it_X8_init_X4 : Cond.instantiable RX4 9 ∈ wsX8_init := by decide +kernel
theorem ii_X8_init_X4 : Cond.initialized RX4 ∈ wsX8_init := by decide +kernel
theorem ml_X8_init_31 : Cond.methodLink RX8 31 yX4_init ∈ wsX8_init := by decide +kernel
theorem mi_X8_init_X4_init : Cond.instanceMethod yX4_init ∈ wsX8_init := by decide +kernel
theorem lk_X8_init_32 : Cond.fieldLink RX8 32 RX8 "pad" "LStairKin$Pad;" ∈ wsX8_init := by decide +kernel
theorem in_X8_init_X2 : ∀ w ∈ u_ws RX2 TX2 2, w ∈ wsX8_init := by decide +kernel
theorem cl_X8_init_36 : Cond.classLink RX8 36 RX2 ∈ wsX8_init := by decide +kernel
theorem it_X8_init_X2 : Cond.instantiable RX2 2 ∈ wsX8_init := by decide +kernel
theorem ii_X8_init_X2 : Cond.initialized RX2 ∈ wsX8_init := by decide +kernel
theorem ml_X8_init_38 : Cond.methodLink RX8 38 yX2_init ∈ wsX8_init := by decide +kernel
theorem mi_X8_init_X2_init : Cond.instanceMethod yX2_init ∈ wsX8_init := by decide +kernel
theorem lk_X8_init_39 : Cond.fieldLink RX8 39 RX8 "families" "LStairKin$Families;" ∈ wsX8_init := by decide +kernel
theorem in_X8_init_X1 : ∀ w ∈ u_ws RX1 TX1 8, w ∈ wsX8_init := by decide +kernel
theorem cl_X8_init_43 : Cond.classLink RX8 43 RX1 ∈ wsX8_init := by decide +kernel
theorem it_X8_init_X1 : Cond.instantiable RX1 8 ∈ wsX8_init := by decide +kernel
theorem ii_X8_init_X1 : Cond.initialized RX1 ∈ wsX8_init := by decide +kernel
theorem ml_X8_init_45 : Cond.methodLink RX8 45 yX1_init ∈ wsX8_init := by decide +kernel
theorem mi_X8_init_X1_init : Cond.instanceMethod yX1_init ∈ wsX8_init := by decide +kernel
theorem lk_X8_init_46 : Cond.fieldLink RX8 46 RX8 "ways" "LStairKin$Climbs;" ∈ wsX8_init := by decide +kernel
def B_X8_init : sStm :=
  (s_seq (s_seq (s_super (e_r 0))
    (s_seq (s_putR 6 0 (e_r 0) (e_new 5 [.null, .null, .int 0, .int 0, .int 0, .int 0] M_X6_init a_nil))
    (s_seq (s_putR 6 1 (e_r 0) (e_new 5 [.null, .null, .int 0, .int 0, .int 0, .int 0] M_X6_init a_nil))
    (s_seq (s_putR 6 2 (e_r 0) (e_new 5 [.null, .null, .int 0, .int 0, .int 0, .int 0] M_X6_init a_nil))
    (s_seq (s_putR 6 4 (e_r 0) (e_new 3 [.null, .int 0, .int 0] M_X3_init a_nil))
    (s_seq (s_putR 6 5 (e_r 0) (e_new 4 [.null, .int 0, .int 0, .int 0, .int 0, .int 0, .int 0, .int 0, .int 0] M_X4_init a_nil))
    (s_seq (s_putR 6 6 (e_r 0) (e_new 2 [.null, .int 0] M_X2_init a_nil))
    (s_putR 6 7 (e_r 0) (e_new 1 [.null, .int 0, .int 0, .int 0, .int 0, .null, .null, .null] M_X1_init a_nil)))))))))
    s_ret0)
def M_X8_init : sSem := m_of 1 B_X8_init
set_option maxRecDepth 100000 in
set_option maxHeartbeats 4000000 in
theorem S_X8_init : sSS (cX8_init, wsX8_init, RX8, none, 4, 81, 1, vwCl, RX6, true) 0 0 B_X8_init :=
  (ss_seq (pcA := 81) (ss_seq (pcA := 4) (ss_objInit (pcA := 1) (se_aload_n dX8_init_0 rfl rfl) ml_X8_init_1 mo_X8_init mc_X8_init dX8_init_1 ⟨(Nat.le_of_ble_eq_true rfl), (Nat.le_of_ble_eq_true rfl)⟩ rfl)
    (ss_seq (pcA := 15) (ss_putRF (pcA := 5) (pcB := 12) (T := TX8) (index := 10) (se_aload_n dX8_init_4 rfl rfl) (se_new (pcD := 8) (pcB := 9) (pcA := 9) (ci := 5) (idn := 7) (index := 9) rfl in_X8_init_X6 tyX6 tyX6_ok cl_X8_init_7 it_X8_init_X6 ii_X8_init_X6 (fun j hj b => by rcases (show j = 0 ∨ j = 1 ∨ j = 2 ∨ j = 3 ∨ j = 4 ∨ j = 5 by omega) with rfl | rfl | rfl | rfl | rfl | rfl <;> rfl) rfl dX8_init_5 rfl dX8_init_8 rfl sa_nil T_X6_init gX8_init_X6_init rfl rfl ii_X8_init_X6 ml_X8_init_9 mi_X8_init_X6_init (by decide +kernel) (Nat.le_of_ble_eq_true rfl) (Nat.le_of_ble_eq_true rfl) s_Len0 (Nat.le_of_ble_eq_true rfl) dX8_init_9 rfl) rfl in_X8_init_X8 tyX8 tyX8_ok nmX8 (Nat.le_of_ble_eq_true rfl) lk_X8_init_10 rfl rfl rfl rfl (Or.inl ⟨_, rfl⟩) dX8_init_12 rfl)
    (ss_seq (pcA := 26) (ss_putRF (pcA := 16) (pcB := 23) (T := TX8) (index := 16) (se_aload_n dX8_init_15 rfl rfl) (se_new (pcD := 19) (pcB := 20) (pcA := 20) (ci := 5) (idn := 7) (index := 9) rfl in_X8_init_X6 tyX6 tyX6_ok cl_X8_init_7 it_X8_init_X6 ii_X8_init_X6 (fun j hj b => by rcases (show j = 0 ∨ j = 1 ∨ j = 2 ∨ j = 3 ∨ j = 4 ∨ j = 5 by omega) with rfl | rfl | rfl | rfl | rfl | rfl <;> rfl) rfl dX8_init_16 rfl dX8_init_19 rfl sa_nil T_X6_init gX8_init_X6_init rfl rfl ii_X8_init_X6 ml_X8_init_9 mi_X8_init_X6_init (by decide +kernel) (Nat.le_of_ble_eq_true rfl) (Nat.le_of_ble_eq_true rfl) s_Len0 (Nat.le_of_ble_eq_true rfl) dX8_init_20 rfl) rfl in_X8_init_X8 tyX8 tyX8_ok nmX8 (Nat.le_of_ble_eq_true rfl) lk_X8_init_16 rfl rfl rfl rfl (Or.inl ⟨_, rfl⟩) dX8_init_23 rfl)
    (ss_seq (pcA := 37) (ss_putRF (pcA := 27) (pcB := 34) (T := TX8) (index := 19) (se_aload_n dX8_init_26 rfl rfl) (se_new (pcD := 30) (pcB := 31) (pcA := 31) (ci := 5) (idn := 7) (index := 9) rfl in_X8_init_X6 tyX6 tyX6_ok cl_X8_init_7 it_X8_init_X6 ii_X8_init_X6 (fun j hj b => by rcases (show j = 0 ∨ j = 1 ∨ j = 2 ∨ j = 3 ∨ j = 4 ∨ j = 5 by omega) with rfl | rfl | rfl | rfl | rfl | rfl <;> rfl) rfl dX8_init_27 rfl dX8_init_30 rfl sa_nil T_X6_init gX8_init_X6_init rfl rfl ii_X8_init_X6 ml_X8_init_9 mi_X8_init_X6_init (by decide +kernel) (Nat.le_of_ble_eq_true rfl) (Nat.le_of_ble_eq_true rfl) s_Len0 (Nat.le_of_ble_eq_true rfl) dX8_init_31 rfl) rfl in_X8_init_X8 tyX8 tyX8_ok nmX8 (Nat.le_of_ble_eq_true rfl) lk_X8_init_19 rfl rfl rfl rfl (Or.inl ⟨_, rfl⟩) dX8_init_34 rfl)
    (ss_seq (pcA := 48) (ss_putRF (pcA := 38) (pcB := 45) (T := TX8) (index := 25) (se_aload_n dX8_init_37 rfl rfl) (se_new (pcD := 41) (pcB := 42) (pcA := 42) (ci := 3) (idn := 22) (index := 24) rfl in_X8_init_X3 tyX3 tyX3_ok cl_X8_init_22 it_X8_init_X3 ii_X8_init_X3 (fun j hj b => by rcases (show j = 0 ∨ j = 1 ∨ j = 2 by omega) with rfl | rfl | rfl <;> rfl) rfl dX8_init_38 rfl dX8_init_41 rfl sa_nil T_X3_init gX8_init_X3_init rfl rfl ii_X8_init_X3 ml_X8_init_24 mi_X8_init_X3_init (by decide +kernel) (Nat.le_of_ble_eq_true rfl) (Nat.le_of_ble_eq_true rfl) s_Len0 (Nat.le_of_ble_eq_true rfl) dX8_init_42 rfl) rfl in_X8_init_X8 tyX8 tyX8_ok nmX8 (Nat.le_of_ble_eq_true rfl) lk_X8_init_25 rfl rfl rfl rfl (Or.inl ⟨_, rfl⟩) dX8_init_45 rfl)
    (ss_seq (pcA := 59) (ss_putRF (pcA := 49) (pcB := 56) (T := TX8) (index := 32) (se_aload_n dX8_init_48 rfl rfl) (se_new (pcD := 52) (pcB := 53) (pcA := 53) (ci := 4) (idn := 29) (index := 31) rfl in_X8_init_X4 tyX4 tyX4_ok cl_X8_init_29 it_X8_init_X4 ii_X8_init_X4 (fun j hj b => by rcases (show j = 0 ∨ j = 1 ∨ j = 2 ∨ j = 3 ∨ j = 4 ∨ j = 5 ∨ j = 6 ∨ j = 7 ∨ j = 8 by omega) with rfl | rfl | rfl | rfl | rfl | rfl | rfl | rfl | rfl <;> rfl) rfl dX8_init_49 rfl dX8_init_52 rfl sa_nil T_X4_init gX8_init_X4_init rfl rfl ii_X8_init_X4 ml_X8_init_31 mi_X8_init_X4_init (by decide +kernel) (Nat.le_of_ble_eq_true rfl) (Nat.le_of_ble_eq_true rfl) s_Len0 (Nat.le_of_ble_eq_true rfl) dX8_init_53 rfl) rfl in_X8_init_X8 tyX8 tyX8_ok nmX8 (Nat.le_of_ble_eq_true rfl) lk_X8_init_32 rfl rfl rfl rfl (Or.inl ⟨_, rfl⟩) dX8_init_56 rfl)
    (ss_seq (pcA := 70) (ss_putRF (pcA := 60) (pcB := 67) (T := TX8) (index := 39) (se_aload_n dX8_init_59 rfl rfl) (se_new (pcD := 63) (pcB := 64) (pcA := 64) (ci := 2) (idn := 36) (index := 38) rfl in_X8_init_X2 tyX2 tyX2_ok cl_X8_init_36 it_X8_init_X2 ii_X8_init_X2 (fun j hj b => by rcases (show j = 0 ∨ j = 1 by omega) with rfl | rfl <;> rfl) rfl dX8_init_60 rfl dX8_init_63 rfl sa_nil T_X2_init gX8_init_X2_init rfl rfl ii_X8_init_X2 ml_X8_init_38 mi_X8_init_X2_init (by decide +kernel) (Nat.le_of_ble_eq_true rfl) (Nat.le_of_ble_eq_true rfl) s_Len0 (Nat.le_of_ble_eq_true rfl) dX8_init_64 rfl) rfl in_X8_init_X8 tyX8 tyX8_ok nmX8 (Nat.le_of_ble_eq_true rfl) lk_X8_init_39 rfl rfl rfl rfl (Or.inl ⟨_, rfl⟩) dX8_init_67 rfl)
    (ss_putRF (pcA := 71) (pcB := 78) (T := TX8) (index := 46) (se_aload_n dX8_init_70 rfl rfl) (se_new (pcD := 74) (pcB := 75) (pcA := 75) (ci := 1) (idn := 43) (index := 45) rfl in_X8_init_X1 tyX1 tyX1_ok cl_X8_init_43 it_X8_init_X1 ii_X8_init_X1 (fun j hj b => by rcases (show j = 0 ∨ j = 1 ∨ j = 2 ∨ j = 3 ∨ j = 4 ∨ j = 5 ∨ j = 6 ∨ j = 7 by omega) with rfl | rfl | rfl | rfl | rfl | rfl | rfl | rfl <;> rfl) rfl dX8_init_71 rfl dX8_init_74 rfl sa_nil T_X1_init gX8_init_X1_init rfl rfl ii_X8_init_X1 ml_X8_init_45 mi_X8_init_X1_init (by decide +kernel) (Nat.le_of_ble_eq_true rfl) (Nat.le_of_ble_eq_true rfl) s_Len0 (Nat.le_of_ble_eq_true rfl) dX8_init_75 rfl) rfl in_X8_init_X8 tyX8 tyX8_ok nmX8 (Nat.le_of_ble_eq_true rfl) lk_X8_init_46 rfl rfl rfl rfl (Or.inl ⟨_, rfl⟩) dX8_init_78 rfl))))))))
    (ss_ret0 dX8_init_81 rfl))
theorem T_X8_init : sMet vwCl RX6 yX8_init wsX8_init 4 81 M_X8_init := sMet_of rfl (by decide +kernel) rfl rfl (fun _ => rfl) (m_of_run _ _) S_X8_init (m_of_cat _ _ (Nat.le_of_ble_eq_true rfl))
theorem in_X8_add_X8 : ∀ w ∈ u_ws RX8 TX8 11, w ∈ wsX8_add := by decide +kernel
theorem lk_X8_add_25 : Cond.fieldLink RX8 25 RX8 "history" "LStairKin$History;" ∈ wsX8_add := by decide +kernel
theorem lk_X8_add_10 : Cond.fieldLink RX8 10 RX8 "now" "LStairKin$Stairs;" ∈ wsX8_add := by decide +kernel
def B_X8_add : sStm :=
  (s_seq (s_callV M_X3_prepare (a_cr (e_getR 6 4 (e_r 0)) (a_cr (e_getR 6 0 (e_r 0)) a_nil)))
    (s_retI (e_callI M_X3_keep (a_cr (e_getR 6 4 (e_r 0)) (a_ci (e_callI M_X6_putIn (a_cr (e_getR 6 0 (e_r 0)) (a_ci (e_i 1) (a_ci (e_i 2) a_nil)))) a_nil)))))
def M_X8_add : sSem := m_ofV 6 3 B_X8_add
set_option maxRecDepth 100000 in
set_option maxHeartbeats 4000000 in
theorem S_X8_add : sSS (cX8_add, wsX8_add, RX8, (some .int), 5, 110, 3, vwCl, RX6, false) 0 0 B_X8_add :=
  (ss_seq (pcA := 11) (ss_callVV (pcA := 8) (ci := 3) (index := 50) (sa_cr (pcA := 4) (se_getR (pcA := 1) (T := TX8) (k := 4) (index := 25) (se_aload_n dX8_add_0 rfl rfl) rfl in_X8_add_X8 (Nat.le_of_ble_eq_true rfl) lk_X8_add_25 rfl dX8_add_1 rfl) (sa_cr (pcA := 8) (se_getR (pcA := 5) (T := TX8) (k := 0) (index := 10) (se_aload_n dX8_add_4 rfl rfl) rfl in_X8_add_X8 (Nat.le_of_ble_eq_true rfl) lk_X8_add_10 rfl dX8_add_5 rfl) sa_nil)) T_X3_prepare (s_Rcv_of 3 _ _) rfl gX8_add_X3_prepare rfl (by decide +kernel) (Nat.le_of_ble_eq_true rfl) (Nat.le_of_ble_eq_true rfl) (s_LenR (s_LenR s_Len0)) dX8_add_8 rfl)
    (ss_retI (pcA := 27) (se_callVI (pcA := 24) (ci := 3) (index := 58) (sa_cr (pcA := 15) (se_getR (pcA := 12) (T := TX8) (k := 4) (index := 25) (se_aload_n dX8_add_11 rfl rfl) rfl in_X8_add_X8 (Nat.le_of_ble_eq_true rfl) lk_X8_add_25 rfl dX8_add_12 rfl) (sa_ci (pcA := 24) (se_callVI (pcA := 21) (ci := 5) (index := 54) (sa_cr (pcA := 19) (se_getR (pcA := 16) (T := TX8) (k := 0) (index := 10) (se_aload_n dX8_add_15 rfl rfl) rfl in_X8_add_X8 (Nat.le_of_ble_eq_true rfl) lk_X8_add_10 rfl dX8_add_16 rfl) (sa_ci (pcA := 20) (se_iload_n dX8_add_19 rfl rfl) (sa_ci (pcA := 21) (se_iload_n dX8_add_20 rfl rfl) sa_nil))) T_X6_putIn (s_Rcv_of 5 _ _) rfl gX8_add_X6_putIn rfl (by decide +kernel) (Nat.le_of_ble_eq_true rfl) (Nat.le_of_ble_eq_true rfl) (s_LenR (s_LenI (s_LenI s_Len0))) (Nat.le_of_ble_eq_true rfl) dX8_add_21 rfl) sa_nil)) T_X3_keep (s_Rcv_of 3 _ _) rfl gX8_add_X3_keep rfl (by decide +kernel) (Nat.le_of_ble_eq_true rfl) (Nat.le_of_ble_eq_true rfl) (s_LenR (s_LenI s_Len0)) (Nat.le_of_ble_eq_true rfl) dX8_add_24 rfl) dX8_add_27 rfl))
theorem T_X8_add : sMet vwCl RX6 yX8_add wsX8_add 5 110 M_X8_add := sMet_of rfl (by decide +kernel) rfl rfl (fun h => by cases h) (m_ofV_run _ _ _) S_X8_add (m_ofV_cat _ _ _ (Nat.le_of_ble_eq_true rfl))
theorem in_X8_take_X8 : ∀ w ∈ u_ws RX8 TX8 11, w ∈ wsX8_take := by decide +kernel
theorem lk_X8_take_25 : Cond.fieldLink RX8 25 RX8 "history" "LStairKin$History;" ∈ wsX8_take := by decide +kernel
theorem lk_X8_take_10 : Cond.fieldLink RX8 10 RX8 "now" "LStairKin$Stairs;" ∈ wsX8_take := by decide +kernel
def B_X8_take : sStm :=
  (s_seq (s_callV M_X3_prepare (a_cr (e_getR 6 4 (e_r 0)) (a_cr (e_getR 6 0 (e_r 0)) a_nil)))
    (s_retI (e_callI M_X3_keep (a_cr (e_getR 6 4 (e_r 0)) (a_ci (e_callI M_X6_takeOff (a_cr (e_getR 6 0 (e_r 0)) (a_ci (e_i 1) a_nil))) a_nil)))))
def M_X8_take : sSem := m_ofV 6 2 B_X8_take
set_option maxRecDepth 100000 in
set_option maxHeartbeats 4000000 in
theorem S_X8_take : sSS (cX8_take, wsX8_take, RX8, (some .int), 5, 110, 2, vwCl, RX6, false) 0 0 B_X8_take :=
  (ss_seq (pcA := 11) (ss_callVV (pcA := 8) (ci := 3) (index := 50) (sa_cr (pcA := 4) (se_getR (pcA := 1) (T := TX8) (k := 4) (index := 25) (se_aload_n dX8_take_0 rfl rfl) rfl in_X8_take_X8 (Nat.le_of_ble_eq_true rfl) lk_X8_take_25 rfl dX8_take_1 rfl) (sa_cr (pcA := 8) (se_getR (pcA := 5) (T := TX8) (k := 0) (index := 10) (se_aload_n dX8_take_4 rfl rfl) rfl in_X8_take_X8 (Nat.le_of_ble_eq_true rfl) lk_X8_take_10 rfl dX8_take_5 rfl) sa_nil)) T_X3_prepare (s_Rcv_of 3 _ _) rfl gX8_take_X3_prepare rfl (by decide +kernel) (Nat.le_of_ble_eq_true rfl) (Nat.le_of_ble_eq_true rfl) (s_LenR (s_LenR s_Len0)) dX8_take_8 rfl)
    (ss_retI (pcA := 26) (se_callVI (pcA := 23) (ci := 3) (index := 58) (sa_cr (pcA := 15) (se_getR (pcA := 12) (T := TX8) (k := 4) (index := 25) (se_aload_n dX8_take_11 rfl rfl) rfl in_X8_take_X8 (Nat.le_of_ble_eq_true rfl) lk_X8_take_25 rfl dX8_take_12 rfl) (sa_ci (pcA := 23) (se_callVI (pcA := 20) (ci := 5) (index := 62) (sa_cr (pcA := 19) (se_getR (pcA := 16) (T := TX8) (k := 0) (index := 10) (se_aload_n dX8_take_15 rfl rfl) rfl in_X8_take_X8 (Nat.le_of_ble_eq_true rfl) lk_X8_take_10 rfl dX8_take_16 rfl) (sa_ci (pcA := 20) (se_iload_n dX8_take_19 rfl rfl) sa_nil)) T_X6_takeOff (s_Rcv_of 5 _ _) rfl gX8_take_X6_takeOff rfl (by decide +kernel) (Nat.le_of_ble_eq_true rfl) (Nat.le_of_ble_eq_true rfl) (s_LenR (s_LenI s_Len0)) (Nat.le_of_ble_eq_true rfl) dX8_take_20 rfl) sa_nil)) T_X3_keep (s_Rcv_of 3 _ _) rfl gX8_take_X3_keep rfl (by decide +kernel) (Nat.le_of_ble_eq_true rfl) (Nat.le_of_ble_eq_true rfl) (s_LenR (s_LenI s_Len0)) (Nat.le_of_ble_eq_true rfl) dX8_take_23 rfl) dX8_take_26 rfl))
theorem T_X8_take : sMet vwCl RX6 yX8_take wsX8_take 5 110 M_X8_take := sMet_of rfl (by decide +kernel) rfl rfl (fun h => by cases h) (m_ofV_run _ _ _) S_X8_take (m_ofV_cat _ _ _ (Nat.le_of_ble_eq_true rfl))
theorem in_X8_share_X8 : ∀ w ∈ u_ws RX8 TX8 11, w ∈ wsX8_share := by decide +kernel
theorem lk_X8_share_25 : Cond.fieldLink RX8 25 RX8 "history" "LStairKin$History;" ∈ wsX8_share := by decide +kernel
theorem lk_X8_share_10 : Cond.fieldLink RX8 10 RX8 "now" "LStairKin$Stairs;" ∈ wsX8_share := by decide +kernel
def B_X8_share : sStm :=
  (s_seq (s_callV M_X3_prepare (a_cr (e_getR 6 4 (e_r 0)) (a_cr (e_getR 6 0 (e_r 0)) a_nil)))
    (s_retI (e_callI M_X3_keep (a_cr (e_getR 6 4 (e_r 0)) (a_ci (e_callI M_X6_shareAt (a_cr (e_getR 6 0 (e_r 0)) (a_ci (e_i 1) a_nil))) a_nil)))))
def M_X8_share : sSem := m_ofV 6 2 B_X8_share
set_option maxRecDepth 100000 in
set_option maxHeartbeats 4000000 in
theorem S_X8_share : sSS (cX8_share, wsX8_share, RX8, (some .int), 5, 110, 2, vwCl, RX6, false) 0 0 B_X8_share :=
  (ss_seq (pcA := 11) (ss_callVV (pcA := 8) (ci := 3) (index := 50) (sa_cr (pcA := 4) (se_getR (pcA := 1) (T := TX8) (k := 4) (index := 25) (se_aload_n dX8_share_0 rfl rfl) rfl in_X8_share_X8 (Nat.le_of_ble_eq_true rfl) lk_X8_share_25 rfl dX8_share_1 rfl) (sa_cr (pcA := 8) (se_getR (pcA := 5) (T := TX8) (k := 0) (index := 10) (se_aload_n dX8_share_4 rfl rfl) rfl in_X8_share_X8 (Nat.le_of_ble_eq_true rfl) lk_X8_share_10 rfl dX8_share_5 rfl) sa_nil)) T_X3_prepare (s_Rcv_of 3 _ _) rfl gX8_share_X3_prepare rfl (by decide +kernel) (Nat.le_of_ble_eq_true rfl) (Nat.le_of_ble_eq_true rfl) (s_LenR (s_LenR s_Len0)) dX8_share_8 rfl)
    (ss_retI (pcA := 26) (se_callVI (pcA := 23) (ci := 3) (index := 58) (sa_cr (pcA := 15) (se_getR (pcA := 12) (T := TX8) (k := 4) (index := 25) (se_aload_n dX8_share_11 rfl rfl) rfl in_X8_share_X8 (Nat.le_of_ble_eq_true rfl) lk_X8_share_25 rfl dX8_share_12 rfl) (sa_ci (pcA := 23) (se_callVI (pcA := 20) (ci := 5) (index := 65) (sa_cr (pcA := 19) (se_getR (pcA := 16) (T := TX8) (k := 0) (index := 10) (se_aload_n dX8_share_15 rfl rfl) rfl in_X8_share_X8 (Nat.le_of_ble_eq_true rfl) lk_X8_share_10 rfl dX8_share_16 rfl) (sa_ci (pcA := 20) (se_iload_n dX8_share_19 rfl rfl) sa_nil)) T_X6_shareAt (s_Rcv_of 5 _ _) rfl gX8_share_X6_shareAt rfl (by decide +kernel) (Nat.le_of_ble_eq_true rfl) (Nat.le_of_ble_eq_true rfl) (s_LenR (s_LenI s_Len0)) (Nat.le_of_ble_eq_true rfl) dX8_share_20 rfl) sa_nil)) T_X3_keep (s_Rcv_of 3 _ _) rfl gX8_share_X3_keep rfl (by decide +kernel) (Nat.le_of_ble_eq_true rfl) (Nat.le_of_ble_eq_true rfl) (s_LenR (s_LenI s_Len0)) (Nat.le_of_ble_eq_true rfl) dX8_share_23 rfl) dX8_share_26 rfl))
theorem T_X8_share : sMet vwCl RX6 yX8_share wsX8_share 5 110 M_X8_share := sMet_of rfl (by decide +kernel) rfl rfl (fun h => by cases h) (m_ofV_run _ _ _) S_X8_share (m_ofV_cat _ _ _ (Nat.le_of_ble_eq_true rfl))
theorem in_X8_divide_X8 : ∀ w ∈ u_ws RX8 TX8 11, w ∈ wsX8_divide := by decide +kernel
theorem lk_X8_divide_25 : Cond.fieldLink RX8 25 RX8 "history" "LStairKin$History;" ∈ wsX8_divide := by decide +kernel
theorem lk_X8_divide_10 : Cond.fieldLink RX8 10 RX8 "now" "LStairKin$Stairs;" ∈ wsX8_divide := by decide +kernel
def B_X8_divide : sStm :=
  (s_seq (s_callV M_X3_prepare (a_cr (e_getR 6 4 (e_r 0)) (a_cr (e_getR 6 0 (e_r 0)) a_nil)))
    (s_retI (e_callI M_X3_keep (a_cr (e_getR 6 4 (e_r 0)) (a_ci (e_callI M_X6_divideAt (a_cr (e_getR 6 0 (e_r 0)) (a_ci (e_i 1) a_nil))) a_nil)))))
def M_X8_divide : sSem := m_ofV 6 2 B_X8_divide
set_option maxRecDepth 100000 in
set_option maxHeartbeats 4000000 in
theorem S_X8_divide : sSS (cX8_divide, wsX8_divide, RX8, (some .int), 5, 118, 2, vwCl, RX6, false) 0 0 B_X8_divide :=
  (ss_seq (pcA := 11) (ss_callVV (pcA := 8) (ci := 3) (index := 50) (sa_cr (pcA := 4) (se_getR (pcA := 1) (T := TX8) (k := 4) (index := 25) (se_aload_n dX8_divide_0 rfl rfl) rfl in_X8_divide_X8 (Nat.le_of_ble_eq_true rfl) lk_X8_divide_25 rfl dX8_divide_1 rfl) (sa_cr (pcA := 8) (se_getR (pcA := 5) (T := TX8) (k := 0) (index := 10) (se_aload_n dX8_divide_4 rfl rfl) rfl in_X8_divide_X8 (Nat.le_of_ble_eq_true rfl) lk_X8_divide_10 rfl dX8_divide_5 rfl) sa_nil)) T_X3_prepare (s_Rcv_of 3 _ _) rfl gX8_divide_X3_prepare rfl (by decide +kernel) (Nat.le_of_ble_eq_true rfl) (Nat.le_of_ble_eq_true rfl) (s_LenR (s_LenR s_Len0)) dX8_divide_8 rfl)
    (ss_retI (pcA := 26) (se_callVI (pcA := 23) (ci := 3) (index := 58) (sa_cr (pcA := 15) (se_getR (pcA := 12) (T := TX8) (k := 4) (index := 25) (se_aload_n dX8_divide_11 rfl rfl) rfl in_X8_divide_X8 (Nat.le_of_ble_eq_true rfl) lk_X8_divide_25 rfl dX8_divide_12 rfl) (sa_ci (pcA := 23) (se_callVI (pcA := 20) (ci := 5) (index := 68) (sa_cr (pcA := 19) (se_getR (pcA := 16) (T := TX8) (k := 0) (index := 10) (se_aload_n dX8_divide_15 rfl rfl) rfl in_X8_divide_X8 (Nat.le_of_ble_eq_true rfl) lk_X8_divide_10 rfl dX8_divide_16 rfl) (sa_ci (pcA := 20) (se_iload_n dX8_divide_19 rfl rfl) sa_nil)) T_X6_divideAt (s_Rcv_of 5 _ _) rfl gX8_divide_X6_divideAt rfl (by decide +kernel) (Nat.le_of_ble_eq_true rfl) (Nat.le_of_ble_eq_true rfl) (s_LenR (s_LenI s_Len0)) (Nat.le_of_ble_eq_true rfl) dX8_divide_20 rfl) sa_nil)) T_X3_keep (s_Rcv_of 3 _ _) rfl gX8_divide_X3_keep rfl (by decide +kernel) (Nat.le_of_ble_eq_true rfl) (Nat.le_of_ble_eq_true rfl) (s_LenR (s_LenI s_Len0)) (Nat.le_of_ble_eq_true rfl) dX8_divide_23 rfl) dX8_divide_26 rfl))
theorem T_X8_divide : sMet vwCl RX6 yX8_divide wsX8_divide 5 118 M_X8_divide := sMet_of rfl (by decide +kernel) rfl rfl (fun h => by cases h) (m_ofV_run _ _ _) S_X8_divide (m_ofV_cat _ _ _ (Nat.le_of_ble_eq_true rfl))
theorem in_X8_strike_X8 : ∀ w ∈ u_ws RX8 TX8 11, w ∈ wsX8_strike := by decide +kernel
theorem lk_X8_strike_25 : Cond.fieldLink RX8 25 RX8 "history" "LStairKin$History;" ∈ wsX8_strike := by decide +kernel
theorem lk_X8_strike_10 : Cond.fieldLink RX8 10 RX8 "now" "LStairKin$Stairs;" ∈ wsX8_strike := by decide +kernel
def B_X8_strike : sStm :=
  (s_seq (s_callV M_X3_prepare (a_cr (e_getR 6 4 (e_r 0)) (a_cr (e_getR 6 0 (e_r 0)) a_nil)))
    (s_retI (e_callI M_X3_keep (a_cr (e_getR 6 4 (e_r 0)) (a_ci (e_callI M_X6_strikeBy (a_cr (e_getR 6 0 (e_r 0)) (a_ci (e_i 1) (a_ci (e_i 2) a_nil)))) a_nil)))))
def M_X8_strike : sSem := m_ofV 6 3 B_X8_strike
set_option maxRecDepth 100000 in
set_option maxHeartbeats 4000000 in
theorem S_X8_strike : sSS (cX8_strike, wsX8_strike, RX8, (some .int), 5, 118, 3, vwCl, RX6, false) 0 0 B_X8_strike :=
  (ss_seq (pcA := 11) (ss_callVV (pcA := 8) (ci := 3) (index := 50) (sa_cr (pcA := 4) (se_getR (pcA := 1) (T := TX8) (k := 4) (index := 25) (se_aload_n dX8_strike_0 rfl rfl) rfl in_X8_strike_X8 (Nat.le_of_ble_eq_true rfl) lk_X8_strike_25 rfl dX8_strike_1 rfl) (sa_cr (pcA := 8) (se_getR (pcA := 5) (T := TX8) (k := 0) (index := 10) (se_aload_n dX8_strike_4 rfl rfl) rfl in_X8_strike_X8 (Nat.le_of_ble_eq_true rfl) lk_X8_strike_10 rfl dX8_strike_5 rfl) sa_nil)) T_X3_prepare (s_Rcv_of 3 _ _) rfl gX8_strike_X3_prepare rfl (by decide +kernel) (Nat.le_of_ble_eq_true rfl) (Nat.le_of_ble_eq_true rfl) (s_LenR (s_LenR s_Len0)) dX8_strike_8 rfl)
    (ss_retI (pcA := 27) (se_callVI (pcA := 24) (ci := 3) (index := 58) (sa_cr (pcA := 15) (se_getR (pcA := 12) (T := TX8) (k := 4) (index := 25) (se_aload_n dX8_strike_11 rfl rfl) rfl in_X8_strike_X8 (Nat.le_of_ble_eq_true rfl) lk_X8_strike_25 rfl dX8_strike_12 rfl) (sa_ci (pcA := 24) (se_callVI (pcA := 21) (ci := 5) (index := 71) (sa_cr (pcA := 19) (se_getR (pcA := 16) (T := TX8) (k := 0) (index := 10) (se_aload_n dX8_strike_15 rfl rfl) rfl in_X8_strike_X8 (Nat.le_of_ble_eq_true rfl) lk_X8_strike_10 rfl dX8_strike_16 rfl) (sa_ci (pcA := 20) (se_iload_n dX8_strike_19 rfl rfl) (sa_ci (pcA := 21) (se_iload_n dX8_strike_20 rfl rfl) sa_nil))) T_X6_strikeBy (s_Rcv_of 5 _ _) rfl gX8_strike_X6_strikeBy rfl (by decide +kernel) (Nat.le_of_ble_eq_true rfl) (Nat.le_of_ble_eq_true rfl) (s_LenR (s_LenI (s_LenI s_Len0))) (Nat.le_of_ble_eq_true rfl) dX8_strike_21 rfl) sa_nil)) T_X3_keep (s_Rcv_of 3 _ _) rfl gX8_strike_X3_keep rfl (by decide +kernel) (Nat.le_of_ble_eq_true rfl) (Nat.le_of_ble_eq_true rfl) (s_LenR (s_LenI s_Len0)) (Nat.le_of_ble_eq_true rfl) dX8_strike_24 rfl) dX8_strike_27 rfl))
theorem T_X8_strike : sMet vwCl RX6 yX8_strike wsX8_strike 5 118 M_X8_strike := sMet_of rfl (by decide +kernel) rfl rfl (fun h => by cases h) (m_ofV_run _ _ _) S_X8_strike (m_ofV_cat _ _ _ (Nat.le_of_ble_eq_true rfl))
theorem in_X8_settle_X8 : ∀ w ∈ u_ws RX8 TX8 11, w ∈ wsX8_settle := by decide +kernel
theorem lk_X8_settle_16 : Cond.fieldLink RX8 16 RX8 "trial" "LStairKin$Stairs;" ∈ wsX8_settle := by decide +kernel
theorem lk_X8_settle_10 : Cond.fieldLink RX8 10 RX8 "now" "LStairKin$Stairs;" ∈ wsX8_settle := by decide +kernel
theorem lk_X8_settle_25 : Cond.fieldLink RX8 25 RX8 "history" "LStairKin$History;" ∈ wsX8_settle := by decide +kernel
def B_X8_settle : sStm :=
  (s_seq (s_callV M_X6_copyFrom (a_cr (e_getR 6 1 (e_r 0)) (a_cr (e_getR 6 0 (e_r 0)) a_nil)))
    (s_seq (s_decI 1 (e_callI M_X6_shareInRounds (a_cr (e_getR 6 1 (e_r 0)) a_nil)))
    (s_seq (s_if (c_cmp0 i_lt (e_i 1))
    (s_retI (e_i 1)) s_skip)
    (s_seq (s_callV M_X3_prepare (a_cr (e_getR 6 4 (e_r 0)) (a_cr (e_getR 6 0 (e_r 0)) a_nil)))
    (s_seq (s_callV M_X6_copyFrom (a_cr (e_getR 6 0 (e_r 0)) (a_cr (e_getR 6 1 (e_r 0)) a_nil)))
    (s_retI (e_callI M_X3_keep (a_cr (e_getR 6 4 (e_r 0)) (a_ci (e_i 1) a_nil)))))))))
def M_X8_settle : sSem := m_ofV 6 1 B_X8_settle
set_option maxRecDepth 100000 in
set_option maxHeartbeats 4000000 in
theorem S_X8_settle : sSS (cX8_settle, wsX8_settle, RX8, (some .int), 5, 110, 2, vwCl, RX6, false) 0 0 B_X8_settle :=
  (ss_seq (pcA := 11) (ss_callVV (pcA := 8) (ci := 5) (index := 74) (sa_cr (pcA := 4) (se_getR (pcA := 1) (T := TX8) (k := 1) (index := 16) (se_aload_n dX8_settle_0 rfl rfl) rfl in_X8_settle_X8 (Nat.le_of_ble_eq_true rfl) lk_X8_settle_16 rfl dX8_settle_1 rfl) (sa_cr (pcA := 8) (se_getR (pcA := 5) (T := TX8) (k := 0) (index := 10) (se_aload_n dX8_settle_4 rfl rfl) rfl in_X8_settle_X8 (Nat.le_of_ble_eq_true rfl) lk_X8_settle_10 rfl dX8_settle_5 rfl) sa_nil)) T_X6_copyFrom (s_Rcv_of 5 _ _) rfl gX8_settle_X6_copyFrom rfl (by decide +kernel) (Nat.le_of_ble_eq_true rfl) (Nat.le_of_ble_eq_true rfl) (s_LenR (s_LenR s_Len0)) dX8_settle_8 rfl)
    (ss_seq (pcA := 19) (ss_decI_n (pcA := 18) (se_callVI (pcA := 15) (ci := 5) (index := 77) (sa_cr (pcA := 15) (se_getR (pcA := 12) (T := TX8) (k := 1) (index := 16) (se_aload_n dX8_settle_11 rfl rfl) rfl in_X8_settle_X8 (Nat.le_of_ble_eq_true rfl) lk_X8_settle_16 rfl dX8_settle_12 rfl) sa_nil) T_X6_shareInRounds (s_Rcv_of 5 _ _) rfl gX8_settle_X6_shareInRounds rfl (by decide +kernel) (Nat.le_of_ble_eq_true rfl) (Nat.le_of_ble_eq_true rfl) (s_LenR s_Len0) (Nat.le_of_ble_eq_true rfl) dX8_settle_15 rfl) dX8_settle_18 rfl (Nat.le_of_ble_eq_true rfl) rfl)
    (ss_seq (pcA := 25) (ss_if (pcT := 23) (pcF := 25) (sc_Flt0 (pcB := 20) (se_iload_n dX8_settle_19 rfl rfl) dX8_settle_20 rfl rfl)
    (ss_retI (pcA := 24) (se_iload_n dX8_settle_23 rfl rfl) dX8_settle_24 rfl) ss_skip)
    (ss_seq (pcA := 36) (ss_callVV (pcA := 33) (ci := 3) (index := 50) (sa_cr (pcA := 29) (se_getR (pcA := 26) (T := TX8) (k := 4) (index := 25) (se_aload_n dX8_settle_25 rfl rfl) rfl in_X8_settle_X8 (Nat.le_of_ble_eq_true rfl) lk_X8_settle_25 rfl dX8_settle_26 rfl) (sa_cr (pcA := 33) (se_getR (pcA := 30) (T := TX8) (k := 0) (index := 10) (se_aload_n dX8_settle_29 rfl rfl) rfl in_X8_settle_X8 (Nat.le_of_ble_eq_true rfl) lk_X8_settle_10 rfl dX8_settle_30 rfl) sa_nil)) T_X3_prepare (s_Rcv_of 3 _ _) rfl gX8_settle_X3_prepare rfl (by decide +kernel) (Nat.le_of_ble_eq_true rfl) (Nat.le_of_ble_eq_true rfl) (s_LenR (s_LenR s_Len0)) dX8_settle_33 rfl)
    (ss_seq (pcA := 47) (ss_callVV (pcA := 44) (ci := 5) (index := 74) (sa_cr (pcA := 40) (se_getR (pcA := 37) (T := TX8) (k := 0) (index := 10) (se_aload_n dX8_settle_36 rfl rfl) rfl in_X8_settle_X8 (Nat.le_of_ble_eq_true rfl) lk_X8_settle_10 rfl dX8_settle_37 rfl) (sa_cr (pcA := 44) (se_getR (pcA := 41) (T := TX8) (k := 1) (index := 16) (se_aload_n dX8_settle_40 rfl rfl) rfl in_X8_settle_X8 (Nat.le_of_ble_eq_true rfl) lk_X8_settle_16 rfl dX8_settle_41 rfl) sa_nil)) T_X6_copyFrom (s_Rcv_of 5 _ _) rfl gX8_settle_X6_copyFrom rfl (by decide +kernel) (Nat.le_of_ble_eq_true rfl) (Nat.le_of_ble_eq_true rfl) (s_LenR (s_LenR s_Len0)) dX8_settle_44 rfl)
    (ss_retI (pcA := 55) (se_callVI (pcA := 52) (ci := 3) (index := 58) (sa_cr (pcA := 51) (se_getR (pcA := 48) (T := TX8) (k := 4) (index := 25) (se_aload_n dX8_settle_47 rfl rfl) rfl in_X8_settle_X8 (Nat.le_of_ble_eq_true rfl) lk_X8_settle_25 rfl dX8_settle_48 rfl) (sa_ci (pcA := 52) (se_iload_n dX8_settle_51 rfl rfl) sa_nil)) T_X3_keep (s_Rcv_of 3 _ _) rfl gX8_settle_X3_keep rfl (by decide +kernel) (Nat.le_of_ble_eq_true rfl) (Nat.le_of_ble_eq_true rfl) (s_LenR (s_LenI s_Len0)) (Nat.le_of_ble_eq_true rfl) dX8_settle_52 rfl) dX8_settle_55 rfl))))))
theorem T_X8_settle : sMet vwCl RX6 yX8_settle wsX8_settle 5 110 M_X8_settle := sMet_of rfl (by decide +kernel) rfl rfl (fun h => by cases h) (m_ofV_run _ _ _) S_X8_settle (m_ofV_cat _ _ _ (Nat.le_of_ble_eq_true rfl))
theorem in_X8_set_X8 : ∀ w ∈ u_ws RX8 TX8 11, w ∈ wsX8_set := by decide +kernel
theorem lk_X8_set_25 : Cond.fieldLink RX8 25 RX8 "history" "LStairKin$History;" ∈ wsX8_set := by decide +kernel
theorem lk_X8_set_10 : Cond.fieldLink RX8 10 RX8 "now" "LStairKin$Stairs;" ∈ wsX8_set := by decide +kernel
def B_X8_set : sStm :=
  (s_seq (s_callV M_X3_prepare (a_cr (e_getR 6 4 (e_r 0)) (a_cr (e_getR 6 0 (e_r 0)) a_nil)))
    (s_retI (e_callI M_X3_keep (a_cr (e_getR 6 4 (e_r 0)) (a_ci (e_callI M_X6_changeSetting (a_cr (e_getR 6 0 (e_r 0)) (a_ci (e_i 1) (a_ci (e_i 2) a_nil)))) a_nil)))))
def M_X8_set : sSem := m_ofV 6 3 B_X8_set
set_option maxRecDepth 100000 in
set_option maxHeartbeats 4000000 in
theorem S_X8_set : sSS (cX8_set, wsX8_set, RX8, (some .int), 5, 110, 3, vwCl, RX6, false) 0 0 B_X8_set :=
  (ss_seq (pcA := 11) (ss_callVV (pcA := 8) (ci := 3) (index := 50) (sa_cr (pcA := 4) (se_getR (pcA := 1) (T := TX8) (k := 4) (index := 25) (se_aload_n dX8_set_0 rfl rfl) rfl in_X8_set_X8 (Nat.le_of_ble_eq_true rfl) lk_X8_set_25 rfl dX8_set_1 rfl) (sa_cr (pcA := 8) (se_getR (pcA := 5) (T := TX8) (k := 0) (index := 10) (se_aload_n dX8_set_4 rfl rfl) rfl in_X8_set_X8 (Nat.le_of_ble_eq_true rfl) lk_X8_set_10 rfl dX8_set_5 rfl) sa_nil)) T_X3_prepare (s_Rcv_of 3 _ _) rfl gX8_set_X3_prepare rfl (by decide +kernel) (Nat.le_of_ble_eq_true rfl) (Nat.le_of_ble_eq_true rfl) (s_LenR (s_LenR s_Len0)) dX8_set_8 rfl)
    (ss_retI (pcA := 27) (se_callVI (pcA := 24) (ci := 3) (index := 58) (sa_cr (pcA := 15) (se_getR (pcA := 12) (T := TX8) (k := 4) (index := 25) (se_aload_n dX8_set_11 rfl rfl) rfl in_X8_set_X8 (Nat.le_of_ble_eq_true rfl) lk_X8_set_25 rfl dX8_set_12 rfl) (sa_ci (pcA := 24) (se_callVI (pcA := 21) (ci := 5) (index := 81) (sa_cr (pcA := 19) (se_getR (pcA := 16) (T := TX8) (k := 0) (index := 10) (se_aload_n dX8_set_15 rfl rfl) rfl in_X8_set_X8 (Nat.le_of_ble_eq_true rfl) lk_X8_set_10 rfl dX8_set_16 rfl) (sa_ci (pcA := 20) (se_iload_n dX8_set_19 rfl rfl) (sa_ci (pcA := 21) (se_iload_n dX8_set_20 rfl rfl) sa_nil))) T_X6_changeSetting (s_Rcv_of 5 _ _) rfl gX8_set_X6_changeSetting rfl (by decide +kernel) (Nat.le_of_ble_eq_true rfl) (Nat.le_of_ble_eq_true rfl) (s_LenR (s_LenI (s_LenI s_Len0))) (Nat.le_of_ble_eq_true rfl) dX8_set_21 rfl) sa_nil)) T_X3_keep (s_Rcv_of 3 _ _) rfl gX8_set_X3_keep rfl (by decide +kernel) (Nat.le_of_ble_eq_true rfl) (Nat.le_of_ble_eq_true rfl) (s_LenR (s_LenI s_Len0)) (Nat.le_of_ble_eq_true rfl) dX8_set_24 rfl) dX8_set_27 rfl))
theorem T_X8_set : sMet vwCl RX6 yX8_set wsX8_set 5 110 M_X8_set := sMet_of rfl (by decide +kernel) rfl rfl (fun h => by cases h) (m_ofV_run _ _ _) S_X8_set (m_ofV_cat _ _ _ (Nat.le_of_ble_eq_true rfl))
theorem in_X8_step_X8 : ∀ w ∈ u_ws RX8 TX8 11, w ∈ wsX8_step := by decide +kernel
theorem lk_X8_step_10 : Cond.fieldLink RX8 10 RX8 "now" "LStairKin$Stairs;" ∈ wsX8_step := by decide +kernel
theorem lk_X8_step_39 : Cond.fieldLink RX8 39 RX8 "families" "LStairKin$Families;" ∈ wsX8_step := by decide +kernel
def B_X8_step : sStm :=
  (s_seq (s_if (c_or (c_or (c_not (c_cmp0 i_ne (e_callI M_X6_has (a_cr (e_getR 6 0 (e_r 0)) (a_ci (e_i 1) a_nil))))) (c_cmp0 i_lt (e_i 2))) (c_cmp i_gt (e_i 2) (e_k (nI 7))))
    (s_retI (e_k (-1))) s_skip)
    (s_seq (s_decI 3 (e_callI M_X6_numberOf (a_cr (e_getR 6 0 (e_r 0)) (a_ci (e_i 1) a_nil))))
    (s_sw (e_i 2) (fun x =>
    if x = nI 0 then (s_retI (e_i 3))
    else if x = nI 1 then (s_retI (e_callI M_X6_kinOf (a_cr (e_getR 6 0 (e_r 0)) (a_ci (e_i 1) a_nil))))
    else if x = nI 2 then (s_seq (s_callV M_X2_find (a_cr (e_getR 6 6 (e_r 0)) (a_cr (e_getR 6 0 (e_r 0)) a_nil)))
    (s_retI (e_callI M_X2_lowestOf (a_cr (e_getR 6 6 (e_r 0)) (a_ci (e_i 1) a_nil)))))
    else if x = nI 3 then (s_seq (s_callV M_X2_find (a_cr (e_getR 6 6 (e_r 0)) (a_cr (e_getR 6 0 (e_r 0)) a_nil)))
    (s_retI (e_callI M_X2_sizeOf (a_cr (e_getR 6 6 (e_r 0)) (a_ci (e_callI M_X2_lowestOf (a_cr (e_getR 6 6 (e_r 0)) (a_ci (e_i 1) a_nil))) a_nil)))))
    else if x = nI 4 then (s_retI (e_callI M_X7_factors (a_ci (e_i 3) a_nil)))
    else if x = nI 5 then (s_retI (e_callI M_X7_differentFactors (a_ci (e_i 3) a_nil)))
    else if x = nI 6 then (s_retI (e_if (c_cmp i_eq (e_i 3) (e_k (nI 1))) (e_k (-4)) (e_callI M_X7_greatestPrime (a_ci (e_i 3) a_nil))))
    else (s_retI (e_callI M_X6_leadsFrom (a_cr (e_getR 6 0 (e_r 0)) (a_ci (e_i 1) a_nil))))))))
def M_X8_step : sSem := m_ofV 6 3 B_X8_step
set_option maxRecDepth 100000 in
set_option maxHeartbeats 4000000 in
theorem S_X8_step : sSS (cX8_step, wsX8_step, RX8, (some .int), 5, 116, 4, vwCl, RX6, false) 0 0 B_X8_step :=
  (ss_seq (pcA := 23) (ss_if (pcT := 21) (pcF := 23) (sc_or (pcA := 15) (sc_or (pcA := 11) (sc_not (sc_Fne0 (pcB := 8) (se_callVI (pcA := 5) (ci := 5) (index := 138) (sa_cr (pcA := 4) (se_getR (pcA := 1) (T := TX8) (k := 0) (index := 10) (se_aload_n dX8_step_0 rfl rfl) rfl in_X8_step_X8 (Nat.le_of_ble_eq_true rfl) lk_X8_step_10 rfl dX8_step_1 rfl) (sa_ci (pcA := 5) (se_iload_n dX8_step_4 rfl rfl) sa_nil)) T_X6_has (s_Rcv_of 5 _ _) rfl gX8_step_X6_has rfl (by decide +kernel) (Nat.le_of_ble_eq_true rfl) (Nat.le_of_ble_eq_true rfl) (s_LenR (s_LenI s_Len0)) (Nat.le_of_ble_eq_true rfl) dX8_step_5 rfl) dX8_step_8 rfl rfl)) (sc_Tlt0 (pcB := 12) (se_iload_n dX8_step_11 rfl rfl) dX8_step_12 rfl rfl)) (sc_Fgt (pcA := 16) (pcB := 18) (se_iload_n dX8_step_15 rfl rfl) (se_bipush dX8_step_16 (by decide +kernel) rfl) dX8_step_18 rfl rfl))
    (ss_retI (pcA := 22) (se_iconst dX8_step_21 (by decide +kernel) rfl) dX8_step_22 rfl) ss_skip)
    (ss_seq (pcA := 32) (ss_decI_n (pcA := 31) (se_callVI (pcA := 28) (ci := 5) (index := 141) (sa_cr (pcA := 27) (se_getR (pcA := 24) (T := TX8) (k := 0) (index := 10) (se_aload_n dX8_step_23 rfl rfl) rfl in_X8_step_X8 (Nat.le_of_ble_eq_true rfl) lk_X8_step_10 rfl dX8_step_24 rfl) (sa_ci (pcA := 28) (se_iload_n dX8_step_27 rfl rfl) sa_nil)) T_X6_numberOf (s_Rcv_of 5 _ _) rfl gX8_step_X6_numberOf rfl (by decide +kernel) (Nat.le_of_ble_eq_true rfl) (Nat.le_of_ble_eq_true rfl) (s_LenR (s_LenI s_Len0)) (Nat.le_of_ble_eq_true rfl) dX8_step_28 rfl) dX8_step_31 rfl (Nat.le_of_ble_eq_true rfl) rfl)
    (ss_sw (pcA := 33) (se_iload_n dX8_step_32 rfl rfl) (by
    intro x
    by_cases h0 : x = nI 0
    · subst h0
      exact ⟨76, s_Goes_tab (off := 43) dX8_step_33 (by decide) (by decide) (by decide) rfl, (ss_retI (pcA := 77) (se_iload_n dX8_step_76 rfl rfl) dX8_step_77 rfl)⟩
    by_cases h1 : x = nI 1
    · subst h1
      exact ⟨78, s_Goes_tab (off := 45) dX8_step_33 (by decide) (by decide) (by decide) rfl, (ss_retI (pcA := 86) (se_callVI (pcA := 83) (ci := 5) (index := 144) (sa_cr (pcA := 82) (se_getR (pcA := 79) (T := TX8) (k := 0) (index := 10) (se_aload_n dX8_step_78 rfl rfl) rfl in_X8_step_X8 (Nat.le_of_ble_eq_true rfl) lk_X8_step_10 rfl dX8_step_79 rfl) (sa_ci (pcA := 83) (se_iload_n dX8_step_82 rfl rfl) sa_nil)) T_X6_kinOf (s_Rcv_of 5 _ _) rfl gX8_step_X6_kinOf rfl (by decide +kernel) (Nat.le_of_ble_eq_true rfl) (Nat.le_of_ble_eq_true rfl) (s_LenR (s_LenI s_Len0)) (Nat.le_of_ble_eq_true rfl) dX8_step_83 rfl) dX8_step_86 rfl)⟩
    by_cases h2 : x = nI 2
    · subst h2
      exact ⟨87, s_Goes_tab (off := 54) dX8_step_33 (by decide) (by decide) (by decide) rfl, (ss_seq (pcA := 98) (ss_callVV (pcA := 95) (ci := 2) (index := 147) (sa_cr (pcA := 91) (se_getR (pcA := 88) (T := TX8) (k := 6) (index := 39) (se_aload_n dX8_step_87 rfl rfl) rfl in_X8_step_X8 (Nat.le_of_ble_eq_true rfl) lk_X8_step_39 rfl dX8_step_88 rfl) (sa_cr (pcA := 95) (se_getR (pcA := 92) (T := TX8) (k := 0) (index := 10) (se_aload_n dX8_step_91 rfl rfl) rfl in_X8_step_X8 (Nat.le_of_ble_eq_true rfl) lk_X8_step_10 rfl dX8_step_92 rfl) sa_nil)) T_X2_find (s_Rcv_of 2 _ _) rfl gX8_step_X2_find rfl (by decide +kernel) (Nat.le_of_ble_eq_true rfl) (Nat.le_of_ble_eq_true rfl) (s_LenR (s_LenR s_Len0)) dX8_step_95 rfl)
    (ss_retI (pcA := 106) (se_callVI (pcA := 103) (ci := 2) (index := 150) (sa_cr (pcA := 102) (se_getR (pcA := 99) (T := TX8) (k := 6) (index := 39) (se_aload_n dX8_step_98 rfl rfl) rfl in_X8_step_X8 (Nat.le_of_ble_eq_true rfl) lk_X8_step_39 rfl dX8_step_99 rfl) (sa_ci (pcA := 103) (se_iload_n dX8_step_102 rfl rfl) sa_nil)) T_X2_lowestOf (s_Rcv_of 2 _ _) rfl gX8_step_X2_lowestOf rfl (by decide +kernel) (Nat.le_of_ble_eq_true rfl) (Nat.le_of_ble_eq_true rfl) (s_LenR (s_LenI s_Len0)) (Nat.le_of_ble_eq_true rfl) dX8_step_103 rfl) dX8_step_106 rfl))⟩
    by_cases h3 : x = nI 3
    · subst h3
      exact ⟨107, s_Goes_tab (off := 74) dX8_step_33 (by decide) (by decide) (by decide) rfl, (ss_seq (pcA := 118) (ss_callVV (pcA := 115) (ci := 2) (index := 147) (sa_cr (pcA := 111) (se_getR (pcA := 108) (T := TX8) (k := 6) (index := 39) (se_aload_n dX8_step_107 rfl rfl) rfl in_X8_step_X8 (Nat.le_of_ble_eq_true rfl) lk_X8_step_39 rfl dX8_step_108 rfl) (sa_cr (pcA := 115) (se_getR (pcA := 112) (T := TX8) (k := 0) (index := 10) (se_aload_n dX8_step_111 rfl rfl) rfl in_X8_step_X8 (Nat.le_of_ble_eq_true rfl) lk_X8_step_10 rfl dX8_step_112 rfl) sa_nil)) T_X2_find (s_Rcv_of 2 _ _) rfl gX8_step_X2_find rfl (by decide +kernel) (Nat.le_of_ble_eq_true rfl) (Nat.le_of_ble_eq_true rfl) (s_LenR (s_LenR s_Len0)) dX8_step_115 rfl)
    (ss_retI (pcA := 133) (se_callVI (pcA := 130) (ci := 2) (index := 153) (sa_cr (pcA := 122) (se_getR (pcA := 119) (T := TX8) (k := 6) (index := 39) (se_aload_n dX8_step_118 rfl rfl) rfl in_X8_step_X8 (Nat.le_of_ble_eq_true rfl) lk_X8_step_39 rfl dX8_step_119 rfl) (sa_ci (pcA := 130) (se_callVI (pcA := 127) (ci := 2) (index := 150) (sa_cr (pcA := 126) (se_getR (pcA := 123) (T := TX8) (k := 6) (index := 39) (se_aload_n dX8_step_122 rfl rfl) rfl in_X8_step_X8 (Nat.le_of_ble_eq_true rfl) lk_X8_step_39 rfl dX8_step_123 rfl) (sa_ci (pcA := 127) (se_iload_n dX8_step_126 rfl rfl) sa_nil)) T_X2_lowestOf (s_Rcv_of 2 _ _) rfl gX8_step_X2_lowestOf rfl (by decide +kernel) (Nat.le_of_ble_eq_true rfl) (Nat.le_of_ble_eq_true rfl) (s_LenR (s_LenI s_Len0)) (Nat.le_of_ble_eq_true rfl) dX8_step_127 rfl) sa_nil)) T_X2_sizeOf (s_Rcv_of 2 _ _) rfl gX8_step_X2_sizeOf rfl (by decide +kernel) (Nat.le_of_ble_eq_true rfl) (Nat.le_of_ble_eq_true rfl) (s_LenR (s_LenI s_Len0)) (Nat.le_of_ble_eq_true rfl) dX8_step_130 rfl) dX8_step_133 rfl))⟩
    by_cases h4 : x = nI 4
    · subst h4
      exact ⟨134, s_Goes_tab (off := 101) dX8_step_33 (by decide) (by decide) (by decide) rfl, (ss_retI (pcA := 138) (se_callSI (pcA := 135) (index := 156) (sa_ci (pcA := 135) (se_iload_n dX8_step_134 rfl rfl) sa_nil) T_X7_factors gX8_step_X7_factors rfl (by decide +kernel) (Nat.le_of_ble_eq_true rfl) (Nat.le_of_ble_eq_true rfl) (s_LenI s_Len0) (Nat.le_of_ble_eq_true rfl) dX8_step_135 rfl) dX8_step_138 rfl)⟩
    by_cases h5 : x = nI 5
    · subst h5
      exact ⟨139, s_Goes_tab (off := 106) dX8_step_33 (by decide) (by decide) (by decide) rfl, (ss_retI (pcA := 143) (se_callSI (pcA := 140) (index := 161) (sa_ci (pcA := 140) (se_iload_n dX8_step_139 rfl rfl) sa_nil) T_X7_differentFactors gX8_step_X7_differentFactors rfl (by decide +kernel) (Nat.le_of_ble_eq_true rfl) (Nat.le_of_ble_eq_true rfl) (s_LenI s_Len0) (Nat.le_of_ble_eq_true rfl) dX8_step_140 rfl) dX8_step_143 rfl)⟩
    by_cases h6 : x = nI 6
    · subst h6
      exact ⟨144, s_Goes_tab (off := 111) dX8_step_33 (by decide) (by decide) (by decide) rfl, (ss_retI (pcA := 158) (se_if (pcT := 149) (pcF := 154) (pcG := 151) (sc_Feq (pcA := 145) (pcB := 146) (se_iload_n dX8_step_144 rfl rfl) (se_iconst dX8_step_145 (by decide +kernel) rfl) dX8_step_146 rfl rfl) (se_bipush dX8_step_149 (by decide +kernel) rfl) dX8_step_151 rfl (se_callSI (pcA := 155) (index := 164) (sa_ci (pcA := 155) (se_iload_n dX8_step_154 rfl rfl) sa_nil) T_X7_greatestPrime gX8_step_X7_greatestPrime rfl (by decide +kernel) (Nat.le_of_ble_eq_true rfl) (Nat.le_of_ble_eq_true rfl) (s_LenI s_Len0) (Nat.le_of_ble_eq_true rfl) dX8_step_155 rfl)) dX8_step_158 rfl)⟩
    exact ⟨159, s_Goes_tabD dX8_step_33 (i_out7 h0 h1 h2 h3 h4 h5 h6) rfl, by rw [if_neg h0, if_neg h1, if_neg h2, if_neg h3, if_neg h4, if_neg h5, if_neg h6]; exact (ss_retI (pcA := 167) (se_callVI (pcA := 164) (ci := 5) (index := 167) (sa_cr (pcA := 163) (se_getR (pcA := 160) (T := TX8) (k := 0) (index := 10) (se_aload_n dX8_step_159 rfl rfl) rfl in_X8_step_X8 (Nat.le_of_ble_eq_true rfl) lk_X8_step_10 rfl dX8_step_160 rfl) (sa_ci (pcA := 164) (se_iload_n dX8_step_163 rfl rfl) sa_nil)) T_X6_leadsFrom (s_Rcv_of 5 _ _) rfl gX8_step_X6_leadsFrom rfl (by decide +kernel) (Nat.le_of_ble_eq_true rfl) (Nat.le_of_ble_eq_true rfl) (s_LenR (s_LenI s_Len0)) (Nat.le_of_ble_eq_true rfl) dX8_step_164 rfl) dX8_step_167 rfl)⟩))))
theorem T_X8_step : sMet vwCl RX6 yX8_step wsX8_step 5 116 M_X8_step := sMet_of rfl (by decide +kernel) rfl rfl (fun h => by cases h) (m_ofV_run _ _ _) S_X8_step (m_ofV_cat _ _ _ (Nat.le_of_ble_eq_true rfl))
theorem in_X8_factor_X8 : ∀ w ∈ u_ws RX8 TX8 11, w ∈ wsX8_factor := by decide +kernel
theorem lk_X8_factor_10 : Cond.fieldLink RX8 10 RX8 "now" "LStairKin$Stairs;" ∈ wsX8_factor := by decide +kernel
def B_X8_factor : sStm :=
  (s_seq (s_if (c_or (c_not (c_cmp0 i_ne (e_callI M_X6_has (a_cr (e_getR 6 0 (e_r 0)) (a_ci (e_i 1) a_nil))))) (c_cmp0 i_lt (e_i 2)))
    (s_retI (e_k (-1))) s_skip)
    (s_seq (s_decI 3 (e_callI M_X7_factorAt (a_ci (e_callI M_X6_numberOf (a_cr (e_getR 6 0 (e_r 0)) (a_ci (e_i 1) a_nil))) (a_ci (e_i 2) a_nil))))
    (s_retI (e_if (c_cmp i_eq (e_i 3) (e_k (-1))) (e_k (-4)) (e_i 3)))))
def M_X8_factor : sSem := m_ofV 6 3 B_X8_factor
set_option maxRecDepth 100000 in
set_option maxHeartbeats 4000000 in
theorem S_X8_factor : sSS (cX8_factor, wsX8_factor, RX8, (some .int), 3, 66, 4, vwCl, RX6, false) 0 0 B_X8_factor :=
  (ss_seq (pcA := 17) (ss_if (pcT := 15) (pcF := 17) (sc_or (pcA := 11) (sc_not (sc_Fne0 (pcB := 8) (se_callVI (pcA := 5) (ci := 5) (index := 138) (sa_cr (pcA := 4) (se_getR (pcA := 1) (T := TX8) (k := 0) (index := 10) (se_aload_n dX8_factor_0 rfl rfl) rfl in_X8_factor_X8 (Nat.le_of_ble_eq_true rfl) lk_X8_factor_10 rfl dX8_factor_1 rfl) (sa_ci (pcA := 5) (se_iload_n dX8_factor_4 rfl rfl) sa_nil)) T_X6_has (s_Rcv_of 5 _ _) rfl gX8_factor_X6_has rfl (by decide +kernel) (Nat.le_of_ble_eq_true rfl) (Nat.le_of_ble_eq_true rfl) (s_LenR (s_LenI s_Len0)) (Nat.le_of_ble_eq_true rfl) dX8_factor_5 rfl) dX8_factor_8 rfl rfl)) (sc_Flt0 (pcB := 12) (se_iload_n dX8_factor_11 rfl rfl) dX8_factor_12 rfl rfl))
    (ss_retI (pcA := 16) (se_iconst dX8_factor_15 (by decide +kernel) rfl) dX8_factor_16 rfl) ss_skip)
    (ss_seq (pcA := 30) (ss_decI_n (pcA := 29) (se_callSI (pcA := 26) (index := 170) (sa_ci (pcA := 25) (se_callVI (pcA := 22) (ci := 5) (index := 141) (sa_cr (pcA := 21) (se_getR (pcA := 18) (T := TX8) (k := 0) (index := 10) (se_aload_n dX8_factor_17 rfl rfl) rfl in_X8_factor_X8 (Nat.le_of_ble_eq_true rfl) lk_X8_factor_10 rfl dX8_factor_18 rfl) (sa_ci (pcA := 22) (se_iload_n dX8_factor_21 rfl rfl) sa_nil)) T_X6_numberOf (s_Rcv_of 5 _ _) rfl gX8_factor_X6_numberOf rfl (by decide +kernel) (Nat.le_of_ble_eq_true rfl) (Nat.le_of_ble_eq_true rfl) (s_LenR (s_LenI s_Len0)) (Nat.le_of_ble_eq_true rfl) dX8_factor_22 rfl) (sa_ci (pcA := 26) (se_iload_n dX8_factor_25 rfl rfl) sa_nil)) T_X7_factorAt gX8_factor_X7_factorAt rfl (by decide +kernel) (Nat.le_of_ble_eq_true rfl) (Nat.le_of_ble_eq_true rfl) (s_LenI (s_LenI s_Len0)) (Nat.le_of_ble_eq_true rfl) dX8_factor_26 rfl) dX8_factor_29 rfl (Nat.le_of_ble_eq_true rfl) rfl)
    (ss_retI (pcA := 41) (se_if (pcT := 35) (pcF := 40) (pcG := 37) (sc_Feq (pcA := 31) (pcB := 32) (se_iload_n dX8_factor_30 rfl rfl) (se_iconst dX8_factor_31 (by decide +kernel) rfl) dX8_factor_32 rfl rfl) (se_bipush dX8_factor_35 (by decide +kernel) rfl) dX8_factor_37 rfl (se_iload_n dX8_factor_40 rfl rfl)) dX8_factor_41 rfl)))
theorem T_X8_factor : sMet vwCl RX6 yX8_factor wsX8_factor 3 66 M_X8_factor := sMet_of rfl (by decide +kernel) rfl rfl (fun h => by cases h) (m_ofV_run _ _ _) S_X8_factor (m_ofV_cat _ _ _ (Nat.le_of_ble_eq_true rfl))
theorem in_X8_common_X8 : ∀ w ∈ u_ws RX8 TX8 11, w ∈ wsX8_common := by decide +kernel
theorem lk_X8_common_10 : Cond.fieldLink RX8 10 RX8 "now" "LStairKin$Stairs;" ∈ wsX8_common := by decide +kernel
def B_X8_common : sStm :=
  (s_seq (s_if (c_or (c_or (c_or (c_not (c_cmp0 i_ne (e_callI M_X6_has (a_cr (e_getR 6 0 (e_r 0)) (a_ci (e_i 1) a_nil))))) (c_not (c_cmp0 i_ne (e_callI M_X6_has (a_cr (e_getR 6 0 (e_r 0)) (a_ci (e_i 2) a_nil)))))) (c_cmp0 i_lt (e_i 3))) (c_cmp i_gt (e_i 3) (e_k (nI 1))))
    (s_retI (e_k (-1))) s_skip)
    (s_seq (s_decI 4 (e_callI M_X6_numberOf (a_cr (e_getR 6 0 (e_r 0)) (a_ci (e_i 1) a_nil))))
    (s_seq (s_decI 5 (e_callI M_X6_numberOf (a_cr (e_getR 6 0 (e_r 0)) (a_ci (e_i 2) a_nil))))
    (s_retI (e_if (c_cmp0 i_eq (e_i 3)) (e_callI M_X7_divisorByRemainders (a_ci (e_i 4) (a_ci (e_i 5) a_nil))) (e_callI M_X7_divisorByFactors (a_ci (e_i 4) (a_ci (e_i 5) a_nil))))))))
def M_X8_common : sSem := m_ofV 6 4 B_X8_common
set_option maxRecDepth 100000 in
set_option maxHeartbeats 4000000 in
theorem S_X8_common : sSS (cX8_common, wsX8_common, RX8, (some .int), 3, 68, 6, vwCl, RX6, false) 0 0 B_X8_common :=
  (ss_seq (pcA := 33) (ss_if (pcT := 31) (pcF := 33) (sc_or (pcA := 26) (sc_or (pcA := 22) (sc_or (pcA := 11) (sc_not (sc_Fne0 (pcB := 8) (se_callVI (pcA := 5) (ci := 5) (index := 138) (sa_cr (pcA := 4) (se_getR (pcA := 1) (T := TX8) (k := 0) (index := 10) (se_aload_n dX8_common_0 rfl rfl) rfl in_X8_common_X8 (Nat.le_of_ble_eq_true rfl) lk_X8_common_10 rfl dX8_common_1 rfl) (sa_ci (pcA := 5) (se_iload_n dX8_common_4 rfl rfl) sa_nil)) T_X6_has (s_Rcv_of 5 _ _) rfl gX8_common_X6_has rfl (by decide +kernel) (Nat.le_of_ble_eq_true rfl) (Nat.le_of_ble_eq_true rfl) (s_LenR (s_LenI s_Len0)) (Nat.le_of_ble_eq_true rfl) dX8_common_5 rfl) dX8_common_8 rfl rfl)) (sc_not (sc_Fne0 (pcB := 19) (se_callVI (pcA := 16) (ci := 5) (index := 138) (sa_cr (pcA := 15) (se_getR (pcA := 12) (T := TX8) (k := 0) (index := 10) (se_aload_n dX8_common_11 rfl rfl) rfl in_X8_common_X8 (Nat.le_of_ble_eq_true rfl) lk_X8_common_10 rfl dX8_common_12 rfl) (sa_ci (pcA := 16) (se_iload_n dX8_common_15 rfl rfl) sa_nil)) T_X6_has (s_Rcv_of 5 _ _) rfl gX8_common_X6_has rfl (by decide +kernel) (Nat.le_of_ble_eq_true rfl) (Nat.le_of_ble_eq_true rfl) (s_LenR (s_LenI s_Len0)) (Nat.le_of_ble_eq_true rfl) dX8_common_16 rfl) dX8_common_19 rfl rfl))) (sc_Tlt0 (pcB := 23) (se_iload_n dX8_common_22 rfl rfl) dX8_common_23 rfl rfl)) (sc_Fgt (pcA := 27) (pcB := 28) (se_iload_n dX8_common_26 rfl rfl) (se_iconst dX8_common_27 (by decide +kernel) rfl) dX8_common_28 rfl rfl))
    (ss_retI (pcA := 32) (se_iconst dX8_common_31 (by decide +kernel) rfl) dX8_common_32 rfl) ss_skip)
    (ss_seq (pcA := 43) (ss_decI (pcA := 41) (se_callVI (pcA := 38) (ci := 5) (index := 141) (sa_cr (pcA := 37) (se_getR (pcA := 34) (T := TX8) (k := 0) (index := 10) (se_aload_n dX8_common_33 rfl rfl) rfl in_X8_common_X8 (Nat.le_of_ble_eq_true rfl) lk_X8_common_10 rfl dX8_common_34 rfl) (sa_ci (pcA := 38) (se_iload_n dX8_common_37 rfl rfl) sa_nil)) T_X6_numberOf (s_Rcv_of 5 _ _) rfl gX8_common_X6_numberOf rfl (by decide +kernel) (Nat.le_of_ble_eq_true rfl) (Nat.le_of_ble_eq_true rfl) (s_LenR (s_LenI s_Len0)) (Nat.le_of_ble_eq_true rfl) dX8_common_38 rfl) dX8_common_41 (Nat.le_of_ble_eq_true rfl) rfl)
    (ss_seq (pcA := 53) (ss_decI (pcA := 51) (se_callVI (pcA := 48) (ci := 5) (index := 141) (sa_cr (pcA := 47) (se_getR (pcA := 44) (T := TX8) (k := 0) (index := 10) (se_aload_n dX8_common_43 rfl rfl) rfl in_X8_common_X8 (Nat.le_of_ble_eq_true rfl) lk_X8_common_10 rfl dX8_common_44 rfl) (sa_ci (pcA := 48) (se_iload_n dX8_common_47 rfl rfl) sa_nil)) T_X6_numberOf (s_Rcv_of 5 _ _) rfl gX8_common_X6_numberOf rfl (by decide +kernel) (Nat.le_of_ble_eq_true rfl) (Nat.le_of_ble_eq_true rfl) (s_LenR (s_LenI s_Len0)) (Nat.le_of_ble_eq_true rfl) dX8_common_48 rfl) dX8_common_51 (Nat.le_of_ble_eq_true rfl) rfl)
    (ss_retI (pcA := 74) (se_if (pcT := 57) (pcF := 67) (pcG := 64) (sc_Feq0 (pcB := 54) (se_iload_n dX8_common_53 rfl rfl) dX8_common_54 rfl rfl) (se_callSI (pcA := 61) (index := 173) (sa_ci (pcA := 59) (se_iload dX8_common_57 rfl) (sa_ci (pcA := 61) (se_iload dX8_common_59 rfl) sa_nil)) T_X7_divisorByRemainders gX8_common_X7_divisorByRemainders rfl (by decide +kernel) (Nat.le_of_ble_eq_true rfl) (Nat.le_of_ble_eq_true rfl) (s_LenI (s_LenI s_Len0)) (Nat.le_of_ble_eq_true rfl) dX8_common_61 rfl) dX8_common_64 rfl (se_callSI (pcA := 71) (index := 176) (sa_ci (pcA := 69) (se_iload dX8_common_67 rfl) (sa_ci (pcA := 71) (se_iload dX8_common_69 rfl) sa_nil)) T_X7_divisorByFactors gX8_common_X7_divisorByFactors rfl (by decide +kernel) (Nat.le_of_ble_eq_true rfl) (Nat.le_of_ble_eq_true rfl) (s_LenI (s_LenI s_Len0)) (Nat.le_of_ble_eq_true rfl) dX8_common_71 rfl)) dX8_common_74 rfl))))
theorem T_X8_common : sMet vwCl RX6 yX8_common wsX8_common 3 68 M_X8_common := sMet_of rfl (by decide +kernel) rfl rfl (fun h => by cases h) (m_ofV_run _ _ _) S_X8_common (m_ofV_cat _ _ _ (Nat.le_of_ble_eq_true rfl))
theorem in_X8_crown_X8 : ∀ w ∈ u_ws RX8 TX8 11, w ∈ wsX8_crown := by decide +kernel
theorem lk_X8_crown_10 : Cond.fieldLink RX8 10 RX8 "now" "LStairKin$Stairs;" ∈ wsX8_crown := by decide +kernel
theorem in_X8_crown_X6 : ∀ w ∈ u_ws RX6 TX6 6, w ∈ wsX8_crown := by decide +kernel
theorem ln_X8_crown_97 : Cond.fieldLinkNest RX8 97 RX6 "size" "I" "StairKin" ∈ s_nest := by decide +kernel
abbrev C_X8_crown_1 : sCd := (c_cmp i_lt (e_i 3) (e_get 5 2 (e_getR 6 0 (e_r 0))))
abbrev W_X8_crown_1 : sStm :=
  (s_seq (s_blk 4 (s_seq (s_decI 4 (e_callI M_X6_kinOf (a_cr (e_getR 6 0 (e_r 0)) (a_ci (e_i 3) a_nil))))
    (s_if (c_or (c_cmp i_gt (e_i 4) (e_i 2)) (c_and (c_cmp i_eq (e_i 4) (e_i 2)) (c_cmp i_gt (e_callI M_X6_numberOf (a_cr (e_getR 6 0 (e_r 0)) (a_ci (e_i 3) a_nil))) (e_callI M_X6_numberOf (a_cr (e_getR 6 0 (e_r 0)) (a_ci (e_i 1) a_nil))))))
    (s_seq (s_setI 1 (e_i 3))
    (s_setI 2 (e_i 4))) s_skip)))
    (s_inc 3 (nI 1)))
def B_X8_crown : sStm :=
  (s_seq (s_decI 1 (e_k (-1)))
    (s_seq (s_decI 2 (e_k (-1)))
    (s_seq (s_blk 3 (s_seq (s_decI 3 (e_k (nI 0)))
    (s_while C_X8_crown_1 W_X8_crown_1)))
    (s_retI (e_if (c_cmp i_eq (e_i 1) (e_k (-1))) (e_k (-4)) (e_i 1))))))
def M_X8_crown : sSem := m_ofV 6 1 B_X8_crown
set_option maxRecDepth 100000 in
set_option maxHeartbeats 4000000 in
theorem S_X8_crown : sSS (cX8_crown, wsX8_crown, RX8, (some .int), 3, 72, 5, vwCl, RX6, false) 0 0 B_X8_crown :=
  (ss_seq (pcA := 2) (ss_decI_n (pcA := 1) (se_iconst dX8_crown_0 (by decide +kernel) rfl) dX8_crown_1 rfl (Nat.le_of_ble_eq_true rfl) rfl)
    (ss_seq (pcA := 4) (ss_decI_n (pcA := 3) (se_iconst dX8_crown_2 (by decide +kernel) rfl) dX8_crown_3 rfl (Nat.le_of_ble_eq_true rfl) rfl)
    (ss_seq (pcA := 69) (ss_blk (ss_seq (pcA := 6) (ss_decI_n (pcA := 5) (se_iconst dX8_crown_4 (by decide +kernel) rfl) dX8_crown_5 rfl (Nat.le_of_ble_eq_true rfl) rfl)
    (ss_while (pcB := 17) (sc_Flt (pcA := 7) (pcB := 14) (se_iload_n dX8_crown_6 rfl rfl) (se_getN (pcA := 11) (T := TX6) (k := 2) (index := 97) (se_getR (pcA := 8) (T := TX8) (k := 0) (index := 10) (se_aload_n dX8_crown_7 rfl rfl) rfl in_X8_crown_X8 (Nat.le_of_ble_eq_true rfl) lk_X8_crown_10 rfl dX8_crown_8 rfl) rfl in_X8_crown_X6 (Nat.le_of_ble_eq_true rfl) ln_X8_crown_97 rfl dX8_crown_11 rfl) dX8_crown_14 rfl rfl)
    (ss_seq (pcA := 63) (ss_blk (ss_seq (pcA := 27) (ss_decI (pcA := 25) (se_callVI (pcA := 22) (ci := 5) (index := 144) (sa_cr (pcA := 21) (se_getR (pcA := 18) (T := TX8) (k := 0) (index := 10) (se_aload_n dX8_crown_17 rfl rfl) rfl in_X8_crown_X8 (Nat.le_of_ble_eq_true rfl) lk_X8_crown_10 rfl dX8_crown_18 rfl) (sa_ci (pcA := 22) (se_iload_n dX8_crown_21 rfl rfl) sa_nil)) T_X6_kinOf (s_Rcv_of 5 _ _) rfl gX8_crown_X6_kinOf rfl (by decide +kernel) (Nat.le_of_ble_eq_true rfl) (Nat.le_of_ble_eq_true rfl) (s_LenR (s_LenI s_Len0)) (Nat.le_of_ble_eq_true rfl) dX8_crown_22 rfl) dX8_crown_25 (Nat.le_of_ble_eq_true rfl) rfl)
    (ss_if (pcT := 58) (pcF := 63) (sc_or (pcA := 33) (sc_Tgt (pcA := 29) (pcB := 30) (se_iload dX8_crown_27 rfl) (se_iload_n dX8_crown_29 rfl rfl) dX8_crown_30 rfl rfl) (sc_and (pcA := 39) (sc_Feq (pcA := 35) (pcB := 36) (se_iload dX8_crown_33 rfl) (se_iload_n dX8_crown_35 rfl rfl) dX8_crown_36 rfl rfl) (sc_Fgt (pcA := 47) (pcB := 55) (se_callVI (pcA := 44) (ci := 5) (index := 141) (sa_cr (pcA := 43) (se_getR (pcA := 40) (T := TX8) (k := 0) (index := 10) (se_aload_n dX8_crown_39 rfl rfl) rfl in_X8_crown_X8 (Nat.le_of_ble_eq_true rfl) lk_X8_crown_10 rfl dX8_crown_40 rfl) (sa_ci (pcA := 44) (se_iload_n dX8_crown_43 rfl rfl) sa_nil)) T_X6_numberOf (s_Rcv_of 5 _ _) rfl gX8_crown_X6_numberOf rfl (by decide +kernel) (Nat.le_of_ble_eq_true rfl) (Nat.le_of_ble_eq_true rfl) (s_LenR (s_LenI s_Len0)) (Nat.le_of_ble_eq_true rfl) dX8_crown_44 rfl) (se_callVI (pcA := 52) (ci := 5) (index := 141) (sa_cr (pcA := 51) (se_getR (pcA := 48) (T := TX8) (k := 0) (index := 10) (se_aload_n dX8_crown_47 rfl rfl) rfl in_X8_crown_X8 (Nat.le_of_ble_eq_true rfl) lk_X8_crown_10 rfl dX8_crown_48 rfl) (sa_ci (pcA := 52) (se_iload_n dX8_crown_51 rfl rfl) sa_nil)) T_X6_numberOf (s_Rcv_of 5 _ _) rfl gX8_crown_X6_numberOf rfl (by decide +kernel) (Nat.le_of_ble_eq_true rfl) (Nat.le_of_ble_eq_true rfl) (s_LenR (s_LenI s_Len0)) (Nat.le_of_ble_eq_true rfl) dX8_crown_52 rfl) dX8_crown_55 rfl rfl)))
    (ss_seq (pcA := 60) (ss_setI_n (pcA := 59) (se_iload_n dX8_crown_58 rfl rfl) dX8_crown_59 rfl (Nat.le_of_ble_eq_true rfl) rfl)
    (ss_setI_n (pcA := 62) (se_iload dX8_crown_60 rfl) dX8_crown_62 rfl (Nat.le_of_ble_eq_true rfl) rfl)) ss_skip)))
    (ss_goto (pcG := 66) (ss_inc dX8_crown_63 (Nat.le_of_ble_eq_true rfl) (by decide +kernel) rfl) dX8_crown_66 rfl)))))
    (ss_retI (pcA := 80) (se_if (pcT := 74) (pcF := 79) (pcG := 76) (sc_Feq (pcA := 70) (pcB := 71) (se_iload_n dX8_crown_69 rfl rfl) (se_iconst dX8_crown_70 (by decide +kernel) rfl) dX8_crown_71 rfl rfl) (se_bipush dX8_crown_74 (by decide +kernel) rfl) dX8_crown_76 rfl (se_iload_n dX8_crown_79 rfl rfl)) dX8_crown_80 rfl))))
theorem T_X8_crown : sMet vwCl RX6 yX8_crown wsX8_crown 3 72 M_X8_crown := sMet_of rfl (by decide +kernel) rfl rfl (fun h => by cases h) (m_ofV_run _ _ _) S_X8_crown (m_ofV_cat _ _ _ (Nat.le_of_ble_eq_true rfl))
theorem in_X8_prime_X8 : ∀ w ∈ u_ws RX8 TX8 11, w ∈ wsX8_prime := by decide +kernel
theorem lk_X8_prime_10 : Cond.fieldLink RX8 10 RX8 "now" "LStairKin$Stairs;" ∈ wsX8_prime := by decide +kernel
theorem in_X8_prime_X6 : ∀ w ∈ u_ws RX6 TX6 6, w ∈ wsX8_prime := by decide +kernel
theorem ln_X8_prime_221 : Cond.fieldLinkNest RX8 221 RX6 "accounts" "LStairKin$Accounts;" "StairKin" ∈ s_nest := by decide +kernel
def B_X8_prime : sStm :=
  (s_seq (s_if (c_or (c_or (c_not (c_cmp0 i_ne (e_callI M_X7_isPrime (a_ci (e_i 1) a_nil)))) (c_cmp0 i_lt (e_i 2))) (c_cmp i_gt (e_i 2) (e_k (nI 4))))
    (s_retI (e_k (-1))) s_skip)
    (s_sw (e_i 2) (fun x =>
    if x = nI 0 then (s_retI (e_callI M_X0_chipsOf (a_cr (e_getR 5 1 (e_getR 6 0 (e_r 0))) (a_ci (e_i 1) a_nil))))
    else if x = nI 1 then (s_retI (e_callI M_X0_cameOf (a_cr (e_getR 5 1 (e_getR 6 0 (e_r 0))) (a_ci (e_i 1) a_nil))))
    else if x = nI 2 then (s_retI (e_callI M_X6_sumOfExponents (a_cr (e_getR 6 0 (e_r 0)) (a_ci (e_i 1) a_nil))))
    else if x = nI 3 then (s_retI (e_callI M_X6_greatestExponent (a_cr (e_getR 6 0 (e_r 0)) (a_ci (e_i 1) a_nil))))
    else (s_retI (e_callI M_X6_multiplesOf (a_cr (e_getR 6 0 (e_r 0)) (a_ci (e_i 1) a_nil)))))))
def M_X8_prime : sSem := m_ofV 6 3 B_X8_prime
set_option maxRecDepth 100000 in
set_option maxHeartbeats 4000000 in
theorem S_X8_prime : sSS (cX8_prime, wsX8_prime, RX8, (some .int), 3, 68, 3, vwCl, RX6, false) 0 0 B_X8_prime :=
  (ss_seq (pcA := 18) (ss_if (pcT := 16) (pcF := 18) (sc_or (pcA := 11) (sc_or (pcA := 7) (sc_not (sc_Fne0 (pcB := 4) (se_callSI (pcA := 1) (index := 218) (sa_ci (pcA := 1) (se_iload_n dX8_prime_0 rfl rfl) sa_nil) T_X7_isPrime gX8_prime_X7_isPrime rfl (by decide +kernel) (Nat.le_of_ble_eq_true rfl) (Nat.le_of_ble_eq_true rfl) (s_LenI s_Len0) (Nat.le_of_ble_eq_true rfl) dX8_prime_1 rfl) dX8_prime_4 rfl rfl)) (sc_Tlt0 (pcB := 8) (se_iload_n dX8_prime_7 rfl rfl) dX8_prime_8 rfl rfl)) (sc_Fgt (pcA := 12) (pcB := 13) (se_iload_n dX8_prime_11 rfl rfl) (se_iconst dX8_prime_12 (by decide +kernel) rfl) dX8_prime_13 rfl rfl))
    (ss_retI (pcA := 17) (se_iconst dX8_prime_16 (by decide +kernel) rfl) dX8_prime_17 rfl) ss_skip)
    (ss_sw (pcA := 19) (se_iload_n dX8_prime_18 rfl rfl) (by
    intro x
    by_cases h0 : x = nI 0
    · subst h0
      exact ⟨48, s_Goes_tab (off := 29) dX8_prime_19 (by decide) (by decide) (by decide) rfl, (ss_retI (pcA := 59) (se_callVI (pcA := 56) (ci := 0) (index := 225) (sa_cr (pcA := 55) (se_getRN (pcA := 52) (T := TX6) (k := 1) (index := 221) (se_getR (pcA := 49) (T := TX8) (k := 0) (index := 10) (se_aload_n dX8_prime_48 rfl rfl) rfl in_X8_prime_X8 (Nat.le_of_ble_eq_true rfl) lk_X8_prime_10 rfl dX8_prime_49 rfl) rfl in_X8_prime_X6 (Nat.le_of_ble_eq_true rfl) ln_X8_prime_221 rfl dX8_prime_52 rfl) (sa_ci (pcA := 56) (se_iload_n dX8_prime_55 rfl rfl) sa_nil)) T_X0_chipsOf (s_Rcv_of 0 _ _) rfl gX8_prime_X0_chipsOf rfl (by decide +kernel) (Nat.le_of_ble_eq_true rfl) (Nat.le_of_ble_eq_true rfl) (s_LenR (s_LenI s_Len0)) (Nat.le_of_ble_eq_true rfl) dX8_prime_56 rfl) dX8_prime_59 rfl)⟩
    by_cases h1 : x = nI 1
    · subst h1
      exact ⟨60, s_Goes_tab (off := 41) dX8_prime_19 (by decide) (by decide) (by decide) rfl, (ss_retI (pcA := 71) (se_callVI (pcA := 68) (ci := 0) (index := 230) (sa_cr (pcA := 67) (se_getRN (pcA := 64) (T := TX6) (k := 1) (index := 221) (se_getR (pcA := 61) (T := TX8) (k := 0) (index := 10) (se_aload_n dX8_prime_60 rfl rfl) rfl in_X8_prime_X8 (Nat.le_of_ble_eq_true rfl) lk_X8_prime_10 rfl dX8_prime_61 rfl) rfl in_X8_prime_X6 (Nat.le_of_ble_eq_true rfl) ln_X8_prime_221 rfl dX8_prime_64 rfl) (sa_ci (pcA := 68) (se_iload_n dX8_prime_67 rfl rfl) sa_nil)) T_X0_cameOf (s_Rcv_of 0 _ _) rfl gX8_prime_X0_cameOf rfl (by decide +kernel) (Nat.le_of_ble_eq_true rfl) (Nat.le_of_ble_eq_true rfl) (s_LenR (s_LenI s_Len0)) (Nat.le_of_ble_eq_true rfl) dX8_prime_68 rfl) dX8_prime_71 rfl)⟩
    by_cases h2 : x = nI 2
    · subst h2
      exact ⟨72, s_Goes_tab (off := 53) dX8_prime_19 (by decide) (by decide) (by decide) rfl, (ss_retI (pcA := 80) (se_callVI (pcA := 77) (ci := 5) (index := 233) (sa_cr (pcA := 76) (se_getR (pcA := 73) (T := TX8) (k := 0) (index := 10) (se_aload_n dX8_prime_72 rfl rfl) rfl in_X8_prime_X8 (Nat.le_of_ble_eq_true rfl) lk_X8_prime_10 rfl dX8_prime_73 rfl) (sa_ci (pcA := 77) (se_iload_n dX8_prime_76 rfl rfl) sa_nil)) T_X6_sumOfExponents (s_Rcv_of 5 _ _) rfl gX8_prime_X6_sumOfExponents rfl (by decide +kernel) (Nat.le_of_ble_eq_true rfl) (Nat.le_of_ble_eq_true rfl) (s_LenR (s_LenI s_Len0)) (Nat.le_of_ble_eq_true rfl) dX8_prime_77 rfl) dX8_prime_80 rfl)⟩
    by_cases h3 : x = nI 3
    · subst h3
      exact ⟨81, s_Goes_tab (off := 62) dX8_prime_19 (by decide) (by decide) (by decide) rfl, (ss_retI (pcA := 89) (se_callVI (pcA := 86) (ci := 5) (index := 236) (sa_cr (pcA := 85) (se_getR (pcA := 82) (T := TX8) (k := 0) (index := 10) (se_aload_n dX8_prime_81 rfl rfl) rfl in_X8_prime_X8 (Nat.le_of_ble_eq_true rfl) lk_X8_prime_10 rfl dX8_prime_82 rfl) (sa_ci (pcA := 86) (se_iload_n dX8_prime_85 rfl rfl) sa_nil)) T_X6_greatestExponent (s_Rcv_of 5 _ _) rfl gX8_prime_X6_greatestExponent rfl (by decide +kernel) (Nat.le_of_ble_eq_true rfl) (Nat.le_of_ble_eq_true rfl) (s_LenR (s_LenI s_Len0)) (Nat.le_of_ble_eq_true rfl) dX8_prime_86 rfl) dX8_prime_89 rfl)⟩
    exact ⟨90, s_Goes_tabD dX8_prime_19 (i_out4 h0 h1 h2 h3) rfl, by rw [if_neg h0, if_neg h1, if_neg h2, if_neg h3]; exact (ss_retI (pcA := 98) (se_callVI (pcA := 95) (ci := 5) (index := 239) (sa_cr (pcA := 94) (se_getR (pcA := 91) (T := TX8) (k := 0) (index := 10) (se_aload_n dX8_prime_90 rfl rfl) rfl in_X8_prime_X8 (Nat.le_of_ble_eq_true rfl) lk_X8_prime_10 rfl dX8_prime_91 rfl) (sa_ci (pcA := 95) (se_iload_n dX8_prime_94 rfl rfl) sa_nil)) T_X6_multiplesOf (s_Rcv_of 5 _ _) rfl gX8_prime_X6_multiplesOf rfl (by decide +kernel) (Nat.le_of_ble_eq_true rfl) (Nat.le_of_ble_eq_true rfl) (s_LenR (s_LenI s_Len0)) (Nat.le_of_ble_eq_true rfl) dX8_prime_95 rfl) dX8_prime_98 rfl)⟩)))
theorem T_X8_prime : sMet vwCl RX6 yX8_prime wsX8_prime 3 68 M_X8_prime := sMet_of rfl (by decide +kernel) rfl rfl (fun h => by cases h) (m_ofV_run _ _ _) S_X8_prime (m_ofV_cat _ _ _ (Nat.le_of_ble_eq_true rfl))
theorem in_X8_count_X8 : ∀ w ∈ u_ws RX8 TX8 11, w ∈ wsX8_count := by decide +kernel
theorem lk_X8_count_10 : Cond.fieldLink RX8 10 RX8 "now" "LStairKin$Stairs;" ∈ wsX8_count := by decide +kernel
theorem in_X8_count_X6 : ∀ w ∈ u_ws RX6 TX6 6, w ∈ wsX8_count := by decide +kernel
theorem ln_X8_count_97 : Cond.fieldLinkNest RX8 97 RX6 "size" "I" "StairKin" ∈ s_nest := by decide +kernel
theorem lk_X8_count_39 : Cond.fieldLink RX8 39 RX8 "families" "LStairKin$Families;" ∈ wsX8_count := by decide +kernel
theorem ln_X8_count_221 : Cond.fieldLinkNest RX8 221 RX6 "accounts" "LStairKin$Accounts;" "StairKin" ∈ s_nest := by decide +kernel
theorem ln_X8_count_261 : Cond.fieldLinkNest RX8 261 RX6 "broken" "I" "StairKin" ∈ s_nest := by decide +kernel
theorem ln_X8_count_270 : Cond.fieldLinkNest RX8 270 RX6 "rule" "I" "StairKin" ∈ s_nest := by decide +kernel
theorem ln_X8_count_273 : Cond.fieldLinkNest RX8 273 RX6 "stride" "I" "StairKin" ∈ s_nest := by decide +kernel
theorem lk_X8_count_32 : Cond.fieldLink RX8 32 RX8 "pad" "LStairKin$Pad;" ∈ wsX8_count := by decide +kernel
theorem in_X8_count_X4 : ∀ w ∈ u_ws RX4 TX4 9, w ∈ wsX8_count := by decide +kernel
theorem ln_X8_count_276 : Cond.fieldLinkNest RX8 276 RX4 "length" "I" "StairKin" ∈ s_nest := by decide +kernel
theorem lk_X8_count_25 : Cond.fieldLink RX8 25 RX8 "history" "LStairKin$History;" ∈ wsX8_count := by decide +kernel
theorem in_X8_count_X3 : ∀ w ∈ u_ws RX3 TX3 3, w ∈ wsX8_count := by decide +kernel
theorem ln_X8_count_277 : Cond.fieldLinkNest RX8 277 RX3 "held" "I" "StairKin" ∈ s_nest := by decide +kernel
def B_X8_count : sStm :=
  (s_sw (e_i 1) (fun x =>
    if x = nI 0 then (s_retI (e_get 5 2 (e_getR 6 0 (e_r 0))))
    else if x = nI 1 then (s_retI (e_callI M_X6_pairs (a_cr (e_getR 6 0 (e_r 0)) a_nil)))
    else if x = nI 2 then (s_seq (s_callV M_X2_find (a_cr (e_getR 6 6 (e_r 0)) (a_cr (e_getR 6 0 (e_r 0)) a_nil)))
    (s_retI (e_callI M_X2_many (a_cr (e_getR 6 6 (e_r 0)) a_nil))))
    else if x = nI 3 then (s_seq (s_callV M_X2_find (a_cr (e_getR 6 6 (e_r 0)) (a_cr (e_getR 6 0 (e_r 0)) a_nil)))
    (s_retI (e_callI M_X2_greatest (a_cr (e_getR 6 6 (e_r 0)) a_nil))))
    else if x = nI 4 then (s_retI (e_if (c_cmp0 i_ne (e_callI M_X6_isSettled (a_cr (e_getR 6 0 (e_r 0)) a_nil))) (e_k (nI 1)) (e_k (nI 0))))
    else if x = nI 5 then (s_retI (e_callI M_X0_allChips (a_cr (e_getR 5 1 (e_getR 6 0 (e_r 0))) a_nil)))
    else if x = nI 6 then (s_retI (e_callI M_X0_kindsOfChips (a_cr (e_getR 5 1 (e_getR 6 0 (e_r 0))) a_nil)))
    else if x = nI 7 then (s_retI (e_get 5 5 (e_getR 6 0 (e_r 0))))
    else if x = nI 8 then (s_retI (e_callI M_X6_differentPrimes (a_cr (e_getR 6 0 (e_r 0)) a_nil)))
    else if x = nI 9 then (s_retI (e_callI M_X6_ones (a_cr (e_getR 6 0 (e_r 0)) a_nil)))
    else if x = nI 10 then (s_retI (e_get 5 3 (e_getR 6 0 (e_r 0))))
    else if x = nI 11 then (s_retI (e_get 5 4 (e_getR 6 0 (e_r 0))))
    else if x = nI 12 then (s_retI (e_get 4 1 (e_getR 6 5 (e_r 0))))
    else if x = nI 13 then (s_retI (e_get 3 2 (e_getR 6 4 (e_r 0))))
    else (s_retI (e_k (-1)))))
def M_X8_count : sSem := m_ofV 6 2 B_X8_count
set_option maxRecDepth 100000 in
set_option maxHeartbeats 4000000 in
theorem S_X8_count : sSS (cX8_count, wsX8_count, RX8, (some .int), 4, 93, 2, vwCl, RX6, false) 0 0 B_X8_count :=
  (ss_sw (pcA := 1) (se_iload_n dX8_count_0 rfl rfl) (by
    intro x
    by_cases h0 : x = nI 0
    · subst h0
      exact ⟨72, s_Goes_tab (off := 71) dX8_count_1 (by decide) (by decide) (by decide) rfl, (ss_retI (pcA := 79) (se_getN (pcA := 76) (T := TX6) (k := 2) (index := 97) (se_getR (pcA := 73) (T := TX8) (k := 0) (index := 10) (se_aload_n dX8_count_72 rfl rfl) rfl in_X8_count_X8 (Nat.le_of_ble_eq_true rfl) lk_X8_count_10 rfl dX8_count_73 rfl) rfl in_X8_count_X6 (Nat.le_of_ble_eq_true rfl) ln_X8_count_97 rfl dX8_count_76 rfl) dX8_count_79 rfl)⟩
    by_cases h1 : x = nI 1
    · subst h1
      exact ⟨80, s_Goes_tab (off := 79) dX8_count_1 (by decide) (by decide) (by decide) rfl, (ss_retI (pcA := 87) (se_callVI (pcA := 84) (ci := 5) (index := 242) (sa_cr (pcA := 84) (se_getR (pcA := 81) (T := TX8) (k := 0) (index := 10) (se_aload_n dX8_count_80 rfl rfl) rfl in_X8_count_X8 (Nat.le_of_ble_eq_true rfl) lk_X8_count_10 rfl dX8_count_81 rfl) sa_nil) T_X6_pairs (s_Rcv_of 5 _ _) rfl gX8_count_X6_pairs rfl (by decide +kernel) (Nat.le_of_ble_eq_true rfl) (Nat.le_of_ble_eq_true rfl) (s_LenR s_Len0) (Nat.le_of_ble_eq_true rfl) dX8_count_84 rfl) dX8_count_87 rfl)⟩
    by_cases h2 : x = nI 2
    · subst h2
      exact ⟨88, s_Goes_tab (off := 87) dX8_count_1 (by decide) (by decide) (by decide) rfl, (ss_seq (pcA := 99) (ss_callVV (pcA := 96) (ci := 2) (index := 147) (sa_cr (pcA := 92) (se_getR (pcA := 89) (T := TX8) (k := 6) (index := 39) (se_aload_n dX8_count_88 rfl rfl) rfl in_X8_count_X8 (Nat.le_of_ble_eq_true rfl) lk_X8_count_39 rfl dX8_count_89 rfl) (sa_cr (pcA := 96) (se_getR (pcA := 93) (T := TX8) (k := 0) (index := 10) (se_aload_n dX8_count_92 rfl rfl) rfl in_X8_count_X8 (Nat.le_of_ble_eq_true rfl) lk_X8_count_10 rfl dX8_count_93 rfl) sa_nil)) T_X2_find (s_Rcv_of 2 _ _) rfl gX8_count_X2_find rfl (by decide +kernel) (Nat.le_of_ble_eq_true rfl) (Nat.le_of_ble_eq_true rfl) (s_LenR (s_LenR s_Len0)) dX8_count_96 rfl)
    (ss_retI (pcA := 106) (se_callVI (pcA := 103) (ci := 2) (index := 245) (sa_cr (pcA := 103) (se_getR (pcA := 100) (T := TX8) (k := 6) (index := 39) (se_aload_n dX8_count_99 rfl rfl) rfl in_X8_count_X8 (Nat.le_of_ble_eq_true rfl) lk_X8_count_39 rfl dX8_count_100 rfl) sa_nil) T_X2_many (s_Rcv_of 2 _ _) rfl gX8_count_X2_many rfl (by decide +kernel) (Nat.le_of_ble_eq_true rfl) (Nat.le_of_ble_eq_true rfl) (s_LenR s_Len0) (Nat.le_of_ble_eq_true rfl) dX8_count_103 rfl) dX8_count_106 rfl))⟩
    by_cases h3 : x = nI 3
    · subst h3
      exact ⟨107, s_Goes_tab (off := 106) dX8_count_1 (by decide) (by decide) (by decide) rfl, (ss_seq (pcA := 118) (ss_callVV (pcA := 115) (ci := 2) (index := 147) (sa_cr (pcA := 111) (se_getR (pcA := 108) (T := TX8) (k := 6) (index := 39) (se_aload_n dX8_count_107 rfl rfl) rfl in_X8_count_X8 (Nat.le_of_ble_eq_true rfl) lk_X8_count_39 rfl dX8_count_108 rfl) (sa_cr (pcA := 115) (se_getR (pcA := 112) (T := TX8) (k := 0) (index := 10) (se_aload_n dX8_count_111 rfl rfl) rfl in_X8_count_X8 (Nat.le_of_ble_eq_true rfl) lk_X8_count_10 rfl dX8_count_112 rfl) sa_nil)) T_X2_find (s_Rcv_of 2 _ _) rfl gX8_count_X2_find rfl (by decide +kernel) (Nat.le_of_ble_eq_true rfl) (Nat.le_of_ble_eq_true rfl) (s_LenR (s_LenR s_Len0)) dX8_count_115 rfl)
    (ss_retI (pcA := 125) (se_callVI (pcA := 122) (ci := 2) (index := 248) (sa_cr (pcA := 122) (se_getR (pcA := 119) (T := TX8) (k := 6) (index := 39) (se_aload_n dX8_count_118 rfl rfl) rfl in_X8_count_X8 (Nat.le_of_ble_eq_true rfl) lk_X8_count_39 rfl dX8_count_119 rfl) sa_nil) T_X2_greatest (s_Rcv_of 2 _ _) rfl gX8_count_X2_greatest rfl (by decide +kernel) (Nat.le_of_ble_eq_true rfl) (Nat.le_of_ble_eq_true rfl) (s_LenR s_Len0) (Nat.le_of_ble_eq_true rfl) dX8_count_122 rfl) dX8_count_125 rfl))⟩
    by_cases h4 : x = nI 4
    · subst h4
      exact ⟨126, s_Goes_tab (off := 125) dX8_count_1 (by decide) (by decide) (by decide) rfl, (ss_retI (pcA := 141) (se_if (pcT := 136) (pcF := 140) (pcG := 137) (sc_Fne0 (pcB := 133) (se_callVI (pcA := 130) (ci := 5) (index := 251) (sa_cr (pcA := 130) (se_getR (pcA := 127) (T := TX8) (k := 0) (index := 10) (se_aload_n dX8_count_126 rfl rfl) rfl in_X8_count_X8 (Nat.le_of_ble_eq_true rfl) lk_X8_count_10 rfl dX8_count_127 rfl) sa_nil) T_X6_isSettled (s_Rcv_of 5 _ _) rfl gX8_count_X6_isSettled rfl (by decide +kernel) (Nat.le_of_ble_eq_true rfl) (Nat.le_of_ble_eq_true rfl) (s_LenR s_Len0) (Nat.le_of_ble_eq_true rfl) dX8_count_130 rfl) dX8_count_133 rfl rfl) (se_iconst dX8_count_136 (by decide +kernel) rfl) dX8_count_137 rfl (se_iconst dX8_count_140 (by decide +kernel) rfl)) dX8_count_141 rfl)⟩
    by_cases h5 : x = nI 5
    · subst h5
      exact ⟨142, s_Goes_tab (off := 141) dX8_count_1 (by decide) (by decide) (by decide) rfl, (ss_retI (pcA := 152) (se_callVI (pcA := 149) (ci := 0) (index := 255) (sa_cr (pcA := 149) (se_getRN (pcA := 146) (T := TX6) (k := 1) (index := 221) (se_getR (pcA := 143) (T := TX8) (k := 0) (index := 10) (se_aload_n dX8_count_142 rfl rfl) rfl in_X8_count_X8 (Nat.le_of_ble_eq_true rfl) lk_X8_count_10 rfl dX8_count_143 rfl) rfl in_X8_count_X6 (Nat.le_of_ble_eq_true rfl) ln_X8_count_221 rfl dX8_count_146 rfl) sa_nil) T_X0_allChips (s_Rcv_of 0 _ _) rfl gX8_count_X0_allChips rfl (by decide +kernel) (Nat.le_of_ble_eq_true rfl) (Nat.le_of_ble_eq_true rfl) (s_LenR s_Len0) (Nat.le_of_ble_eq_true rfl) dX8_count_149 rfl) dX8_count_152 rfl)⟩
    by_cases h6 : x = nI 6
    · subst h6
      exact ⟨153, s_Goes_tab (off := 152) dX8_count_1 (by decide) (by decide) (by decide) rfl, (ss_retI (pcA := 163) (se_callVI (pcA := 160) (ci := 0) (index := 258) (sa_cr (pcA := 160) (se_getRN (pcA := 157) (T := TX6) (k := 1) (index := 221) (se_getR (pcA := 154) (T := TX8) (k := 0) (index := 10) (se_aload_n dX8_count_153 rfl rfl) rfl in_X8_count_X8 (Nat.le_of_ble_eq_true rfl) lk_X8_count_10 rfl dX8_count_154 rfl) rfl in_X8_count_X6 (Nat.le_of_ble_eq_true rfl) ln_X8_count_221 rfl dX8_count_157 rfl) sa_nil) T_X0_kindsOfChips (s_Rcv_of 0 _ _) rfl gX8_count_X0_kindsOfChips rfl (by decide +kernel) (Nat.le_of_ble_eq_true rfl) (Nat.le_of_ble_eq_true rfl) (s_LenR s_Len0) (Nat.le_of_ble_eq_true rfl) dX8_count_160 rfl) dX8_count_163 rfl)⟩
    by_cases h7 : x = nI 7
    · subst h7
      exact ⟨164, s_Goes_tab (off := 163) dX8_count_1 (by decide) (by decide) (by decide) rfl, (ss_retI (pcA := 171) (se_getN (pcA := 168) (T := TX6) (k := 5) (index := 261) (se_getR (pcA := 165) (T := TX8) (k := 0) (index := 10) (se_aload_n dX8_count_164 rfl rfl) rfl in_X8_count_X8 (Nat.le_of_ble_eq_true rfl) lk_X8_count_10 rfl dX8_count_165 rfl) rfl in_X8_count_X6 (Nat.le_of_ble_eq_true rfl) ln_X8_count_261 rfl dX8_count_168 rfl) dX8_count_171 rfl)⟩
    by_cases h8 : x = nI 8
    · subst h8
      exact ⟨172, s_Goes_tab (off := 171) dX8_count_1 (by decide) (by decide) (by decide) rfl, (ss_retI (pcA := 179) (se_callVI (pcA := 176) (ci := 5) (index := 264) (sa_cr (pcA := 176) (se_getR (pcA := 173) (T := TX8) (k := 0) (index := 10) (se_aload_n dX8_count_172 rfl rfl) rfl in_X8_count_X8 (Nat.le_of_ble_eq_true rfl) lk_X8_count_10 rfl dX8_count_173 rfl) sa_nil) T_X6_differentPrimes (s_Rcv_of 5 _ _) rfl gX8_count_X6_differentPrimes rfl (by decide +kernel) (Nat.le_of_ble_eq_true rfl) (Nat.le_of_ble_eq_true rfl) (s_LenR s_Len0) (Nat.le_of_ble_eq_true rfl) dX8_count_176 rfl) dX8_count_179 rfl)⟩
    by_cases h9 : x = nI 9
    · subst h9
      exact ⟨180, s_Goes_tab (off := 179) dX8_count_1 (by decide) (by decide) (by decide) rfl, (ss_retI (pcA := 187) (se_callVI (pcA := 184) (ci := 5) (index := 267) (sa_cr (pcA := 184) (se_getR (pcA := 181) (T := TX8) (k := 0) (index := 10) (se_aload_n dX8_count_180 rfl rfl) rfl in_X8_count_X8 (Nat.le_of_ble_eq_true rfl) lk_X8_count_10 rfl dX8_count_181 rfl) sa_nil) T_X6_ones (s_Rcv_of 5 _ _) rfl gX8_count_X6_ones rfl (by decide +kernel) (Nat.le_of_ble_eq_true rfl) (Nat.le_of_ble_eq_true rfl) (s_LenR s_Len0) (Nat.le_of_ble_eq_true rfl) dX8_count_184 rfl) dX8_count_187 rfl)⟩
    by_cases h10 : x = nI 10
    · subst h10
      exact ⟨188, s_Goes_tab (off := 187) dX8_count_1 (by decide) (by decide) (by decide) rfl, (ss_retI (pcA := 195) (se_getN (pcA := 192) (T := TX6) (k := 3) (index := 270) (se_getR (pcA := 189) (T := TX8) (k := 0) (index := 10) (se_aload_n dX8_count_188 rfl rfl) rfl in_X8_count_X8 (Nat.le_of_ble_eq_true rfl) lk_X8_count_10 rfl dX8_count_189 rfl) rfl in_X8_count_X6 (Nat.le_of_ble_eq_true rfl) ln_X8_count_270 rfl dX8_count_192 rfl) dX8_count_195 rfl)⟩
    by_cases h11 : x = nI 11
    · subst h11
      exact ⟨196, s_Goes_tab (off := 195) dX8_count_1 (by decide) (by decide) (by decide) rfl, (ss_retI (pcA := 203) (se_getN (pcA := 200) (T := TX6) (k := 4) (index := 273) (se_getR (pcA := 197) (T := TX8) (k := 0) (index := 10) (se_aload_n dX8_count_196 rfl rfl) rfl in_X8_count_X8 (Nat.le_of_ble_eq_true rfl) lk_X8_count_10 rfl dX8_count_197 rfl) rfl in_X8_count_X6 (Nat.le_of_ble_eq_true rfl) ln_X8_count_273 rfl dX8_count_200 rfl) dX8_count_203 rfl)⟩
    by_cases h12 : x = nI 12
    · subst h12
      exact ⟨204, s_Goes_tab (off := 203) dX8_count_1 (by decide) (by decide) (by decide) rfl, (ss_retI (pcA := 211) (se_getN (pcA := 208) (T := TX4) (k := 1) (index := 276) (se_getR (pcA := 205) (T := TX8) (k := 5) (index := 32) (se_aload_n dX8_count_204 rfl rfl) rfl in_X8_count_X8 (Nat.le_of_ble_eq_true rfl) lk_X8_count_32 rfl dX8_count_205 rfl) rfl in_X8_count_X4 (Nat.le_of_ble_eq_true rfl) ln_X8_count_276 rfl dX8_count_208 rfl) dX8_count_211 rfl)⟩
    by_cases h13 : x = nI 13
    · subst h13
      exact ⟨212, s_Goes_tab (off := 211) dX8_count_1 (by decide) (by decide) (by decide) rfl, (ss_retI (pcA := 219) (se_getN (pcA := 216) (T := TX3) (k := 2) (index := 277) (se_getR (pcA := 213) (T := TX8) (k := 4) (index := 25) (se_aload_n dX8_count_212 rfl rfl) rfl in_X8_count_X8 (Nat.le_of_ble_eq_true rfl) lk_X8_count_25 rfl dX8_count_213 rfl) rfl in_X8_count_X3 (Nat.le_of_ble_eq_true rfl) ln_X8_count_277 rfl dX8_count_216 rfl) dX8_count_219 rfl)⟩
    exact ⟨220, s_Goes_tabD dX8_count_1 (i_out14 h0 h1 h2 h3 h4 h5 h6 h7 h8 h9 h10 h11 h12 h13) rfl, by rw [if_neg h0, if_neg h1, if_neg h2, if_neg h3, if_neg h4, if_neg h5, if_neg h6, if_neg h7, if_neg h8, if_neg h9, if_neg h10, if_neg h11, if_neg h12, if_neg h13]; exact (ss_retI (pcA := 221) (se_iconst dX8_count_220 (by decide +kernel) rfl) dX8_count_221 rfl)⟩))
theorem T_X8_count : sMet vwCl RX6 yX8_count wsX8_count 4 93 M_X8_count := sMet_of rfl (by decide +kernel) rfl rfl (fun h => by cases h) (m_ofV_run _ _ _) S_X8_count (m_ofV_cat _ _ _ (Nat.le_of_ble_eq_true rfl))
theorem in_X8_mean_X8 : ∀ w ∈ u_ws RX8 TX8 11, w ∈ wsX8_mean := by decide +kernel
theorem lk_X8_mean_10 : Cond.fieldLink RX8 10 RX8 "now" "LStairKin$Stairs;" ∈ wsX8_mean := by decide +kernel
theorem in_X8_mean_X6 : ∀ w ∈ u_ws RX6 TX6 6, w ∈ wsX8_mean := by decide +kernel
theorem ln_X8_mean_97 : Cond.fieldLinkNest RX8 97 RX6 "size" "I" "StairKin" ∈ s_nest := by decide +kernel
abbrev C_X8_mean_1 : sCd := (c_cmp i_lt (e_i 2) (e_get 5 2 (e_getR 6 0 (e_r 0))))
abbrev W_X8_mean_1 : sStm :=
  (s_seq (s_setI 1 (e_add (e_i 1) (e_callI M_X6_kinOf (a_cr (e_getR 6 0 (e_r 0)) (a_ci (e_i 2) a_nil)))))
    (s_inc 2 (nI 1)))
def B_X8_mean : sStm :=
  (s_seq (s_if (c_cmp0 i_eq (e_get 5 2 (e_getR 6 0 (e_r 0))))
    (s_retD e_d0) s_skip)
    (s_seq (s_decI 1 (e_k (nI 0)))
    (s_seq (s_blk 2 (s_seq (s_decI 2 (e_k (nI 0)))
    (s_while C_X8_mean_1 W_X8_mean_1)))
    (s_retD (e_ddiv (e_i2d (e_i 1)) (e_i2d (e_get 5 2 (e_getR 6 0 (e_r 0)))))))))
def M_X8_mean : sSem := m_ofV 6 1 B_X8_mean
set_option maxRecDepth 100000 in
set_option maxHeartbeats 4000000 in
theorem S_X8_mean : sSS (cX8_mean, wsX8_mean, RX8, (some .double), 3, 72, 3, vwCl, RX6, false) 0 0 B_X8_mean :=
  (ss_seq (pcA := 12) (ss_if (pcT := 10) (pcF := 12) (sc_Feq0 (pcB := 7) (se_getN (pcA := 4) (T := TX6) (k := 2) (index := 97) (se_getR (pcA := 1) (T := TX8) (k := 0) (index := 10) (se_aload_n dX8_mean_0 rfl rfl) rfl in_X8_mean_X8 (Nat.le_of_ble_eq_true rfl) lk_X8_mean_10 rfl dX8_mean_1 rfl) rfl in_X8_mean_X6 (Nat.le_of_ble_eq_true rfl) ln_X8_mean_97 rfl dX8_mean_4 rfl) dX8_mean_7 rfl rfl)
    (ss_retD (pcA := 11) (se_d0 dX8_mean_10 rfl) dX8_mean_11 rfl) ss_skip)
    (ss_seq (pcA := 14) (ss_decI_n (pcA := 13) (se_iconst dX8_mean_12 (by decide +kernel) rfl) dX8_mean_13 rfl (Nat.le_of_ble_eq_true rfl) rfl)
    (ss_seq (pcA := 44) (ss_blk (ss_seq (pcA := 16) (ss_decI_n (pcA := 15) (se_iconst dX8_mean_14 (by decide +kernel) rfl) dX8_mean_15 rfl (Nat.le_of_ble_eq_true rfl) rfl)
    (ss_while (pcB := 27) (sc_Flt (pcA := 17) (pcB := 24) (se_iload_n dX8_mean_16 rfl rfl) (se_getN (pcA := 21) (T := TX6) (k := 2) (index := 97) (se_getR (pcA := 18) (T := TX8) (k := 0) (index := 10) (se_aload_n dX8_mean_17 rfl rfl) rfl in_X8_mean_X8 (Nat.le_of_ble_eq_true rfl) lk_X8_mean_10 rfl dX8_mean_18 rfl) rfl in_X8_mean_X6 (Nat.le_of_ble_eq_true rfl) ln_X8_mean_97 rfl dX8_mean_21 rfl) dX8_mean_24 rfl rfl)
    (ss_seq (pcA := 38) (ss_setI_n (pcA := 37) (se_add (pcA := 28) (pcB := 36) (se_iload_n dX8_mean_27 rfl rfl) (se_callVI (pcA := 33) (ci := 5) (index := 144) (sa_cr (pcA := 32) (se_getR (pcA := 29) (T := TX8) (k := 0) (index := 10) (se_aload_n dX8_mean_28 rfl rfl) rfl in_X8_mean_X8 (Nat.le_of_ble_eq_true rfl) lk_X8_mean_10 rfl dX8_mean_29 rfl) (sa_ci (pcA := 33) (se_iload_n dX8_mean_32 rfl rfl) sa_nil)) T_X6_kinOf (s_Rcv_of 5 _ _) rfl gX8_mean_X6_kinOf rfl (by decide +kernel) (Nat.le_of_ble_eq_true rfl) (Nat.le_of_ble_eq_true rfl) (s_LenR (s_LenI s_Len0)) (Nat.le_of_ble_eq_true rfl) dX8_mean_33 rfl) dX8_mean_36 rfl) dX8_mean_37 rfl (Nat.le_of_ble_eq_true rfl) rfl)
    (ss_goto (pcG := 41) (ss_inc dX8_mean_38 (Nat.le_of_ble_eq_true rfl) (by decide +kernel) rfl) dX8_mean_41 rfl)))))
    (ss_retD (pcA := 55) (se_ddiv (pcA := 46) (pcB := 54) (se_i2d (pcA := 45) (se_iload_n dX8_mean_44 rfl rfl) dX8_mean_45 rfl) (se_i2d (pcA := 53) (se_getN (pcA := 50) (T := TX6) (k := 2) (index := 97) (se_getR (pcA := 47) (T := TX8) (k := 0) (index := 10) (se_aload_n dX8_mean_46 rfl rfl) rfl in_X8_mean_X8 (Nat.le_of_ble_eq_true rfl) lk_X8_mean_10 rfl dX8_mean_47 rfl) rfl in_X8_mean_X6 (Nat.le_of_ble_eq_true rfl) ln_X8_mean_97 rfl dX8_mean_50 rfl) dX8_mean_53 rfl) dX8_mean_54 rfl) dX8_mean_55 rfl))))
theorem T_X8_mean : sMet vwCl RX6 yX8_mean wsX8_mean 3 72 M_X8_mean := sMet_of rfl (by decide +kernel) rfl rfl (fun h => by cases h) (m_ofV_run _ _ _) S_X8_mean (m_ofV_cat _ _ _ (Nat.le_of_ble_eq_true rfl))
