/-! printed by wip/whole/j2l.py out of the Java texts and the listing -/
theorem ml_X2_init_3 : Cond.methodLink RX2 3 objectInit ∈ wsX2_init := by decide +kernel
theorem mo_X2_init : Cond.instanceMethod objectInit ∈ wsX2_init := by decide +kernel
theorem mc_X2_init : Cond.code objectInit ⟨#[0xb1]⟩ 1 none ∈ wsX2_init := by decide +kernel
theorem na_X2_init : Cond.arrayClass .int ∈ wsX2_init := by decide +kernel
theorem in_X2_init_X2 : ∀ w ∈ u_ws RX2 TX2 2, w ∈ wsX2_init := by decide +kernel
theorem lk_X2_init_9 : Cond.fieldLink RX2 9 RX2 "lowest" "[I" ∈ wsX2_init := by decide +kernel
def B_X2_init : sStm :=
  (s_seq (s_seq (s_super (e_r 0))
    (s_putR 2 0 (e_r 0) (e_newa (e_k (nI 12)))))
    s_ret0)
def M_X2_init : sSem := m_of 1 B_X2_init
set_option maxRecDepth 100000 in
set_option maxHeartbeats 4000000 in
theorem S_X2_init : sSS (cX2_init, wsX2_init, RX2, none, 1, 20, 1, vwCl, RX6, true) 0 0 B_X2_init :=
  (ss_seq (pcA := 12) (ss_seq (pcA := 4) (ss_objInit (pcA := 1) (se_aload_n dX2_init_0 rfl rfl) ml_X2_init_3 mo_X2_init mc_X2_init dX2_init_1 ⟨(Nat.le_of_ble_eq_true rfl), (Nat.le_of_ble_eq_true rfl)⟩ rfl)
    (ss_putRF (pcA := 5) (pcB := 9) (T := TX2) (index := 9) (se_aload_n dX2_init_4 rfl rfl) (se_newa (pcA := 7) (se_bipush dX2_init_5 (by decide +kernel) rfl) na_X2_init dX2_init_7 rfl) rfl in_X2_init_X2 tyX2 tyX2_ok nmX2 (Nat.le_of_ble_eq_true rfl) lk_X2_init_9 rfl rfl rfl rfl (Or.inr ⟨_, rfl⟩) dX2_init_9 rfl))
    (ss_ret0 dX2_init_12 rfl))
theorem T_X2_init : sMet vwCl RX6 yX2_init wsX2_init 1 20 M_X2_init := sMet_of rfl (by decide +kernel) rfl rfl (fun _ => rfl) (m_of_run _ _) S_X2_init (m_of_cat _ _ (Nat.le_of_ble_eq_true rfl))
theorem in_X2_lowestOf_X2 : ∀ w ∈ u_ws RX2 TX2 2, w ∈ wsX2_lowestOf := by decide +kernel
theorem lk_X2_lowestOf_9 : Cond.fieldLink RX2 9 RX2 "lowest" "[I" ∈ wsX2_lowestOf := by decide +kernel
def B_X2_lowestOf : sStm :=
  (s_retI (e_callI M_X5_at (a_cr (e_getR 2 0 (e_r 0)) (a_ci (e_i 1) a_nil))))
def M_X2_lowestOf : sSem := m_ofV 2 2 B_X2_lowestOf
set_option maxRecDepth 100000 in
set_option maxHeartbeats 4000000 in
theorem S_X2_lowestOf : sSS (cX2_lowestOf, wsX2_lowestOf, RX2, (some .int), 1, 21, 2, vwCl, RX6, false) 0 0 B_X2_lowestOf :=
  (ss_retI (pcA := 8) (se_callSI (pcA := 5) (index := 40) (sa_cr (pcA := 4) (se_getR (pcA := 1) (T := TX2) (k := 0) (index := 9) (se_aload_n dX2_lowestOf_0 rfl rfl) rfl in_X2_lowestOf_X2 (Nat.le_of_ble_eq_true rfl) lk_X2_lowestOf_9 rfl dX2_lowestOf_1 rfl) (sa_ci (pcA := 5) (se_iload_n dX2_lowestOf_4 rfl rfl) sa_nil)) T_X5_at gX2_lowestOf_X5_at rfl (by decide +kernel) (Nat.le_of_ble_eq_true rfl) (Nat.le_of_ble_eq_true rfl) (s_LenR (s_LenI s_Len0)) (Nat.le_of_ble_eq_true rfl) dX2_lowestOf_5 rfl) dX2_lowestOf_8 rfl)
theorem T_X2_lowestOf : sMet vwCl RX6 yX2_lowestOf wsX2_lowestOf 1 21 M_X2_lowestOf := sMet_of rfl (by decide +kernel) rfl rfl (fun h => by cases h) (m_ofV_run _ _ _) S_X2_lowestOf (m_ofV_cat _ _ _ (Nat.le_of_ble_eq_true rfl))
theorem mm_X2_join_53 : Cond.methodLink RX2 53 Lib.Math.min.name ∈ wsX2_join := by decide +kernel
theorem ms_X2_join_min : Cond.static Lib.Math.min.name ∈ wsX2_join := by decide +kernel
theorem mi_X2_join_Math : Cond.initialized "java/lang/Math" ∈ wsX2_join := by decide +kernel
theorem mk_X2_join_min : Cond.code Lib.Math.min.name Lib.Math.min.code 2 (some .int) ∈ wsX2_join := by decide +kernel
theorem in_X2_join_X2 : ∀ w ∈ u_ws RX2 TX2 2, w ∈ wsX2_join := by decide +kernel
theorem lk_X2_join_21 : Cond.fieldLink RX2 21 RX2 "size" "I" ∈ wsX2_join := by decide +kernel
theorem lk_X2_join_9 : Cond.fieldLink RX2 9 RX2 "lowest" "[I" ∈ wsX2_join := by decide +kernel
abbrev C_X2_join_1 : sCd := (c_cmp i_lt (e_i 4) (e_get 2 1 (e_r 0)))
abbrev W_X2_join_1 : sStm :=
  (s_seq (s_if (c_or (c_cmp i_eq (e_callI M_X2_lowestOf (a_cr (e_r 0) (a_ci (e_i 4) a_nil))) (e_i 1)) (c_cmp i_eq (e_callI M_X2_lowestOf (a_cr (e_r 0) (a_ci (e_i 4) a_nil))) (e_i 2)))
    (s_callV M_X5_put (a_cr (e_getR 2 0 (e_r 0)) (a_ci (e_i 4) (a_ci (e_i 3) a_nil)))) s_skip)
    (s_inc 4 (nI 1)))
def B_X2_join : sStm :=
  (s_seq (s_seq (s_decI 3 (e_min (e_i 1) (e_i 2)))
    (s_blk 4 (s_seq (s_decI 4 (e_k (nI 0)))
    (s_while C_X2_join_1 W_X2_join_1))))
    s_ret0)
def M_X2_join : sSem := m_ofV 2 3 B_X2_join
set_option maxRecDepth 100000 in
set_option maxHeartbeats 4000000 in
theorem S_X2_join : sSS (cX2_join, wsX2_join, RX2, none, 2, 42, 5, vwCl, RX6, false) 0 0 B_X2_join :=
  (ss_seq (pcA := 54) (ss_seq (pcA := 6) (ss_decI_n (pcA := 5) (se_min (pcA := 1) (pcB := 2) (index := 53) (se_iload_n dX2_join_0 rfl rfl) (se_iload_n dX2_join_1 rfl rfl) mm_X2_join_53 ms_X2_join_min mi_X2_join_Math mk_X2_join_min (Nat.le_of_ble_eq_true rfl) (Nat.le_of_ble_eq_true rfl) (Nat.le_of_ble_eq_true rfl) dX2_join_2 rfl) dX2_join_5 rfl (Nat.le_of_ble_eq_true rfl) rfl)
    (ss_blk (ss_seq (pcA := 9) (ss_decI (pcA := 7) (se_iconst dX2_join_6 (by decide +kernel) rfl) dX2_join_7 (Nat.le_of_ble_eq_true rfl) rfl)
    (ss_while (pcB := 18) (sc_Flt (pcA := 11) (pcB := 15) (se_iload dX2_join_9 rfl) (se_get (pcA := 12) (T := TX2) (k := 1) (index := 21) (se_aload_n dX2_join_11 rfl rfl) rfl in_X2_join_X2 (Nat.le_of_ble_eq_true rfl) lk_X2_join_21 rfl dX2_join_12 rfl) dX2_join_15 rfl rfl)
    (ss_seq (pcA := 48) (ss_if (pcT := 38) (pcF := 48) (sc_or (pcA := 28) (sc_Teq (pcA := 24) (pcB := 25) (se_callVI (pcA := 21) (ci := 2) (index := 32) (sa_cr (pcA := 19) (se_aload_n dX2_join_18 rfl rfl) (sa_ci (pcA := 21) (se_iload dX2_join_19 rfl) sa_nil)) T_X2_lowestOf (s_Rcv_of 2 _ _) rfl gX2_join_X2_lowestOf rfl (by decide +kernel) (Nat.le_of_ble_eq_true rfl) (Nat.le_of_ble_eq_true rfl) (s_LenR (s_LenI s_Len0)) (Nat.le_of_ble_eq_true rfl) dX2_join_21 rfl) (se_iload_n dX2_join_24 rfl rfl) dX2_join_25 rfl rfl) (sc_Feq (pcA := 34) (pcB := 35) (se_callVI (pcA := 31) (ci := 2) (index := 32) (sa_cr (pcA := 29) (se_aload_n dX2_join_28 rfl rfl) (sa_ci (pcA := 31) (se_iload dX2_join_29 rfl) sa_nil)) T_X2_lowestOf (s_Rcv_of 2 _ _) rfl gX2_join_X2_lowestOf rfl (by decide +kernel) (Nat.le_of_ble_eq_true rfl) (Nat.le_of_ble_eq_true rfl) (s_LenR (s_LenI s_Len0)) (Nat.le_of_ble_eq_true rfl) dX2_join_31 rfl) (se_iload_n dX2_join_34 rfl rfl) dX2_join_35 rfl rfl))
    (ss_callVS (pcA := 45) (index := 22) (sa_cr (pcA := 42) (se_getR (pcA := 39) (T := TX2) (k := 0) (index := 9) (se_aload_n dX2_join_38 rfl rfl) rfl in_X2_join_X2 (Nat.le_of_ble_eq_true rfl) lk_X2_join_9 rfl dX2_join_39 rfl) (sa_ci (pcA := 44) (se_iload dX2_join_42 rfl) (sa_ci (pcA := 45) (se_iload_n dX2_join_44 rfl rfl) sa_nil))) T_X5_put gX2_join_X5_put rfl (by decide +kernel) (Nat.le_of_ble_eq_true rfl) (Nat.le_of_ble_eq_true rfl) (s_LenR (s_LenI (s_LenI s_Len0))) dX2_join_45 rfl) ss_skip)
    (ss_goto (pcG := 51) (ss_inc dX2_join_48 (Nat.le_of_ble_eq_true rfl) (by decide +kernel) rfl) dX2_join_51 rfl))))))
    (ss_ret0 dX2_join_54 rfl))
theorem T_X2_join : sMet vwCl RX6 yX2_join wsX2_join 2 42 M_X2_join := sMet_of rfl (by decide +kernel) rfl rfl (fun h => by cases h) (m_ofV_run _ _ _) S_X2_join (m_ofV_cat _ _ _ (Nat.le_of_ble_eq_true rfl))
theorem in_X2_find_X6 : ∀ w ∈ u_ws RX6 TX6 6, w ∈ wsX2_find := by decide +kernel
theorem ln_X2_find_15 : Cond.fieldLinkNest RX2 15 RX6 "size" "I" "StairKin" ∈ s_nest := by decide +kernel
theorem in_X2_find_X2 : ∀ w ∈ u_ws RX2 TX2 2, w ∈ wsX2_find := by decide +kernel
theorem lk_X2_find_21 : Cond.fieldLink RX2 21 RX2 "size" "I" ∈ wsX2_find := by decide +kernel
theorem lk_X2_find_9 : Cond.fieldLink RX2 9 RX2 "lowest" "[I" ∈ wsX2_find := by decide +kernel
abbrev C_X2_find_1 : sCd := (c_cmp i_lt (e_i 2) (e_get 2 1 (e_r 0)))
abbrev W_X2_find_1 : sStm :=
  (s_seq (s_callV M_X5_put (a_cr (e_getR 2 0 (e_r 0)) (a_ci (e_i 2) (a_ci (e_i 2) a_nil))))
    (s_inc 2 (nI 1)))
abbrev C_X2_find_2 : sCd := (c_cmp i_lt (e_i 3) (e_i 2))
abbrev W_X2_find_2 : sStm :=
  (s_seq (s_if (c_cmp0 i_ne (e_callI M_X6_isKin (a_cr (e_r 1) (a_ci (e_i 3) (a_ci (e_i 2) a_nil)))))
    (s_callV M_X2_join (a_cr (e_r 0) (a_ci (e_callI M_X2_lowestOf (a_cr (e_r 0) (a_ci (e_i 3) a_nil))) (a_ci (e_callI M_X2_lowestOf (a_cr (e_r 0) (a_ci (e_i 2) a_nil))) a_nil)))) s_skip)
    (s_inc 3 (nI 1)))
abbrev C_X2_find_3 : sCd := (c_cmp i_lt (e_i 2) (e_get 2 1 (e_r 0)))
abbrev W_X2_find_3 : sStm :=
  (s_seq (s_blk 3 (s_seq (s_decI 3 (e_k (nI 0)))
    (s_while C_X2_find_2 W_X2_find_2)))
    (s_inc 2 (nI 1)))
def B_X2_find : sStm :=
  (s_seq (s_seq (s_putI 2 1 (e_r 0) (e_get 5 2 (e_r 1)))
    (s_seq (s_blk 2 (s_seq (s_decI 2 (e_k (nI 0)))
    (s_while C_X2_find_1 W_X2_find_1)))
    (s_blk 2 (s_seq (s_decI 2 (e_k (nI 1)))
    (s_while C_X2_find_3 W_X2_find_3)))))
    s_ret0)
def M_X2_find : sSem := m_ofV 2 2 B_X2_find
set_option maxRecDepth 100000 in
set_option maxHeartbeats 4000000 in
theorem S_X2_find : sSS (cX2_find, wsX2_find, RX2, none, 3, 66, 4, vwCl, RX6, false) 0 0 B_X2_find :=
  (ss_seq (pcA := 85) (ss_seq (pcA := 8) (ss_putI (pcA := 1) (pcB := 5) (T := TX2) (index := 21) (se_aload_n dX2_find_0 rfl rfl) (se_getN (pcA := 2) (T := TX6) (k := 2) (index := 15) (se_aload_n dX2_find_1 rfl rfl) rfl in_X2_find_X6 (Nat.le_of_ble_eq_true rfl) ln_X2_find_15 rfl dX2_find_2 rfl) rfl in_X2_find_X2 tyX2 tyX2_ok nmX2 (Nat.le_of_ble_eq_true rfl) lk_X2_find_21 rfl rfl rfl dX2_find_5 rfl)
    (ss_seq (pcA := 33) (ss_blk (ss_seq (pcA := 10) (ss_decI_n (pcA := 9) (se_iconst dX2_find_8 (by decide +kernel) rfl) dX2_find_9 rfl (Nat.le_of_ble_eq_true rfl) rfl)
    (ss_while (pcB := 18) (sc_Flt (pcA := 11) (pcB := 15) (se_iload_n dX2_find_10 rfl rfl) (se_get (pcA := 12) (T := TX2) (k := 1) (index := 21) (se_aload_n dX2_find_11 rfl rfl) rfl in_X2_find_X2 (Nat.le_of_ble_eq_true rfl) lk_X2_find_21 rfl dX2_find_12 rfl) dX2_find_15 rfl rfl)
    (ss_seq (pcA := 27) (ss_callVS (pcA := 24) (index := 22) (sa_cr (pcA := 22) (se_getR (pcA := 19) (T := TX2) (k := 0) (index := 9) (se_aload_n dX2_find_18 rfl rfl) rfl in_X2_find_X2 (Nat.le_of_ble_eq_true rfl) lk_X2_find_9 rfl dX2_find_19 rfl) (sa_ci (pcA := 23) (se_iload_n dX2_find_22 rfl rfl) (sa_ci (pcA := 24) (se_iload_n dX2_find_23 rfl rfl) sa_nil))) T_X5_put gX2_find_X5_put rfl (by decide +kernel) (Nat.le_of_ble_eq_true rfl) (Nat.le_of_ble_eq_true rfl) (s_LenR (s_LenI (s_LenI s_Len0))) dX2_find_24 rfl)
    (ss_goto (pcG := 30) (ss_inc dX2_find_27 (Nat.le_of_ble_eq_true rfl) (by decide +kernel) rfl) dX2_find_30 rfl)))))
    (ss_blk (ss_seq (pcA := 35) (ss_decI_n (pcA := 34) (se_iconst dX2_find_33 (by decide +kernel) rfl) dX2_find_34 rfl (Nat.le_of_ble_eq_true rfl) rfl)
    (ss_while (pcB := 43) (sc_Flt (pcA := 36) (pcB := 40) (se_iload_n dX2_find_35 rfl rfl) (se_get (pcA := 37) (T := TX2) (k := 1) (index := 21) (se_aload_n dX2_find_36 rfl rfl) rfl in_X2_find_X2 (Nat.le_of_ble_eq_true rfl) lk_X2_find_21 rfl dX2_find_37 rfl) dX2_find_40 rfl rfl)
    (ss_seq (pcA := 79) (ss_blk (ss_seq (pcA := 45) (ss_decI_n (pcA := 44) (se_iconst dX2_find_43 (by decide +kernel) rfl) dX2_find_44 rfl (Nat.le_of_ble_eq_true rfl) rfl)
    (ss_while (pcB := 50) (sc_Flt (pcA := 46) (pcB := 47) (se_iload_n dX2_find_45 rfl rfl) (se_iload_n dX2_find_46 rfl rfl) dX2_find_47 rfl rfl)
    (ss_seq (pcA := 73) (ss_if (pcT := 59) (pcF := 73) (sc_Fne0 (pcB := 56) (se_callVI (pcA := 53) (ci := 5) (index := 28) (sa_cr (pcA := 51) (se_aload_n dX2_find_50 rfl rfl) (sa_ci (pcA := 52) (se_iload_n dX2_find_51 rfl rfl) (sa_ci (pcA := 53) (se_iload_n dX2_find_52 rfl rfl) sa_nil))) T_X6_isKin (s_Rcv_of 5 _ _) rfl gX2_find_X6_isKin rfl (by decide +kernel) (Nat.le_of_ble_eq_true rfl) (Nat.le_of_ble_eq_true rfl) (s_LenR (s_LenI (s_LenI s_Len0))) (Nat.le_of_ble_eq_true rfl) dX2_find_53 rfl) dX2_find_56 rfl rfl)
    (ss_callVV (pcA := 70) (ci := 2) (index := 36) (sa_cr (pcA := 60) (se_aload_n dX2_find_59 rfl rfl) (sa_ci (pcA := 65) (se_callVI (pcA := 62) (ci := 2) (index := 32) (sa_cr (pcA := 61) (se_aload_n dX2_find_60 rfl rfl) (sa_ci (pcA := 62) (se_iload_n dX2_find_61 rfl rfl) sa_nil)) T_X2_lowestOf (s_Rcv_of 2 _ _) rfl gX2_find_X2_lowestOf rfl (by decide +kernel) (Nat.le_of_ble_eq_true rfl) (Nat.le_of_ble_eq_true rfl) (s_LenR (s_LenI s_Len0)) (Nat.le_of_ble_eq_true rfl) dX2_find_62 rfl) (sa_ci (pcA := 70) (se_callVI (pcA := 67) (ci := 2) (index := 32) (sa_cr (pcA := 66) (se_aload_n dX2_find_65 rfl rfl) (sa_ci (pcA := 67) (se_iload_n dX2_find_66 rfl rfl) sa_nil)) T_X2_lowestOf (s_Rcv_of 2 _ _) rfl gX2_find_X2_lowestOf rfl (by decide +kernel) (Nat.le_of_ble_eq_true rfl) (Nat.le_of_ble_eq_true rfl) (s_LenR (s_LenI s_Len0)) (Nat.le_of_ble_eq_true rfl) dX2_find_67 rfl) sa_nil))) T_X2_join (s_Rcv_of 2 _ _) rfl gX2_find_X2_join rfl (by decide +kernel) (Nat.le_of_ble_eq_true rfl) (Nat.le_of_ble_eq_true rfl) (s_LenR (s_LenI (s_LenI s_Len0))) dX2_find_70 rfl) ss_skip)
    (ss_goto (pcG := 76) (ss_inc dX2_find_73 (Nat.le_of_ble_eq_true rfl) (by decide +kernel) rfl) dX2_find_76 rfl)))))
    (ss_goto (pcG := 82) (ss_inc dX2_find_79 (Nat.le_of_ble_eq_true rfl) (by decide +kernel) rfl) dX2_find_82 rfl)))))))
    (ss_ret0 dX2_find_85 rfl))
theorem T_X2_find : sMet vwCl RX6 yX2_find wsX2_find 3 66 M_X2_find := sMet_of rfl (by decide +kernel) rfl rfl (fun h => by cases h) (m_ofV_run _ _ _) S_X2_find (m_ofV_cat _ _ _ (Nat.le_of_ble_eq_true rfl))
theorem in_X2_sizeOf_X2 : ∀ w ∈ u_ws RX2 TX2 2, w ∈ wsX2_sizeOf := by decide +kernel
theorem lk_X2_sizeOf_21 : Cond.fieldLink RX2 21 RX2 "size" "I" ∈ wsX2_sizeOf := by decide +kernel
abbrev C_X2_sizeOf_1 : sCd := (c_cmp i_lt (e_i 3) (e_get 2 1 (e_r 0)))
abbrev W_X2_sizeOf_1 : sStm :=
  (s_seq (s_if (c_cmp i_eq (e_callI M_X2_lowestOf (a_cr (e_r 0) (a_ci (e_i 3) a_nil))) (e_i 1))
    (s_inc 2 (nI 1)) s_skip)
    (s_inc 3 (nI 1)))
def B_X2_sizeOf : sStm :=
  (s_seq (s_decI 2 (e_k (nI 0)))
    (s_seq (s_blk 3 (s_seq (s_decI 3 (e_k (nI 0)))
    (s_while C_X2_sizeOf_1 W_X2_sizeOf_1)))
    (s_retI (e_i 2))))
def M_X2_sizeOf : sSem := m_ofV 2 2 B_X2_sizeOf
set_option maxRecDepth 100000 in
set_option maxHeartbeats 4000000 in
theorem S_X2_sizeOf : sSS (cX2_sizeOf, wsX2_sizeOf, RX2, (some .int), 2, 42, 4, vwCl, RX6, false) 0 0 B_X2_sizeOf :=
  (ss_seq (pcA := 2) (ss_decI_n (pcA := 1) (se_iconst dX2_sizeOf_0 (by decide +kernel) rfl) dX2_sizeOf_1 rfl (Nat.le_of_ble_eq_true rfl) rfl)
    (ss_seq (pcA := 30) (ss_blk (ss_seq (pcA := 4) (ss_decI_n (pcA := 3) (se_iconst dX2_sizeOf_2 (by decide +kernel) rfl) dX2_sizeOf_3 rfl (Nat.le_of_ble_eq_true rfl) rfl)
    (ss_while (pcB := 12) (sc_Flt (pcA := 5) (pcB := 9) (se_iload_n dX2_sizeOf_4 rfl rfl) (se_get (pcA := 6) (T := TX2) (k := 1) (index := 21) (se_aload_n dX2_sizeOf_5 rfl rfl) rfl in_X2_sizeOf_X2 (Nat.le_of_ble_eq_true rfl) lk_X2_sizeOf_21 rfl dX2_sizeOf_6 rfl) dX2_sizeOf_9 rfl rfl)
    (ss_seq (pcA := 24) (ss_if (pcT := 21) (pcF := 24) (sc_Feq (pcA := 17) (pcB := 18) (se_callVI (pcA := 14) (ci := 2) (index := 32) (sa_cr (pcA := 13) (se_aload_n dX2_sizeOf_12 rfl rfl) (sa_ci (pcA := 14) (se_iload_n dX2_sizeOf_13 rfl rfl) sa_nil)) T_X2_lowestOf (s_Rcv_of 2 _ _) rfl gX2_sizeOf_X2_lowestOf rfl (by decide +kernel) (Nat.le_of_ble_eq_true rfl) (Nat.le_of_ble_eq_true rfl) (s_LenR (s_LenI s_Len0)) (Nat.le_of_ble_eq_true rfl) dX2_sizeOf_14 rfl) (se_iload_n dX2_sizeOf_17 rfl rfl) dX2_sizeOf_18 rfl rfl)
    (ss_inc dX2_sizeOf_21 (Nat.le_of_ble_eq_true rfl) (by decide +kernel) rfl) ss_skip)
    (ss_goto (pcG := 27) (ss_inc dX2_sizeOf_24 (Nat.le_of_ble_eq_true rfl) (by decide +kernel) rfl) dX2_sizeOf_27 rfl)))))
    (ss_retI (pcA := 31) (se_iload_n dX2_sizeOf_30 rfl rfl) dX2_sizeOf_31 rfl)))
theorem T_X2_sizeOf : sMet vwCl RX6 yX2_sizeOf wsX2_sizeOf 2 42 M_X2_sizeOf := sMet_of rfl (by decide +kernel) rfl rfl (fun h => by cases h) (m_ofV_run _ _ _) S_X2_sizeOf (m_ofV_cat _ _ _ (Nat.le_of_ble_eq_true rfl))
theorem in_X2_many_X2 : ∀ w ∈ u_ws RX2 TX2 2, w ∈ wsX2_many := by decide +kernel
theorem lk_X2_many_21 : Cond.fieldLink RX2 21 RX2 "size" "I" ∈ wsX2_many := by decide +kernel
abbrev C_X2_many_1 : sCd := (c_cmp i_lt (e_i 2) (e_get 2 1 (e_r 0)))
abbrev W_X2_many_1 : sStm :=
  (s_seq (s_if (c_cmp i_eq (e_callI M_X2_lowestOf (a_cr (e_r 0) (a_ci (e_i 2) a_nil))) (e_i 2))
    (s_inc 1 (nI 1)) s_skip)
    (s_inc 2 (nI 1)))
def B_X2_many : sStm :=
  (s_seq (s_decI 1 (e_k (nI 0)))
    (s_seq (s_blk 2 (s_seq (s_decI 2 (e_k (nI 0)))
    (s_while C_X2_many_1 W_X2_many_1)))
    (s_retI (e_i 1))))
def M_X2_many : sSem := m_ofV 2 1 B_X2_many
set_option maxRecDepth 100000 in
set_option maxHeartbeats 4000000 in
theorem S_X2_many : sSS (cX2_many, wsX2_many, RX2, (some .int), 2, 42, 3, vwCl, RX6, false) 0 0 B_X2_many :=
  (ss_seq (pcA := 2) (ss_decI_n (pcA := 1) (se_iconst dX2_many_0 (by decide +kernel) rfl) dX2_many_1 rfl (Nat.le_of_ble_eq_true rfl) rfl)
    (ss_seq (pcA := 30) (ss_blk (ss_seq (pcA := 4) (ss_decI_n (pcA := 3) (se_iconst dX2_many_2 (by decide +kernel) rfl) dX2_many_3 rfl (Nat.le_of_ble_eq_true rfl) rfl)
    (ss_while (pcB := 12) (sc_Flt (pcA := 5) (pcB := 9) (se_iload_n dX2_many_4 rfl rfl) (se_get (pcA := 6) (T := TX2) (k := 1) (index := 21) (se_aload_n dX2_many_5 rfl rfl) rfl in_X2_many_X2 (Nat.le_of_ble_eq_true rfl) lk_X2_many_21 rfl dX2_many_6 rfl) dX2_many_9 rfl rfl)
    (ss_seq (pcA := 24) (ss_if (pcT := 21) (pcF := 24) (sc_Feq (pcA := 17) (pcB := 18) (se_callVI (pcA := 14) (ci := 2) (index := 32) (sa_cr (pcA := 13) (se_aload_n dX2_many_12 rfl rfl) (sa_ci (pcA := 14) (se_iload_n dX2_many_13 rfl rfl) sa_nil)) T_X2_lowestOf (s_Rcv_of 2 _ _) rfl gX2_many_X2_lowestOf rfl (by decide +kernel) (Nat.le_of_ble_eq_true rfl) (Nat.le_of_ble_eq_true rfl) (s_LenR (s_LenI s_Len0)) (Nat.le_of_ble_eq_true rfl) dX2_many_14 rfl) (se_iload_n dX2_many_17 rfl rfl) dX2_many_18 rfl rfl)
    (ss_inc dX2_many_21 (Nat.le_of_ble_eq_true rfl) (by decide +kernel) rfl) ss_skip)
    (ss_goto (pcG := 27) (ss_inc dX2_many_24 (Nat.le_of_ble_eq_true rfl) (by decide +kernel) rfl) dX2_many_27 rfl)))))
    (ss_retI (pcA := 31) (se_iload_n dX2_many_30 rfl rfl) dX2_many_31 rfl)))
theorem T_X2_many : sMet vwCl RX6 yX2_many wsX2_many 2 42 M_X2_many := sMet_of rfl (by decide +kernel) rfl rfl (fun h => by cases h) (m_ofV_run _ _ _) S_X2_many (m_ofV_cat _ _ _ (Nat.le_of_ble_eq_true rfl))
theorem in_X2_greatest_X2 : ∀ w ∈ u_ws RX2 TX2 2, w ∈ wsX2_greatest := by decide +kernel
theorem lk_X2_greatest_21 : Cond.fieldLink RX2 21 RX2 "size" "I" ∈ wsX2_greatest := by decide +kernel
theorem mm_X2_greatest_47 : Cond.methodLink RX2 47 Lib.Math.max.name ∈ wsX2_greatest := by decide +kernel
theorem ms_X2_greatest_max : Cond.static Lib.Math.max.name ∈ wsX2_greatest := by decide +kernel
theorem mi_X2_greatest_Math : Cond.initialized "java/lang/Math" ∈ wsX2_greatest := by decide +kernel
theorem mk_X2_greatest_max : Cond.code Lib.Math.max.name Lib.Math.max.code 2 (some .int) ∈ wsX2_greatest := by decide +kernel
abbrev C_X2_greatest_1 : sCd := (c_cmp i_lt (e_i 2) (e_get 2 1 (e_r 0)))
abbrev W_X2_greatest_1 : sStm :=
  (s_seq (s_setI 1 (e_max (e_i 1) (e_callI M_X2_sizeOf (a_cr (e_r 0) (a_ci (e_i 2) a_nil)))))
    (s_inc 2 (nI 1)))
def B_X2_greatest : sStm :=
  (s_seq (s_decI 1 (e_k (nI 0)))
    (s_seq (s_blk 2 (s_seq (s_decI 2 (e_k (nI 0)))
    (s_while C_X2_greatest_1 W_X2_greatest_1)))
    (s_retI (e_i 1))))
def M_X2_greatest : sSem := m_ofV 2 1 B_X2_greatest
set_option maxRecDepth 100000 in
set_option maxHeartbeats 4000000 in
theorem S_X2_greatest : sSS (cX2_greatest, wsX2_greatest, RX2, (some .int), 3, 65, 3, vwCl, RX6, false) 0 0 B_X2_greatest :=
  (ss_seq (pcA := 2) (ss_decI_n (pcA := 1) (se_iconst dX2_greatest_0 (by decide +kernel) rfl) dX2_greatest_1 rfl (Nat.le_of_ble_eq_true rfl) rfl)
    (ss_seq (pcA := 28) (ss_blk (ss_seq (pcA := 4) (ss_decI_n (pcA := 3) (se_iconst dX2_greatest_2 (by decide +kernel) rfl) dX2_greatest_3 rfl (Nat.le_of_ble_eq_true rfl) rfl)
    (ss_while (pcB := 12) (sc_Flt (pcA := 5) (pcB := 9) (se_iload_n dX2_greatest_4 rfl rfl) (se_get (pcA := 6) (T := TX2) (k := 1) (index := 21) (se_aload_n dX2_greatest_5 rfl rfl) rfl in_X2_greatest_X2 (Nat.le_of_ble_eq_true rfl) lk_X2_greatest_21 rfl dX2_greatest_6 rfl) dX2_greatest_9 rfl rfl)
    (ss_seq (pcA := 22) (ss_setI_n (pcA := 21) (se_max (pcA := 13) (pcB := 18) (index := 47) (se_iload_n dX2_greatest_12 rfl rfl) (se_callVI (pcA := 15) (ci := 2) (index := 44) (sa_cr (pcA := 14) (se_aload_n dX2_greatest_13 rfl rfl) (sa_ci (pcA := 15) (se_iload_n dX2_greatest_14 rfl rfl) sa_nil)) T_X2_sizeOf (s_Rcv_of 2 _ _) rfl gX2_greatest_X2_sizeOf rfl (by decide +kernel) (Nat.le_of_ble_eq_true rfl) (Nat.le_of_ble_eq_true rfl) (s_LenR (s_LenI s_Len0)) (Nat.le_of_ble_eq_true rfl) dX2_greatest_15 rfl) mm_X2_greatest_47 ms_X2_greatest_max mi_X2_greatest_Math mk_X2_greatest_max (Nat.le_of_ble_eq_true rfl) (Nat.le_of_ble_eq_true rfl) (Nat.le_of_ble_eq_true rfl) dX2_greatest_18 rfl) dX2_greatest_21 rfl (Nat.le_of_ble_eq_true rfl) rfl)
    (ss_goto (pcG := 25) (ss_inc dX2_greatest_22 (Nat.le_of_ble_eq_true rfl) (by decide +kernel) rfl) dX2_greatest_25 rfl)))))
    (ss_retI (pcA := 29) (se_iload_n dX2_greatest_28 rfl rfl) dX2_greatest_29 rfl)))
theorem T_X2_greatest : sMet vwCl RX6 yX2_greatest wsX2_greatest 3 65 M_X2_greatest := sMet_of rfl (by decide +kernel) rfl rfl (fun h => by cases h) (m_ofV_run _ _ _) S_X2_greatest (m_ofV_cat _ _ _ (Nat.le_of_ble_eq_true rfl))
theorem ml_X1_init_3 : Cond.methodLink RX1 3 objectInit ∈ wsX1_init := by decide +kernel
theorem mo_X1_init : Cond.instanceMethod objectInit ∈ wsX1_init := by decide +kernel
theorem mc_X1_init : Cond.code objectInit ⟨#[0xb1]⟩ 1 none ∈ wsX1_init := by decide +kernel
theorem na_X1_init : Cond.arrayClass .int ∈ wsX1_init := by decide +kernel
theorem in_X1_init_X1 : ∀ w ∈ u_ws RX1 TX1 8, w ∈ wsX1_init := by decide +kernel
theorem lk_X1_init_9 : Cond.fieldLink RX1 9 RX1 "path" "[I" ∈ wsX1_init := by decide +kernel
theorem lk_X1_init_15 : Cond.fieldLink RX1 15 RX1 "worth" "[I" ∈ wsX1_init := by decide +kernel
theorem lk_X1_init_18 : Cond.fieldLink RX1 18 RX1 "next" "[I" ∈ wsX1_init := by decide +kernel
theorem lk_X1_init_21 : Cond.fieldLink RX1 21 RX1 "end" "[I" ∈ wsX1_init := by decide +kernel
def B_X1_init : sStm :=
  (s_seq (s_seq (s_super (e_r 0))
    (s_seq (s_putR 1 0 (e_r 0) (e_newa (e_k (nI 12))))
    (s_seq (s_putR 1 5 (e_r 0) (e_newa (e_k (nI 12))))
    (s_seq (s_putR 1 6 (e_r 0) (e_newa (e_k (nI 12))))
    (s_putR 1 7 (e_r 0) (e_newa (e_k (nI 12))))))))
    s_ret0)
def M_X1_init : sSem := m_of 1 B_X1_init
set_option maxRecDepth 100000 in
set_option maxHeartbeats 4000000 in
theorem S_X1_init : sSS (cX1_init, wsX1_init, RX1, none, 1, 20, 1, vwCl, RX6, true) 0 0 B_X1_init :=
  (ss_seq (pcA := 36) (ss_seq (pcA := 4) (ss_objInit (pcA := 1) (se_aload_n dX1_init_0 rfl rfl) ml_X1_init_3 mo_X1_init mc_X1_init dX1_init_1 ⟨(Nat.le_of_ble_eq_true rfl), (Nat.le_of_ble_eq_true rfl)⟩ rfl)
    (ss_seq (pcA := 12) (ss_putRF (pcA := 5) (pcB := 9) (T := TX1) (index := 9) (se_aload_n dX1_init_4 rfl rfl) (se_newa (pcA := 7) (se_bipush dX1_init_5 (by decide +kernel) rfl) na_X1_init dX1_init_7 rfl) rfl in_X1_init_X1 tyX1 tyX1_ok nmX1 (Nat.le_of_ble_eq_true rfl) lk_X1_init_9 rfl rfl rfl rfl (Or.inr ⟨_, rfl⟩) dX1_init_9 rfl)
    (ss_seq (pcA := 20) (ss_putRF (pcA := 13) (pcB := 17) (T := TX1) (index := 15) (se_aload_n dX1_init_12 rfl rfl) (se_newa (pcA := 15) (se_bipush dX1_init_13 (by decide +kernel) rfl) na_X1_init dX1_init_15 rfl) rfl in_X1_init_X1 tyX1 tyX1_ok nmX1 (Nat.le_of_ble_eq_true rfl) lk_X1_init_15 rfl rfl rfl rfl (Or.inr ⟨_, rfl⟩) dX1_init_17 rfl)
    (ss_seq (pcA := 28) (ss_putRF (pcA := 21) (pcB := 25) (T := TX1) (index := 18) (se_aload_n dX1_init_20 rfl rfl) (se_newa (pcA := 23) (se_bipush dX1_init_21 (by decide +kernel) rfl) na_X1_init dX1_init_23 rfl) rfl in_X1_init_X1 tyX1 tyX1_ok nmX1 (Nat.le_of_ble_eq_true rfl) lk_X1_init_18 rfl rfl rfl rfl (Or.inr ⟨_, rfl⟩) dX1_init_25 rfl)
    (ss_putRF (pcA := 29) (pcB := 33) (T := TX1) (index := 21) (se_aload_n dX1_init_28 rfl rfl) (se_newa (pcA := 31) (se_bipush dX1_init_29 (by decide +kernel) rfl) na_X1_init dX1_init_31 rfl) rfl in_X1_init_X1 tyX1 tyX1_ok nmX1 (Nat.le_of_ble_eq_true rfl) lk_X1_init_21 rfl rfl rfl rfl (Or.inr ⟨_, rfl⟩) dX1_init_33 rfl)))))
    (ss_ret0 dX1_init_36 rfl))
theorem T_X1_init : sMet vwCl RX6 yX1_init wsX1_init 1 20 M_X1_init := sMet_of rfl (by decide +kernel) rfl rfl (fun _ => rfl) (m_of_run _ _) S_X1_init (m_of_cat _ _ (Nat.le_of_ble_eq_true rfl))
theorem in_X1_addUp_X1 : ∀ w ∈ u_ws RX1 TX1 8, w ∈ wsX1_addUp := by decide +kernel
theorem lk_X1_addUp_15 : Cond.fieldLink RX1 15 RX1 "worth" "[I" ∈ wsX1_addUp := by decide +kernel
abbrev C_X1_addUp_1 : sCd := (c_cmp i_lt (e_i 6) (e_i 4))
abbrev W_X1_addUp_1 : sStm :=
  (s_seq (s_if (c_cmp0 i_ne (e_callI M_X6_leads (a_cr (e_r 1) (a_ci (e_i 6) (a_ci (e_i 4) a_nil)))))
    (s_setI 5 (e_add (e_i 5) (e_callI M_X5_at (a_cr (e_getR 1 5 (e_r 0)) (a_ci (e_i 6) a_nil))))) s_skip)
    (s_inc 6 (nI 1)))
abbrev C_X1_addUp_2 : sCd := (c_cmp i_le (e_i 4) (e_i 3))
abbrev W_X1_addUp_2 : sStm :=
  (s_seq (s_blk 5 (s_seq (s_decI 5 (e_k (nI 0)))
    (s_seq (s_blk 6 (s_seq (s_decI 6 (e_i 2))
    (s_while C_X1_addUp_1 W_X1_addUp_1)))
    (s_callV M_X5_put (a_cr (e_getR 1 5 (e_r 0)) (a_ci (e_i 4) (a_ci (e_i 5) a_nil)))))))
    (s_inc 4 (nI 1)))
def B_X1_addUp : sStm :=
  (s_seq (s_callV M_X5_put (a_cr (e_getR 1 5 (e_r 0)) (a_ci (e_i 2) (a_ci (e_k (nI 1)) a_nil))))
    (s_seq (s_blk 4 (s_seq (s_decI 4 (e_add (e_i 2) (e_k (nI 1))))
    (s_while C_X1_addUp_2 W_X1_addUp_2)))
    (s_retI (e_callI M_X5_at (a_cr (e_getR 1 5 (e_r 0)) (a_ci (e_i 3) a_nil))))))
def M_X1_addUp : sSem := m_ofV 1 4 B_X1_addUp
set_option maxRecDepth 100000 in
set_option maxHeartbeats 4000000 in
theorem S_X1_addUp : sSS (cX1_addUp, wsX1_addUp, RX1, (some .int), 4, 93, 7, vwCl, RX6, false) 0 0 B_X1_addUp :=
  (ss_seq (pcA := 9) (ss_callVS (pcA := 6) (index := 24) (sa_cr (pcA := 4) (se_getR (pcA := 1) (T := TX1) (k := 5) (index := 15) (se_aload_n dX1_addUp_0 rfl rfl) rfl in_X1_addUp_X1 (Nat.le_of_ble_eq_true rfl) lk_X1_addUp_15 rfl dX1_addUp_1 rfl) (sa_ci (pcA := 5) (se_iload_n dX1_addUp_4 rfl rfl) (sa_ci (pcA := 6) (se_iconst dX1_addUp_5 (by decide +kernel) rfl) sa_nil))) T_X5_put gX1_addUp_X5_put rfl (by decide +kernel) (Nat.le_of_ble_eq_true rfl) (Nat.le_of_ble_eq_true rfl) (s_LenR (s_LenI (s_LenI s_Len0))) dX1_addUp_6 rfl)
    (ss_seq (pcA := 81) (ss_blk (ss_seq (pcA := 14) (ss_decI (pcA := 12) (se_add (pcA := 10) (pcB := 11) (se_iload_n dX1_addUp_9 rfl rfl) (se_iconst dX1_addUp_10 (by decide +kernel) rfl) dX1_addUp_11 rfl) dX1_addUp_12 (Nat.le_of_ble_eq_true rfl) rfl)
    (ss_while (pcB := 20) (sc_Fle (pcA := 16) (pcB := 17) (se_iload dX1_addUp_14 rfl) (se_iload_n dX1_addUp_16 rfl rfl) dX1_addUp_17 rfl rfl)
    (ss_seq (pcA := 75) (ss_blk (ss_seq (pcA := 23) (ss_decI (pcA := 21) (se_iconst dX1_addUp_20 (by decide +kernel) rfl) dX1_addUp_21 (Nat.le_of_ble_eq_true rfl) rfl)
    (ss_seq (pcA := 64) (ss_blk (ss_seq (pcA := 26) (ss_decI (pcA := 24) (se_iload_n dX1_addUp_23 rfl rfl) dX1_addUp_24 (Nat.le_of_ble_eq_true rfl) rfl)
    (ss_while (pcB := 33) (sc_Flt (pcA := 28) (pcB := 30) (se_iload dX1_addUp_26 rfl) (se_iload dX1_addUp_28 rfl) dX1_addUp_30 rfl rfl)
    (ss_seq (pcA := 58) (ss_if (pcT := 44) (pcF := 58) (sc_Fne0 (pcB := 41) (se_callVI (pcA := 38) (ci := 5) (index := 30) (sa_cr (pcA := 34) (se_aload_n dX1_addUp_33 rfl rfl) (sa_ci (pcA := 36) (se_iload dX1_addUp_34 rfl) (sa_ci (pcA := 38) (se_iload dX1_addUp_36 rfl) sa_nil))) T_X6_leads (s_Rcv_of 5 _ _) rfl gX1_addUp_X6_leads rfl (by decide +kernel) (Nat.le_of_ble_eq_true rfl) (Nat.le_of_ble_eq_true rfl) (s_LenR (s_LenI (s_LenI s_Len0))) (Nat.le_of_ble_eq_true rfl) dX1_addUp_38 rfl) dX1_addUp_41 rfl rfl)
    (ss_setI (pcA := 56) (se_add (pcA := 46) (pcB := 55) (se_iload dX1_addUp_44 rfl) (se_callSI (pcA := 52) (index := 36) (sa_cr (pcA := 50) (se_getR (pcA := 47) (T := TX1) (k := 5) (index := 15) (se_aload_n dX1_addUp_46 rfl rfl) rfl in_X1_addUp_X1 (Nat.le_of_ble_eq_true rfl) lk_X1_addUp_15 rfl dX1_addUp_47 rfl) (sa_ci (pcA := 52) (se_iload dX1_addUp_50 rfl) sa_nil)) T_X5_at gX1_addUp_X5_at rfl (by decide +kernel) (Nat.le_of_ble_eq_true rfl) (Nat.le_of_ble_eq_true rfl) (s_LenR (s_LenI s_Len0)) (Nat.le_of_ble_eq_true rfl) dX1_addUp_52 rfl) dX1_addUp_55 rfl) dX1_addUp_56 (Nat.le_of_ble_eq_true rfl) rfl) ss_skip)
    (ss_goto (pcG := 61) (ss_inc dX1_addUp_58 (Nat.le_of_ble_eq_true rfl) (by decide +kernel) rfl) dX1_addUp_61 rfl)))))
    (ss_callVS (pcA := 72) (index := 24) (sa_cr (pcA := 68) (se_getR (pcA := 65) (T := TX1) (k := 5) (index := 15) (se_aload_n dX1_addUp_64 rfl rfl) rfl in_X1_addUp_X1 (Nat.le_of_ble_eq_true rfl) lk_X1_addUp_15 rfl dX1_addUp_65 rfl) (sa_ci (pcA := 70) (se_iload dX1_addUp_68 rfl) (sa_ci (pcA := 72) (se_iload dX1_addUp_70 rfl) sa_nil))) T_X5_put gX1_addUp_X5_put rfl (by decide +kernel) (Nat.le_of_ble_eq_true rfl) (Nat.le_of_ble_eq_true rfl) (s_LenR (s_LenI (s_LenI s_Len0))) dX1_addUp_72 rfl))))
    (ss_goto (pcG := 78) (ss_inc dX1_addUp_75 (Nat.le_of_ble_eq_true rfl) (by decide +kernel) rfl) dX1_addUp_78 rfl)))))
    (ss_retI (pcA := 89) (se_callSI (pcA := 86) (index := 36) (sa_cr (pcA := 85) (se_getR (pcA := 82) (T := TX1) (k := 5) (index := 15) (se_aload_n dX1_addUp_81 rfl rfl) rfl in_X1_addUp_X1 (Nat.le_of_ble_eq_true rfl) lk_X1_addUp_15 rfl dX1_addUp_82 rfl) (sa_ci (pcA := 86) (se_iload_n dX1_addUp_85 rfl rfl) sa_nil)) T_X5_at gX1_addUp_X5_at rfl (by decide +kernel) (Nat.le_of_ble_eq_true rfl) (Nat.le_of_ble_eq_true rfl) (s_LenR (s_LenI s_Len0)) (Nat.le_of_ble_eq_true rfl) dX1_addUp_86 rfl) dX1_addUp_89 rfl)))
theorem T_X1_addUp : sMet vwCl RX6 yX1_addUp wsX1_addUp 4 93 M_X1_addUp := sMet_of rfl (by decide +kernel) rfl rfl (fun h => by cases h) (m_ofV_run _ _ _) S_X1_addUp (m_ofV_cat _ _ _ (Nat.le_of_ble_eq_true rfl))
abbrev C_X1_goEach_1 : sCd := (c_and (c_cmp i_le (e_i 5) (e_i 2)) (c_cmp i_lt (e_i 3) (e_k (nI 12))))
abbrev W_X1_goEach_1 (sem : sSem) : sStm :=
  (s_seq (s_if (c_cmp0 i_ne (e_callI M_X6_leads (a_cr (e_r 0) (a_ci (e_i 1) (a_ci (e_i 5) a_nil)))))
    (s_setI 4 (e_add (e_i 4) (e_callI sem (a_cr (e_r 0) (a_ci (e_i 5) (a_ci (e_i 2) (a_ci (e_add (e_i 3) (e_k (nI 1))) a_nil))))))) s_skip)
    (s_inc 5 (nI 1)))
def B_X1_goEach (sem : sSem) : sStm :=
  (s_seq (s_if (c_cmp i_eq (e_i 1) (e_i 2))
    (s_retI (e_k (nI 1))) s_skip)
    (s_seq (s_decI 4 (e_k (nI 0)))
    (s_seq (s_blk 5 (s_seq (s_decI 5 (e_add (e_i 1) (e_k (nI 1))))
    (s_while C_X1_goEach_1 (W_X1_goEach_1 sem))))
    (s_retI (e_i 4)))))
def M_X1_goEach : Nat → sSem
  | 0 => fun _ _ => none
  | d + 1 => m_of 4 (B_X1_goEach (M_X1_goEach d))
set_option maxRecDepth 100000 in
set_option maxHeartbeats 4000000 in
theorem S_X1_goEach (fr lo : Nat) (sem : sSem) (frm lom : Nat) (hM : sMet vwCl RX6 yX1_goEach wsX1_goEach frm lom sem) (hfr : frm + 1 ≤ fr) (hlo : 8 + (6 + 11) + lom ≤ lo) (hf0 : 4 ≤ fr) (hl0 : 93 ≤ lo) : sSS (cX1_goEach, wsX1_goEach, RX1, (some .int), fr, lo, 6, vwCl, RX6, false) 0 0 (B_X1_goEach sem) :=
  (ss_seq (pcA := 7) (ss_if (pcT := 5) (pcF := 7) (sc_Feq (pcA := 1) (pcB := 2) (se_iload_n dX1_goEach_0 rfl rfl) (se_iload_n dX1_goEach_1 rfl rfl) dX1_goEach_2 rfl rfl)
    (ss_retI (pcA := 6) (se_iconst dX1_goEach_5 (by decide +kernel) rfl) dX1_goEach_6 rfl) ss_skip)
    (ss_seq (pcA := 10) (ss_decI (pcA := 8) (se_iconst dX1_goEach_7 (by decide +kernel) rfl) dX1_goEach_8 (Nat.le_of_ble_eq_true rfl) rfl)
    (ss_seq (pcA := 58) (ss_blk (ss_seq (pcA := 15) (ss_decI (pcA := 13) (se_add (pcA := 11) (pcB := 12) (se_iload_n dX1_goEach_10 rfl rfl) (se_iconst dX1_goEach_11 (by decide +kernel) rfl) dX1_goEach_12 rfl) dX1_goEach_13 (Nat.le_of_ble_eq_true rfl) rfl)
    (ss_while (pcB := 27) (sc_and (pcA := 21) (sc_Fle (pcA := 17) (pcB := 18) (se_iload dX1_goEach_15 rfl) (se_iload_n dX1_goEach_17 rfl rfl) dX1_goEach_18 rfl rfl) (sc_Flt (pcA := 22) (pcB := 24) (se_iload_n dX1_goEach_21 rfl rfl) (se_bipush dX1_goEach_22 (by decide +kernel) rfl) dX1_goEach_24 rfl rfl))
    (ss_seq (pcA := 52) (ss_if (pcT := 37) (pcF := 52) (sc_Fne0 (pcB := 34) (se_callVI (pcA := 31) (ci := 5) (index := 30) (sa_cr (pcA := 28) (se_aload_n dX1_goEach_27 rfl rfl) (sa_ci (pcA := 29) (se_iload_n dX1_goEach_28 rfl rfl) (sa_ci (pcA := 31) (se_iload dX1_goEach_29 rfl) sa_nil))) T_X6_leads (s_Rcv_of 5 _ _) rfl gX1_goEach_X6_leads rfl (by decide +kernel) (Nat.le_trans (Nat.le_of_ble_eq_true rfl) hf0) (Nat.le_trans (Nat.le_of_ble_eq_true rfl) hl0) (s_LenR (s_LenI (s_LenI s_Len0))) (Nat.le_of_ble_eq_true rfl) dX1_goEach_31 rfl) dX1_goEach_34 rfl rfl)
    (ss_setI (pcA := 50) (se_add (pcA := 39) (pcB := 49) (se_iload dX1_goEach_37 rfl) (se_callSI (pcA := 46) (index := 40) (sa_cr (pcA := 40) (se_aload_n dX1_goEach_39 rfl rfl) (sa_ci (pcA := 42) (se_iload dX1_goEach_40 rfl) (sa_ci (pcA := 43) (se_iload_n dX1_goEach_42 rfl rfl) (sa_ci (pcA := 46) (se_add (pcA := 44) (pcB := 45) (se_iload_n dX1_goEach_43 rfl rfl) (se_iconst dX1_goEach_44 (by decide +kernel) rfl) dX1_goEach_45 rfl) sa_nil)))) hM gX1_goEach_X1_goEach rfl (by decide +kernel) hfr hlo (s_LenR (s_LenI (s_LenI (s_LenI s_Len0)))) (Nat.le_of_ble_eq_true rfl) dX1_goEach_46 rfl) dX1_goEach_49 rfl) dX1_goEach_50 (Nat.le_of_ble_eq_true rfl) rfl) ss_skip)
    (ss_goto (pcG := 55) (ss_inc dX1_goEach_52 (Nat.le_of_ble_eq_true rfl) (by decide +kernel) rfl) dX1_goEach_55 rfl)))))
    (ss_retI (pcA := 60) (se_iload dX1_goEach_58 rfl) dX1_goEach_60 rfl))))
theorem T_X1_goEach : ∀ d : Nat, sMet vwCl RX6 yX1_goEach wsX1_goEach (4 + d) (93 + d * 25) (M_X1_goEach d)
  | 0 => fun args σ v σ1 h => by cases h
  | d + 1 => sMet_of rfl (by decide +kernel) rfl rfl (fun h => by cases h) (m_of_run _ _) (S_X1_goEach (4 + (d + 1)) (93 + (d + 1) * 25) (M_X1_goEach d) (4 + d) (93 + d * 25) (T_X1_goEach d) (by omega) (by omega) (by omega) (by omega)) (m_of_cat _ _ (Nat.le_of_ble_eq_true rfl))
theorem in_X1_bestNext_X1 : ∀ w ∈ u_ws RX1 TX1 8, w ∈ wsX1_bestNext := by decide +kernel
theorem lk_X1_bestNext_18 : Cond.fieldLink RX1 18 RX1 "next" "[I" ∈ wsX1_bestNext := by decide +kernel
theorem lk_X1_bestNext_15 : Cond.fieldLink RX1 15 RX1 "worth" "[I" ∈ wsX1_bestNext := by decide +kernel
abbrev C_X1_bestNext_1 : sCd := (c_cmp i_le (e_i 5) (e_i 3))
abbrev W_X1_bestNext_1 : sStm :=
  (s_seq (s_if (c_and (c_and (c_cmp i_ne (e_callI M_X5_at (a_cr (e_getR 1 6 (e_r 0)) (a_ci (e_i 5) a_nil))) (e_k (-1))) (c_cmp0 i_ne (e_callI M_X6_leads (a_cr (e_r 1) (a_ci (e_i 2) (a_ci (e_i 5) a_nil)))))) (c_or (c_cmp i_eq (e_i 4) (e_k (-1))) (c_cmp i_gt (e_callI M_X5_at (a_cr (e_getR 1 5 (e_r 0)) (a_ci (e_i 5) a_nil))) (e_callI M_X5_at (a_cr (e_getR 1 5 (e_r 0)) (a_ci (e_i 4) a_nil))))))
    (s_setI 4 (e_i 5)) s_skip)
    (s_inc 5 (nI 1)))
def B_X1_bestNext : sStm :=
  (s_seq (s_decI 4 (e_k (-1)))
    (s_seq (s_blk 5 (s_seq (s_decI 5 (e_add (e_i 2) (e_k (nI 1))))
    (s_while C_X1_bestNext_1 W_X1_bestNext_1)))
    (s_retI (e_i 4))))
def M_X1_bestNext : sSem := m_ofV 1 4 B_X1_bestNext
set_option maxRecDepth 100000 in
set_option maxHeartbeats 4000000 in
theorem S_X1_bestNext : sSS (cX1_bestNext, wsX1_bestNext, RX1, (some .int), 4, 93, 6, vwCl, RX6, false) 0 0 B_X1_bestNext :=
  (ss_seq (pcA := 3) (ss_decI (pcA := 1) (se_iconst dX1_bestNext_0 (by decide +kernel) rfl) dX1_bestNext_1 (Nat.le_of_ble_eq_true rfl) rfl)
    (ss_seq (pcA := 74) (ss_blk (ss_seq (pcA := 8) (ss_decI (pcA := 6) (se_add (pcA := 4) (pcB := 5) (se_iload_n dX1_bestNext_3 rfl rfl) (se_iconst dX1_bestNext_4 (by decide +kernel) rfl) dX1_bestNext_5 rfl) dX1_bestNext_6 (Nat.le_of_ble_eq_true rfl) rfl)
    (ss_while (pcB := 14) (sc_Fle (pcA := 10) (pcB := 11) (se_iload dX1_bestNext_8 rfl) (se_iload_n dX1_bestNext_10 rfl rfl) dX1_bestNext_11 rfl rfl)
    (ss_seq (pcA := 68) (ss_if (pcT := 64) (pcF := 68) (sc_and (pcA := 37) (sc_and (pcA := 27) (sc_Fne (pcA := 23) (pcB := 24) (se_callSI (pcA := 20) (index := 36) (sa_cr (pcA := 18) (se_getR (pcA := 15) (T := TX1) (k := 6) (index := 18) (se_aload_n dX1_bestNext_14 rfl rfl) rfl in_X1_bestNext_X1 (Nat.le_of_ble_eq_true rfl) lk_X1_bestNext_18 rfl dX1_bestNext_15 rfl) (sa_ci (pcA := 20) (se_iload dX1_bestNext_18 rfl) sa_nil)) T_X5_at gX1_bestNext_X5_at rfl (by decide +kernel) (Nat.le_of_ble_eq_true rfl) (Nat.le_of_ble_eq_true rfl) (s_LenR (s_LenI s_Len0)) (Nat.le_of_ble_eq_true rfl) dX1_bestNext_20 rfl) (se_iconst dX1_bestNext_23 (by decide +kernel) rfl) dX1_bestNext_24 rfl rfl) (sc_Fne0 (pcB := 34) (se_callVI (pcA := 31) (ci := 5) (index := 30) (sa_cr (pcA := 28) (se_aload_n dX1_bestNext_27 rfl rfl) (sa_ci (pcA := 29) (se_iload_n dX1_bestNext_28 rfl rfl) (sa_ci (pcA := 31) (se_iload dX1_bestNext_29 rfl) sa_nil))) T_X6_leads (s_Rcv_of 5 _ _) rfl gX1_bestNext_X6_leads rfl (by decide +kernel) (Nat.le_of_ble_eq_true rfl) (Nat.le_of_ble_eq_true rfl) (s_LenR (s_LenI (s_LenI s_Len0))) (Nat.le_of_ble_eq_true rfl) dX1_bestNext_31 rfl) dX1_bestNext_34 rfl rfl)) (sc_or (pcA := 43) (sc_Teq (pcA := 39) (pcB := 40) (se_iload dX1_bestNext_37 rfl) (se_iconst dX1_bestNext_39 (by decide +kernel) rfl) dX1_bestNext_40 rfl rfl) (sc_Fgt (pcA := 52) (pcB := 61) (se_callSI (pcA := 49) (index := 36) (sa_cr (pcA := 47) (se_getR (pcA := 44) (T := TX1) (k := 5) (index := 15) (se_aload_n dX1_bestNext_43 rfl rfl) rfl in_X1_bestNext_X1 (Nat.le_of_ble_eq_true rfl) lk_X1_bestNext_15 rfl dX1_bestNext_44 rfl) (sa_ci (pcA := 49) (se_iload dX1_bestNext_47 rfl) sa_nil)) T_X5_at gX1_bestNext_X5_at rfl (by decide +kernel) (Nat.le_of_ble_eq_true rfl) (Nat.le_of_ble_eq_true rfl) (s_LenR (s_LenI s_Len0)) (Nat.le_of_ble_eq_true rfl) dX1_bestNext_49 rfl) (se_callSI (pcA := 58) (index := 36) (sa_cr (pcA := 56) (se_getR (pcA := 53) (T := TX1) (k := 5) (index := 15) (se_aload_n dX1_bestNext_52 rfl rfl) rfl in_X1_bestNext_X1 (Nat.le_of_ble_eq_true rfl) lk_X1_bestNext_15 rfl dX1_bestNext_53 rfl) (sa_ci (pcA := 58) (se_iload dX1_bestNext_56 rfl) sa_nil)) T_X5_at gX1_bestNext_X5_at rfl (by decide +kernel) (Nat.le_of_ble_eq_true rfl) (Nat.le_of_ble_eq_true rfl) (s_LenR (s_LenI s_Len0)) (Nat.le_of_ble_eq_true rfl) dX1_bestNext_58 rfl) dX1_bestNext_61 rfl rfl)))
    (ss_setI (pcA := 66) (se_iload dX1_bestNext_64 rfl) dX1_bestNext_66 (Nat.le_of_ble_eq_true rfl) rfl) ss_skip)
    (ss_goto (pcG := 71) (ss_inc dX1_bestNext_68 (Nat.le_of_ble_eq_true rfl) (by decide +kernel) rfl) dX1_bestNext_71 rfl)))))
    (ss_retI (pcA := 76) (se_iload dX1_bestNext_74 rfl) dX1_bestNext_76 rfl)))
theorem T_X1_bestNext : sMet vwCl RX6 yX1_bestNext wsX1_bestNext 4 93 M_X1_bestNext := sMet_of rfl (by decide +kernel) rfl rfl (fun h => by cases h) (m_ofV_run _ _ _) S_X1_bestNext (m_ofV_cat _ _ _ (Nat.le_of_ble_eq_true rfl))
def B_X1_ownWorth : sStm :=
  (s_sw (e_i 1) (fun x =>
    if x = nI 0 then (s_retI (e_k (nI 1)))
    else if x = nI 1 then (s_retI (e_k (-1)))
    else (s_retI (e_i 0))))
def M_X1_ownWorth : sSem := m_of 2 B_X1_ownWorth
set_option maxRecDepth 100000 in
set_option maxHeartbeats 4000000 in
theorem S_X1_ownWorth : sSS (cX1_ownWorth, wsX1_ownWorth, RX1, (some .int), 0, 0, 2, vwCl, RX6, false) 0 0 B_X1_ownWorth :=
  (ss_sw (pcA := 1) (se_iload_n dX1_ownWorth_0 rfl rfl) (by
    intro x
    by_cases h0 : x = nI 0
    · subst h0
      exact ⟨28, s_Goes_look (off := 27) dX1_ownWorth_1 (by decide +kernel) rfl rfl, (ss_retI (pcA := 29) (se_iconst dX1_ownWorth_28 (by decide +kernel) rfl) dX1_ownWorth_29 rfl)⟩
    by_cases h1 : x = nI 1
    · subst h1
      exact ⟨30, s_Goes_look (off := 29) dX1_ownWorth_1 (by decide +kernel) rfl rfl, (ss_retI (pcA := 31) (se_iconst dX1_ownWorth_30 (by decide +kernel) rfl) dX1_ownWorth_31 rfl)⟩
    exact ⟨32, s_Goes_look (off := 31) dX1_ownWorth_1 (by decide +kernel) (by have e0 : x.toInt ≠ 0 := i_tn (nI 0) h0; have e1 : x.toInt ≠ 1 := i_tn (nI 1) h1; simp [Op.lookupswitch.offset, e0, Ne.symm e0, e1, Ne.symm e1]) rfl, by rw [if_neg h0, if_neg h1]; exact (ss_retI (pcA := 33) (se_iload_n dX1_ownWorth_32 rfl rfl) dX1_ownWorth_33 rfl)⟩))
theorem T_X1_ownWorth : sMet vwCl RX6 yX1_ownWorth wsX1_ownWorth 0 0 M_X1_ownWorth := sMet_of rfl (by decide +kernel) rfl rfl (fun h => by cases h) (m_of_run _ _) S_X1_ownWorth (m_of_cat _ _ (Nat.le_of_ble_eq_true rfl))
theorem in_X1_seek_X1 : ∀ w ∈ u_ws RX1 TX1 8, w ∈ wsX1_seek := by decide +kernel
theorem lk_X1_seek_15 : Cond.fieldLink RX1 15 RX1 "worth" "[I" ∈ wsX1_seek := by decide +kernel
theorem lk_X1_seek_18 : Cond.fieldLink RX1 18 RX1 "next" "[I" ∈ wsX1_seek := by decide +kernel
theorem lk_X1_seek_56 : Cond.fieldLink RX1 56 RX1 "length" "I" ∈ wsX1_seek := by decide +kernel
theorem lk_X1_seek_9 : Cond.fieldLink RX1 9 RX1 "path" "[I" ∈ wsX1_seek := by decide +kernel
abbrev C_X1_seek_1 : sCd := (c_cmp i_ge (e_i 5) (e_i 2))
abbrev W_X1_seek_1 : sStm :=
  (s_seq (s_blk 6 (s_seq (s_decI 6 (e_if (c_cmp i_eq (e_i 5) (e_i 3)) (e_i 5) (e_callI M_X1_bestNext (a_cr (e_r 0) (a_cr (e_r 1) (a_ci (e_i 5) (a_ci (e_i 3) a_nil)))))))
    (s_seq (s_decI 7 (e_if (c_or (c_cmp i_eq (e_i 5) (e_i 3)) (c_cmp i_eq (e_i 6) (e_k (-1)))) (e_k (nI 0)) (e_callI M_X5_at (a_cr (e_getR 1 5 (e_r 0)) (a_ci (e_i 6) a_nil)))))
    (s_seq (s_callV M_X5_put (a_cr (e_getR 1 6 (e_r 0)) (a_ci (e_i 5) (a_ci (e_i 6) a_nil))))
    (s_callV M_X5_put (a_cr (e_getR 1 5 (e_r 0)) (a_ci (e_i 5) (a_ci (e_add (e_callI M_X1_ownWorth (a_ci (e_callI M_X6_numberOf (a_cr (e_r 1) (a_ci (e_i 5) a_nil))) (a_ci (e_i 4) a_nil))) (e_i 7)) a_nil))))))))
    (s_inc 5 (-1)))
abbrev C_X1_seek_2 : sCd := (c_and (c_cmp i_lt (e_i 6) (e_k (nI 12))) (c_cmp i_ne (e_i 5) (e_k (-1))))
abbrev W_X1_seek_2 : sStm :=
  (s_seq (s_seq (s_callV M_X5_put (a_cr (e_getR 1 0 (e_r 0)) (a_ci (e_get 1 1 (e_r 0)) (a_ci (e_i 5) a_nil))))
    (s_seq (s_putop 1 1 (e_r 0) (fun x z => x + z) (e_k (nI 1)))
    (s_setI 5 (e_if (c_cmp i_eq (e_i 5) (e_i 3)) (e_k (-1)) (e_callI M_X5_at (a_cr (e_getR 1 6 (e_r 0)) (a_ci (e_i 5) a_nil)))))))
    (s_inc 6 (nI 1)))
def B_X1_seek : sStm :=
  (s_seq (s_seq (s_blk 5 (s_seq (s_decI 5 (e_i 3))
    (s_while C_X1_seek_1 W_X1_seek_1)))
    (s_seq (s_putI 1 1 (e_r 0) (e_k (nI 0)))
    (s_seq (s_decI 5 (e_if (c_cmp i_eq (e_callI M_X5_at (a_cr (e_getR 1 6 (e_r 0)) (a_ci (e_i 2) a_nil))) (e_k (-1))) (e_k (-1)) (e_i 2)))
    (s_blk 6 (s_seq (s_decI 6 (e_k (nI 0)))
    (s_while C_X1_seek_2 W_X1_seek_2))))))
    s_ret0)
def M_X1_seek : sSem := m_ofV 1 5 B_X1_seek
set_option maxRecDepth 100000 in
set_option maxHeartbeats 4000000 in
theorem S_X1_seek : sSS (cX1_seek, wsX1_seek, RX1, none, 5, 118, 8, vwCl, RX6, false) 0 0 B_X1_seek :=
  (ss_seq (pcA := 187) (ss_seq (pcA := 97) (ss_blk (ss_seq (pcA := 3) (ss_decI (pcA := 1) (se_iload_n dX1_seek_0 rfl rfl) dX1_seek_1 (Nat.le_of_ble_eq_true rfl) rfl)
    (ss_while (pcB := 9) (sc_Fge (pcA := 5) (pcB := 6) (se_iload dX1_seek_3 rfl) (se_iload_n dX1_seek_5 rfl rfl) dX1_seek_6 rfl rfl)
    (ss_seq (pcA := 91) (ss_blk (ss_seq (pcA := 30) (ss_decI (pcA := 28) (se_if (pcT := 15) (pcF := 20) (pcG := 17) (sc_Feq (pcA := 11) (pcB := 12) (se_iload dX1_seek_9 rfl) (se_iload_n dX1_seek_11 rfl rfl) dX1_seek_12 rfl rfl) (se_iload dX1_seek_15 rfl) dX1_seek_17 rfl (se_callVI (pcA := 25) (ci := 1) (index := 44) (sa_cr (pcA := 21) (se_aload_n dX1_seek_20 rfl rfl) (sa_cr (pcA := 22) (se_aload_n dX1_seek_21 rfl rfl) (sa_ci (pcA := 24) (se_iload dX1_seek_22 rfl) (sa_ci (pcA := 25) (se_iload_n dX1_seek_24 rfl rfl) sa_nil)))) T_X1_bestNext (s_Rcv_of 1 _ _) rfl gX1_seek_X1_bestNext rfl (by decide +kernel) (Nat.le_of_ble_eq_true rfl) (Nat.le_of_ble_eq_true rfl) (s_LenR (s_LenR (s_LenI (s_LenI s_Len0)))) (Nat.le_of_ble_eq_true rfl) dX1_seek_25 rfl)) dX1_seek_28 (Nat.le_of_ble_eq_true rfl) rfl)
    (ss_seq (pcA := 57) (ss_decI (pcA := 55) (se_if (pcT := 42) (pcF := 46) (pcG := 43) (sc_or (pcA := 36) (sc_Teq (pcA := 32) (pcB := 33) (se_iload dX1_seek_30 rfl) (se_iload_n dX1_seek_32 rfl rfl) dX1_seek_33 rfl rfl) (sc_Feq (pcA := 38) (pcB := 39) (se_iload dX1_seek_36 rfl) (se_iconst dX1_seek_38 (by decide +kernel) rfl) dX1_seek_39 rfl rfl)) (se_iconst dX1_seek_42 (by decide +kernel) rfl) dX1_seek_43 rfl (se_callSI (pcA := 52) (index := 36) (sa_cr (pcA := 50) (se_getR (pcA := 47) (T := TX1) (k := 5) (index := 15) (se_aload_n dX1_seek_46 rfl rfl) rfl in_X1_seek_X1 (Nat.le_of_ble_eq_true rfl) lk_X1_seek_15 rfl dX1_seek_47 rfl) (sa_ci (pcA := 52) (se_iload dX1_seek_50 rfl) sa_nil)) T_X5_at gX1_seek_X5_at rfl (by decide +kernel) (Nat.le_of_ble_eq_true rfl) (Nat.le_of_ble_eq_true rfl) (s_LenR (s_LenI s_Len0)) (Nat.le_of_ble_eq_true rfl) dX1_seek_52 rfl)) dX1_seek_55 (Nat.le_of_ble_eq_true rfl) rfl)
    (ss_seq (pcA := 68) (ss_callVS (pcA := 65) (index := 24) (sa_cr (pcA := 61) (se_getR (pcA := 58) (T := TX1) (k := 6) (index := 18) (se_aload_n dX1_seek_57 rfl rfl) rfl in_X1_seek_X1 (Nat.le_of_ble_eq_true rfl) lk_X1_seek_18 rfl dX1_seek_58 rfl) (sa_ci (pcA := 63) (se_iload dX1_seek_61 rfl) (sa_ci (pcA := 65) (se_iload dX1_seek_63 rfl) sa_nil))) T_X5_put gX1_seek_X5_put rfl (by decide +kernel) (Nat.le_of_ble_eq_true rfl) (Nat.le_of_ble_eq_true rfl) (s_LenR (s_LenI (s_LenI s_Len0))) dX1_seek_65 rfl)
    (ss_callVS (pcA := 88) (index := 24) (sa_cr (pcA := 72) (se_getR (pcA := 69) (T := TX1) (k := 5) (index := 15) (se_aload_n dX1_seek_68 rfl rfl) rfl in_X1_seek_X1 (Nat.le_of_ble_eq_true rfl) lk_X1_seek_15 rfl dX1_seek_69 rfl) (sa_ci (pcA := 74) (se_iload dX1_seek_72 rfl) (sa_ci (pcA := 88) (se_add (pcA := 85) (pcB := 87) (se_callSI (pcA := 82) (index := 52) (sa_ci (pcA := 80) (se_callVI (pcA := 77) (ci := 5) (index := 48) (sa_cr (pcA := 75) (se_aload_n dX1_seek_74 rfl rfl) (sa_ci (pcA := 77) (se_iload dX1_seek_75 rfl) sa_nil)) T_X6_numberOf (s_Rcv_of 5 _ _) rfl gX1_seek_X6_numberOf rfl (by decide +kernel) (Nat.le_of_ble_eq_true rfl) (Nat.le_of_ble_eq_true rfl) (s_LenR (s_LenI s_Len0)) (Nat.le_of_ble_eq_true rfl) dX1_seek_77 rfl) (sa_ci (pcA := 82) (se_iload dX1_seek_80 rfl) sa_nil)) T_X1_ownWorth gX1_seek_X1_ownWorth rfl (by decide +kernel) (Nat.le_of_ble_eq_true rfl) (Nat.le_of_ble_eq_true rfl) (s_LenI (s_LenI s_Len0)) (Nat.le_of_ble_eq_true rfl) dX1_seek_82 rfl) (se_iload dX1_seek_85 rfl) dX1_seek_87 rfl) sa_nil))) T_X5_put gX1_seek_X5_put rfl (by decide +kernel) (Nat.le_of_ble_eq_true rfl) (Nat.le_of_ble_eq_true rfl) (s_LenR (s_LenI (s_LenI s_Len0))) dX1_seek_88 rfl)))))
    (ss_goto (pcG := 94) (ss_inc dX1_seek_91 (Nat.le_of_ble_eq_true rfl) (by decide +kernel) rfl) dX1_seek_94 rfl)))))
    (ss_seq (pcA := 102) (ss_putI (pcA := 98) (pcB := 99) (T := TX1) (index := 56) (se_aload_n dX1_seek_97 rfl rfl) (se_iconst dX1_seek_98 (by decide +kernel) rfl) rfl in_X1_seek_X1 tyX1 tyX1_ok nmX1 (Nat.le_of_ble_eq_true rfl) lk_X1_seek_56 rfl rfl rfl dX1_seek_99 rfl)
    (ss_seq (pcA := 121) (ss_decI (pcA := 119) (se_if (pcT := 114) (pcF := 118) (pcG := 115) (sc_Feq (pcA := 110) (pcB := 111) (se_callSI (pcA := 107) (index := 36) (sa_cr (pcA := 106) (se_getR (pcA := 103) (T := TX1) (k := 6) (index := 18) (se_aload_n dX1_seek_102 rfl rfl) rfl in_X1_seek_X1 (Nat.le_of_ble_eq_true rfl) lk_X1_seek_18 rfl dX1_seek_103 rfl) (sa_ci (pcA := 107) (se_iload_n dX1_seek_106 rfl rfl) sa_nil)) T_X5_at gX1_seek_X5_at rfl (by decide +kernel) (Nat.le_of_ble_eq_true rfl) (Nat.le_of_ble_eq_true rfl) (s_LenR (s_LenI s_Len0)) (Nat.le_of_ble_eq_true rfl) dX1_seek_107 rfl) (se_iconst dX1_seek_110 (by decide +kernel) rfl) dX1_seek_111 rfl rfl) (se_iconst dX1_seek_114 (by decide +kernel) rfl) dX1_seek_115 rfl (se_iload_n dX1_seek_118 rfl rfl)) dX1_seek_119 (Nat.le_of_ble_eq_true rfl) rfl)
    (ss_blk (ss_seq (pcA := 124) (ss_decI (pcA := 122) (se_iconst dX1_seek_121 (by decide +kernel) rfl) dX1_seek_122 (Nat.le_of_ble_eq_true rfl) rfl)
    (ss_while (pcB := 137) (sc_and (pcA := 131) (sc_Flt (pcA := 126) (pcB := 128) (se_iload dX1_seek_124 rfl) (se_bipush dX1_seek_126 (by decide +kernel) rfl) dX1_seek_128 rfl rfl) (sc_Fne (pcA := 133) (pcB := 134) (se_iload dX1_seek_131 rfl) (se_iconst dX1_seek_133 (by decide +kernel) rfl) dX1_seek_134 rfl rfl))
    (ss_seq (pcA := 181) (ss_seq (pcA := 150) (ss_callVS (pcA := 147) (index := 24) (sa_cr (pcA := 141) (se_getR (pcA := 138) (T := TX1) (k := 0) (index := 9) (se_aload_n dX1_seek_137 rfl rfl) rfl in_X1_seek_X1 (Nat.le_of_ble_eq_true rfl) lk_X1_seek_9 rfl dX1_seek_138 rfl) (sa_ci (pcA := 145) (se_get (pcA := 142) (T := TX1) (k := 1) (index := 56) (se_aload_n dX1_seek_141 rfl rfl) rfl in_X1_seek_X1 (Nat.le_of_ble_eq_true rfl) lk_X1_seek_56 rfl dX1_seek_142 rfl) (sa_ci (pcA := 147) (se_iload dX1_seek_145 rfl) sa_nil))) T_X5_put gX1_seek_X5_put rfl (by decide +kernel) (Nat.le_of_ble_eq_true rfl) (Nat.le_of_ble_eq_true rfl) (s_LenR (s_LenI (s_LenI s_Len0))) dX1_seek_147 rfl)
    (ss_seq (pcA := 160) (ss_putop (pcA := 151) (pcD := 152) (pcG := 155) (pcB := 156) (pcO := 157) (T := TX1) (index := 56) (se_aload_n dX1_seek_150 rfl rfl) dX1_seek_151 rfl rfl in_X1_seek_X1 tyX1 tyX1_ok nmX1 (Nat.le_of_ble_eq_true rfl) lk_X1_seek_56 rfl dX1_seek_152 rfl (se_iconst dX1_seek_155 (by decide +kernel) rfl) (Or.inl ⟨dX1_seek_156, rfl⟩) rfl rfl rfl dX1_seek_157 rfl)
    (ss_setI (pcA := 179) (se_if (pcT := 166) (pcF := 170) (pcG := 167) (sc_Feq (pcA := 162) (pcB := 163) (se_iload dX1_seek_160 rfl) (se_iload_n dX1_seek_162 rfl rfl) dX1_seek_163 rfl rfl) (se_iconst dX1_seek_166 (by decide +kernel) rfl) dX1_seek_167 rfl (se_callSI (pcA := 176) (index := 36) (sa_cr (pcA := 174) (se_getR (pcA := 171) (T := TX1) (k := 6) (index := 18) (se_aload_n dX1_seek_170 rfl rfl) rfl in_X1_seek_X1 (Nat.le_of_ble_eq_true rfl) lk_X1_seek_18 rfl dX1_seek_171 rfl) (sa_ci (pcA := 176) (se_iload dX1_seek_174 rfl) sa_nil)) T_X5_at gX1_seek_X5_at rfl (by decide +kernel) (Nat.le_of_ble_eq_true rfl) (Nat.le_of_ble_eq_true rfl) (s_LenR (s_LenI s_Len0)) (Nat.le_of_ble_eq_true rfl) dX1_seek_176 rfl)) dX1_seek_179 (Nat.le_of_ble_eq_true rfl) rfl)))
    (ss_goto (pcG := 184) (ss_inc dX1_seek_181 (Nat.le_of_ble_eq_true rfl) (by decide +kernel) rfl) dX1_seek_184 rfl))))))))
    (ss_ret0 dX1_seek_187 rfl))
theorem T_X1_seek : sMet vwCl RX6 yX1_seek wsX1_seek 5 118 M_X1_seek := sMet_of rfl (by decide +kernel) rfl rfl (fun h => by cases h) (m_ofV_run _ _ _) S_X1_seek (m_ofV_cat _ _ _ (Nat.le_of_ble_eq_true rfl))
theorem in_X1_sumOf_X1 : ∀ w ∈ u_ws RX1 TX1 8, w ∈ wsX1_sumOf := by decide +kernel
theorem lk_X1_sumOf_56 : Cond.fieldLink RX1 56 RX1 "length" "I" ∈ wsX1_sumOf := by decide +kernel
theorem lk_X1_sumOf_9 : Cond.fieldLink RX1 9 RX1 "path" "[I" ∈ wsX1_sumOf := by decide +kernel
abbrev C_X1_sumOf_1 : sCd := (c_cmp i_lt (e_i 3) (e_get 1 1 (e_r 0)))
abbrev W_X1_sumOf_1 : sStm :=
  (s_seq (s_setI 2 (e_add (e_i 2) (e_callI M_X6_numberOf (a_cr (e_r 1) (a_ci (e_callI M_X5_at (a_cr (e_getR 1 0 (e_r 0)) (a_ci (e_i 3) a_nil))) a_nil)))))
    (s_inc 3 (nI 1)))
def B_X1_sumOf : sStm :=
  (s_seq (s_decI 2 (e_k (nI 0)))
    (s_seq (s_blk 3 (s_seq (s_decI 3 (e_k (nI 0)))
    (s_while C_X1_sumOf_1 W_X1_sumOf_1)))
    (s_retI (e_i 2))))
def M_X1_sumOf : sSem := m_ofV 1 2 B_X1_sumOf
set_option maxRecDepth 100000 in
set_option maxHeartbeats 4000000 in
theorem S_X1_sumOf : sSS (cX1_sumOf, wsX1_sumOf, RX1, (some .int), 1, 21, 4, vwCl, RX6, false) 0 0 B_X1_sumOf :=
  (ss_seq (pcA := 2) (ss_decI_n (pcA := 1) (se_iconst dX1_sumOf_0 (by decide +kernel) rfl) dX1_sumOf_1 rfl (Nat.le_of_ble_eq_true rfl) rfl)
    (ss_seq (pcA := 33) (ss_blk (ss_seq (pcA := 4) (ss_decI_n (pcA := 3) (se_iconst dX1_sumOf_2 (by decide +kernel) rfl) dX1_sumOf_3 rfl (Nat.le_of_ble_eq_true rfl) rfl)
    (ss_while (pcB := 12) (sc_Flt (pcA := 5) (pcB := 9) (se_iload_n dX1_sumOf_4 rfl rfl) (se_get (pcA := 6) (T := TX1) (k := 1) (index := 56) (se_aload_n dX1_sumOf_5 rfl rfl) rfl in_X1_sumOf_X1 (Nat.le_of_ble_eq_true rfl) lk_X1_sumOf_56 rfl dX1_sumOf_6 rfl) dX1_sumOf_9 rfl rfl)
    (ss_seq (pcA := 27) (ss_setI_n (pcA := 26) (se_add (pcA := 13) (pcB := 25) (se_iload_n dX1_sumOf_12 rfl rfl) (se_callVI (pcA := 22) (ci := 5) (index := 48) (sa_cr (pcA := 14) (se_aload_n dX1_sumOf_13 rfl rfl) (sa_ci (pcA := 22) (se_callSI (pcA := 19) (index := 36) (sa_cr (pcA := 18) (se_getR (pcA := 15) (T := TX1) (k := 0) (index := 9) (se_aload_n dX1_sumOf_14 rfl rfl) rfl in_X1_sumOf_X1 (Nat.le_of_ble_eq_true rfl) lk_X1_sumOf_9 rfl dX1_sumOf_15 rfl) (sa_ci (pcA := 19) (se_iload_n dX1_sumOf_18 rfl rfl) sa_nil)) T_X5_at gX1_sumOf_X5_at rfl (by decide +kernel) (Nat.le_of_ble_eq_true rfl) (Nat.le_of_ble_eq_true rfl) (s_LenR (s_LenI s_Len0)) (Nat.le_of_ble_eq_true rfl) dX1_sumOf_19 rfl) sa_nil)) T_X6_numberOf (s_Rcv_of 5 _ _) rfl gX1_sumOf_X6_numberOf rfl (by decide +kernel) (Nat.le_of_ble_eq_true rfl) (Nat.le_of_ble_eq_true rfl) (s_LenR (s_LenI s_Len0)) (Nat.le_of_ble_eq_true rfl) dX1_sumOf_22 rfl) dX1_sumOf_25 rfl) dX1_sumOf_26 rfl (Nat.le_of_ble_eq_true rfl) rfl)
    (ss_goto (pcG := 30) (ss_inc dX1_sumOf_27 (Nat.le_of_ble_eq_true rfl) (by decide +kernel) rfl) dX1_sumOf_30 rfl)))))
    (ss_retI (pcA := 34) (se_iload_n dX1_sumOf_33 rfl rfl) dX1_sumOf_34 rfl)))
theorem T_X1_sumOf : sMet vwCl RX6 yX1_sumOf wsX1_sumOf 1 21 M_X1_sumOf := sMet_of rfl (by decide +kernel) rfl rfl (fun h => by cases h) (m_ofV_run _ _ _) S_X1_sumOf (m_ofV_cat _ _ _ (Nat.le_of_ble_eq_true rfl))
theorem in_X1_divisorOf_X1 : ∀ w ∈ u_ws RX1 TX1 8, w ∈ wsX1_divisorOf := by decide +kernel
theorem lk_X1_divisorOf_56 : Cond.fieldLink RX1 56 RX1 "length" "I" ∈ wsX1_divisorOf := by decide +kernel
theorem lk_X1_divisorOf_9 : Cond.fieldLink RX1 9 RX1 "path" "[I" ∈ wsX1_divisorOf := by decide +kernel
abbrev C_X1_divisorOf_1 : sCd := (c_cmp i_lt (e_i 3) (e_get 1 1 (e_r 0)))
abbrev W_X1_divisorOf_1 : sStm :=
  (s_seq (s_setI 2 (e_callI M_X7_divisorByRemainders (a_ci (e_i 2) (a_ci (e_callI M_X6_numberOf (a_cr (e_r 1) (a_ci (e_callI M_X5_at (a_cr (e_getR 1 0 (e_r 0)) (a_ci (e_i 3) a_nil))) a_nil))) a_nil))))
    (s_inc 3 (nI 1)))
def B_X1_divisorOf : sStm :=
  (s_seq (s_decI 2 (e_k (nI 0)))
    (s_seq (s_blk 3 (s_seq (s_decI 3 (e_k (nI 0)))
    (s_while C_X1_divisorOf_1 W_X1_divisorOf_1)))
    (s_retI (e_i 2))))
def M_X1_divisorOf : sSem := m_ofV 1 2 B_X1_divisorOf
set_option maxRecDepth 100000 in
set_option maxHeartbeats 4000000 in
theorem S_X1_divisorOf : sSS (cX1_divisorOf, wsX1_divisorOf, RX1, (some .int), 1, 25, 4, vwCl, RX6, false) 0 0 B_X1_divisorOf :=
  (ss_seq (pcA := 2) (ss_decI_n (pcA := 1) (se_iconst dX1_divisorOf_0 (by decide +kernel) rfl) dX1_divisorOf_1 rfl (Nat.le_of_ble_eq_true rfl) rfl)
    (ss_seq (pcA := 35) (ss_blk (ss_seq (pcA := 4) (ss_decI_n (pcA := 3) (se_iconst dX1_divisorOf_2 (by decide +kernel) rfl) dX1_divisorOf_3 rfl (Nat.le_of_ble_eq_true rfl) rfl)
    (ss_while (pcB := 12) (sc_Flt (pcA := 5) (pcB := 9) (se_iload_n dX1_divisorOf_4 rfl rfl) (se_get (pcA := 6) (T := TX1) (k := 1) (index := 56) (se_aload_n dX1_divisorOf_5 rfl rfl) rfl in_X1_divisorOf_X1 (Nat.le_of_ble_eq_true rfl) lk_X1_divisorOf_56 rfl dX1_divisorOf_6 rfl) dX1_divisorOf_9 rfl rfl)
    (ss_seq (pcA := 29) (ss_setI_n (pcA := 28) (se_callSI (pcA := 25) (index := 60) (sa_ci (pcA := 13) (se_iload_n dX1_divisorOf_12 rfl rfl) (sa_ci (pcA := 25) (se_callVI (pcA := 22) (ci := 5) (index := 48) (sa_cr (pcA := 14) (se_aload_n dX1_divisorOf_13 rfl rfl) (sa_ci (pcA := 22) (se_callSI (pcA := 19) (index := 36) (sa_cr (pcA := 18) (se_getR (pcA := 15) (T := TX1) (k := 0) (index := 9) (se_aload_n dX1_divisorOf_14 rfl rfl) rfl in_X1_divisorOf_X1 (Nat.le_of_ble_eq_true rfl) lk_X1_divisorOf_9 rfl dX1_divisorOf_15 rfl) (sa_ci (pcA := 19) (se_iload_n dX1_divisorOf_18 rfl rfl) sa_nil)) T_X5_at gX1_divisorOf_X5_at rfl (by decide +kernel) (Nat.le_of_ble_eq_true rfl) (Nat.le_of_ble_eq_true rfl) (s_LenR (s_LenI s_Len0)) (Nat.le_of_ble_eq_true rfl) dX1_divisorOf_19 rfl) sa_nil)) T_X6_numberOf (s_Rcv_of 5 _ _) rfl gX1_divisorOf_X6_numberOf rfl (by decide +kernel) (Nat.le_of_ble_eq_true rfl) (Nat.le_of_ble_eq_true rfl) (s_LenR (s_LenI s_Len0)) (Nat.le_of_ble_eq_true rfl) dX1_divisorOf_22 rfl) sa_nil)) T_X7_divisorByRemainders gX1_divisorOf_X7_divisorByRemainders rfl (by decide +kernel) (Nat.le_of_ble_eq_true rfl) (Nat.le_of_ble_eq_true rfl) (s_LenI (s_LenI s_Len0)) (Nat.le_of_ble_eq_true rfl) dX1_divisorOf_25 rfl) dX1_divisorOf_28 rfl (Nat.le_of_ble_eq_true rfl) rfl)
    (ss_goto (pcG := 32) (ss_inc dX1_divisorOf_29 (Nat.le_of_ble_eq_true rfl) (by decide +kernel) rfl) dX1_divisorOf_32 rfl)))))
    (ss_retI (pcA := 36) (se_iload_n dX1_divisorOf_35 rfl rfl) dX1_divisorOf_36 rfl)))
theorem T_X1_divisorOf : sMet vwCl RX6 yX1_divisorOf wsX1_divisorOf 1 25 M_X1_divisorOf := sMet_of rfl (by decide +kernel) rfl rfl (fun h => by cases h) (m_ofV_run _ _ _) S_X1_divisorOf (m_ofV_cat _ _ _ (Nat.le_of_ble_eq_true rfl))
theorem in_X1_seekLongestFrom_X6 : ∀ w ∈ u_ws RX6 TX6 6, w ∈ wsX1_seekLongestFrom := by decide +kernel
theorem ln_X1_seekLongestFrom_68 : Cond.fieldLinkNest RX1 68 RX6 "size" "I" "StairKin" ∈ s_nest := by decide +kernel
theorem in_X1_seekLongestFrom_X1 : ∀ w ∈ u_ws RX1 TX1 8, w ∈ wsX1_seekLongestFrom := by decide +kernel
theorem lk_X1_seekLongestFrom_15 : Cond.fieldLink RX1 15 RX1 "worth" "[I" ∈ wsX1_seekLongestFrom := by decide +kernel
theorem lk_X1_seekLongestFrom_21 : Cond.fieldLink RX1 21 RX1 "end" "[I" ∈ wsX1_seekLongestFrom := by decide +kernel
abbrev C_X1_seekLongestFrom_1 : sCd := (c_cmp i_lt (e_i 5) (e_get 5 2 (e_r 1)))
abbrev W_X1_seekLongestFrom_1 : sStm :=
  (s_seq (s_if (c_cmp0 i_ne (e_callI M_X6_leads (a_cr (e_r 1) (a_ci (e_i 2) (a_ci (e_i 5) a_nil)))))
    (s_blk 6 (s_seq (s_decI 6 (e_add (e_callI M_X5_at (a_cr (e_getR 1 5 (e_r 0)) (a_ci (e_i 5) a_nil))) (e_k (nI 1))))
    (s_seq (s_decI 7 (e_callI M_X5_at (a_cr (e_getR 1 7 (e_r 0)) (a_ci (e_i 5) a_nil))))
    (s_if (c_or (c_cmp i_gt (e_i 6) (e_i 3)) (c_and (c_cmp i_eq (e_i 6) (e_i 3)) (c_cmp i_lt (e_i 7) (e_i 4))))
    (s_seq (s_setI 3 (e_i 6))
    (s_setI 4 (e_i 7))) s_skip)))) s_skip)
    (s_inc 5 (nI 1)))
def B_X1_seekLongestFrom : sStm :=
  (s_seq (s_seq (s_decI 3 (e_k (nI 1)))
    (s_seq (s_decI 4 (e_i 2))
    (s_seq (s_blk 5 (s_seq (s_decI 5 (e_add (e_i 2) (e_k (nI 1))))
    (s_while C_X1_seekLongestFrom_1 W_X1_seekLongestFrom_1)))
    (s_seq (s_callV M_X5_put (a_cr (e_getR 1 5 (e_r 0)) (a_ci (e_i 2) (a_ci (e_i 3) a_nil))))
    (s_callV M_X5_put (a_cr (e_getR 1 7 (e_r 0)) (a_ci (e_i 2) (a_ci (e_i 4) a_nil))))))))
    s_ret0)
def M_X1_seekLongestFrom : sSem := m_ofV 1 3 B_X1_seekLongestFrom
set_option maxRecDepth 100000 in
set_option maxHeartbeats 4000000 in
theorem S_X1_seekLongestFrom : sSS (cX1_seekLongestFrom, wsX1_seekLongestFrom, RX1, none, 4, 93, 8, vwCl, RX6, false) 0 0 B_X1_seekLongestFrom :=
  (ss_seq (pcA := 104) (ss_seq (pcA := 2) (ss_decI_n (pcA := 1) (se_iconst dX1_seekLongestFrom_0 (by decide +kernel) rfl) dX1_seekLongestFrom_1 rfl (Nat.le_of_ble_eq_true rfl) rfl)
    (ss_seq (pcA := 5) (ss_decI (pcA := 3) (se_iload_n dX1_seekLongestFrom_2 rfl rfl) dX1_seekLongestFrom_3 (Nat.le_of_ble_eq_true rfl) rfl)
    (ss_seq (pcA := 85) (ss_blk (ss_seq (pcA := 10) (ss_decI (pcA := 8) (se_add (pcA := 6) (pcB := 7) (se_iload_n dX1_seekLongestFrom_5 rfl rfl) (se_iconst dX1_seekLongestFrom_6 (by decide +kernel) rfl) dX1_seekLongestFrom_7 rfl) dX1_seekLongestFrom_8 (Nat.le_of_ble_eq_true rfl) rfl)
    (ss_while (pcB := 19) (sc_Flt (pcA := 12) (pcB := 16) (se_iload dX1_seekLongestFrom_10 rfl) (se_getN (pcA := 13) (T := TX6) (k := 2) (index := 68) (se_aload_n dX1_seekLongestFrom_12 rfl rfl) rfl in_X1_seekLongestFrom_X6 (Nat.le_of_ble_eq_true rfl) ln_X1_seekLongestFrom_68 rfl dX1_seekLongestFrom_13 rfl) dX1_seekLongestFrom_16 rfl rfl)
    (ss_seq (pcA := 79) (ss_if (pcT := 29) (pcF := 79) (sc_Fne0 (pcB := 26) (se_callVI (pcA := 23) (ci := 5) (index := 30) (sa_cr (pcA := 20) (se_aload_n dX1_seekLongestFrom_19 rfl rfl) (sa_ci (pcA := 21) (se_iload_n dX1_seekLongestFrom_20 rfl rfl) (sa_ci (pcA := 23) (se_iload dX1_seekLongestFrom_21 rfl) sa_nil))) T_X6_leads (s_Rcv_of 5 _ _) rfl gX1_seekLongestFrom_X6_leads rfl (by decide +kernel) (Nat.le_of_ble_eq_true rfl) (Nat.le_of_ble_eq_true rfl) (s_LenR (s_LenI (s_LenI s_Len0))) (Nat.le_of_ble_eq_true rfl) dX1_seekLongestFrom_23 rfl) dX1_seekLongestFrom_26 rfl rfl)
    (ss_blk (ss_seq (pcA := 42) (ss_decI (pcA := 40) (se_add (pcA := 38) (pcB := 39) (se_callSI (pcA := 35) (index := 36) (sa_cr (pcA := 33) (se_getR (pcA := 30) (T := TX1) (k := 5) (index := 15) (se_aload_n dX1_seekLongestFrom_29 rfl rfl) rfl in_X1_seekLongestFrom_X1 (Nat.le_of_ble_eq_true rfl) lk_X1_seekLongestFrom_15 rfl dX1_seekLongestFrom_30 rfl) (sa_ci (pcA := 35) (se_iload dX1_seekLongestFrom_33 rfl) sa_nil)) T_X5_at gX1_seekLongestFrom_X5_at rfl (by decide +kernel) (Nat.le_of_ble_eq_true rfl) (Nat.le_of_ble_eq_true rfl) (s_LenR (s_LenI s_Len0)) (Nat.le_of_ble_eq_true rfl) dX1_seekLongestFrom_35 rfl) (se_iconst dX1_seekLongestFrom_38 (by decide +kernel) rfl) dX1_seekLongestFrom_39 rfl) dX1_seekLongestFrom_40 (Nat.le_of_ble_eq_true rfl) rfl)
    (ss_seq (pcA := 53) (ss_decI (pcA := 51) (se_callSI (pcA := 48) (index := 36) (sa_cr (pcA := 46) (se_getR (pcA := 43) (T := TX1) (k := 7) (index := 21) (se_aload_n dX1_seekLongestFrom_42 rfl rfl) rfl in_X1_seekLongestFrom_X1 (Nat.le_of_ble_eq_true rfl) lk_X1_seekLongestFrom_21 rfl dX1_seekLongestFrom_43 rfl) (sa_ci (pcA := 48) (se_iload dX1_seekLongestFrom_46 rfl) sa_nil)) T_X5_at gX1_seekLongestFrom_X5_at rfl (by decide +kernel) (Nat.le_of_ble_eq_true rfl) (Nat.le_of_ble_eq_true rfl) (s_LenR (s_LenI s_Len0)) (Nat.le_of_ble_eq_true rfl) dX1_seekLongestFrom_48 rfl) dX1_seekLongestFrom_51 (Nat.le_of_ble_eq_true rfl) rfl)
    (ss_if (pcT := 72) (pcF := 79) (sc_or (pcA := 59) (sc_Tgt (pcA := 55) (pcB := 56) (se_iload dX1_seekLongestFrom_53 rfl) (se_iload_n dX1_seekLongestFrom_55 rfl rfl) dX1_seekLongestFrom_56 rfl rfl) (sc_and (pcA := 65) (sc_Feq (pcA := 61) (pcB := 62) (se_iload dX1_seekLongestFrom_59 rfl) (se_iload_n dX1_seekLongestFrom_61 rfl rfl) dX1_seekLongestFrom_62 rfl rfl) (sc_Flt (pcA := 67) (pcB := 69) (se_iload dX1_seekLongestFrom_65 rfl) (se_iload dX1_seekLongestFrom_67 rfl) dX1_seekLongestFrom_69 rfl rfl)))
    (ss_seq (pcA := 75) (ss_setI_n (pcA := 74) (se_iload dX1_seekLongestFrom_72 rfl) dX1_seekLongestFrom_74 rfl (Nat.le_of_ble_eq_true rfl) rfl)
    (ss_setI (pcA := 77) (se_iload dX1_seekLongestFrom_75 rfl) dX1_seekLongestFrom_77 (Nat.le_of_ble_eq_true rfl) rfl)) ss_skip)))) ss_skip)
    (ss_goto (pcG := 82) (ss_inc dX1_seekLongestFrom_79 (Nat.le_of_ble_eq_true rfl) (by decide +kernel) rfl) dX1_seekLongestFrom_82 rfl)))))
    (ss_seq (pcA := 94) (ss_callVS (pcA := 91) (index := 24) (sa_cr (pcA := 89) (se_getR (pcA := 86) (T := TX1) (k := 5) (index := 15) (se_aload_n dX1_seekLongestFrom_85 rfl rfl) rfl in_X1_seekLongestFrom_X1 (Nat.le_of_ble_eq_true rfl) lk_X1_seekLongestFrom_15 rfl dX1_seekLongestFrom_86 rfl) (sa_ci (pcA := 90) (se_iload_n dX1_seekLongestFrom_89 rfl rfl) (sa_ci (pcA := 91) (se_iload_n dX1_seekLongestFrom_90 rfl rfl) sa_nil))) T_X5_put gX1_seekLongestFrom_X5_put rfl (by decide +kernel) (Nat.le_of_ble_eq_true rfl) (Nat.le_of_ble_eq_true rfl) (s_LenR (s_LenI (s_LenI s_Len0))) dX1_seekLongestFrom_91 rfl)
    (ss_callVS (pcA := 101) (index := 24) (sa_cr (pcA := 98) (se_getR (pcA := 95) (T := TX1) (k := 7) (index := 21) (se_aload_n dX1_seekLongestFrom_94 rfl rfl) rfl in_X1_seekLongestFrom_X1 (Nat.le_of_ble_eq_true rfl) lk_X1_seekLongestFrom_21 rfl dX1_seekLongestFrom_95 rfl) (sa_ci (pcA := 99) (se_iload_n dX1_seekLongestFrom_98 rfl rfl) (sa_ci (pcA := 101) (se_iload dX1_seekLongestFrom_99 rfl) sa_nil))) T_X5_put gX1_seekLongestFrom_X5_put rfl (by decide +kernel) (Nat.le_of_ble_eq_true rfl) (Nat.le_of_ble_eq_true rfl) (s_LenR (s_LenI (s_LenI s_Len0))) dX1_seekLongestFrom_101 rfl)))))
    (ss_ret0 dX1_seekLongestFrom_104 rfl))
theorem T_X1_seekLongestFrom : sMet vwCl RX6 yX1_seekLongestFrom wsX1_seekLongestFrom 4 93 M_X1_seekLongestFrom := sMet_of rfl (by decide +kernel) rfl rfl (fun h => by cases h) (m_ofV_run _ _ _) S_X1_seekLongestFrom (m_ofV_cat _ _ _ (Nat.le_of_ble_eq_true rfl))
theorem in_X1_seekLongest_X1 : ∀ w ∈ u_ws RX1 TX1 8, w ∈ wsX1_seekLongest := by decide +kernel
theorem lk_X1_seekLongest_65 : Cond.fieldLink RX1 65 RX1 "mostSteps" "I" ∈ wsX1_seekLongest := by decide +kernel
theorem in_X1_seekLongest_X6 : ∀ w ∈ u_ws RX6 TX6 6, w ∈ wsX1_seekLongest := by decide +kernel
theorem ln_X1_seekLongest_68 : Cond.fieldLinkNest RX1 68 RX6 "size" "I" "StairKin" ∈ s_nest := by decide +kernel
theorem lk_X1_seekLongest_15 : Cond.fieldLink RX1 15 RX1 "worth" "[I" ∈ wsX1_seekLongest := by decide +kernel
theorem lk_X1_seekLongest_75 : Cond.fieldLink RX1 75 RX1 "mostFrom" "I" ∈ wsX1_seekLongest := by decide +kernel
theorem lk_X1_seekLongest_21 : Cond.fieldLink RX1 21 RX1 "end" "[I" ∈ wsX1_seekLongest := by decide +kernel
theorem lk_X1_seekLongest_78 : Cond.fieldLink RX1 78 RX1 "mostTo" "I" ∈ wsX1_seekLongest := by decide +kernel
abbrev C_X1_seekLongest_1 : sCd := (c_cmp0 i_ge (e_i 2))
abbrev W_X1_seekLongest_1 : sStm :=
  (s_seq (s_seq (s_callV M_X1_seekLongestFrom (a_cr (e_r 0) (a_cr (e_r 1) (a_ci (e_i 2) a_nil))))
    (s_if (c_cmp i_ge (e_callI M_X5_at (a_cr (e_getR 1 5 (e_r 0)) (a_ci (e_i 2) a_nil))) (e_get 1 2 (e_r 0)))
    (s_seq (s_putI 1 2 (e_r 0) (e_callI M_X5_at (a_cr (e_getR 1 5 (e_r 0)) (a_ci (e_i 2) a_nil))))
    (s_seq (s_putI 1 3 (e_r 0) (e_i 2))
    (s_putI 1 4 (e_r 0) (e_callI M_X5_at (a_cr (e_getR 1 7 (e_r 0)) (a_ci (e_i 2) a_nil)))))) s_skip))
    (s_inc 2 (-1)))
def B_X1_seekLongest : sStm :=
  (s_seq (s_seq (s_putI 1 2 (e_r 0) (e_k (nI 0)))
    (s_blk 2 (s_seq (s_decI 2 (e_sub (e_get 5 2 (e_r 1)) (e_k (nI 1))))
    (s_while C_X1_seekLongest_1 W_X1_seekLongest_1))))
    s_ret0)
def M_X1_seekLongest : sSem := m_ofV 1 2 B_X1_seekLongest
set_option maxRecDepth 100000 in
set_option maxHeartbeats 4000000 in
theorem S_X1_seekLongest : sSS (cX1_seekLongest, wsX1_seekLongest, RX1, none, 5, 120, 3, vwCl, RX6, false) 0 0 B_X1_seekLongest :=
  (ss_seq (pcA := 72) (ss_seq (pcA := 5) (ss_putI (pcA := 1) (pcB := 2) (T := TX1) (index := 65) (se_aload_n dX1_seekLongest_0 rfl rfl) (se_iconst dX1_seekLongest_1 (by decide +kernel) rfl) rfl in_X1_seekLongest_X1 tyX1 tyX1_ok nmX1 (Nat.le_of_ble_eq_true rfl) lk_X1_seekLongest_65 rfl rfl rfl dX1_seekLongest_2 rfl)
    (ss_blk (ss_seq (pcA := 12) (ss_decI_n (pcA := 11) (se_sub (pcA := 9) (pcB := 10) (se_getN (pcA := 6) (T := TX6) (k := 2) (index := 68) (se_aload_n dX1_seekLongest_5 rfl rfl) rfl in_X1_seekLongest_X6 (Nat.le_of_ble_eq_true rfl) ln_X1_seekLongest_68 rfl dX1_seekLongest_6 rfl) (se_iconst dX1_seekLongest_9 (by decide +kernel) rfl) dX1_seekLongest_10 rfl) dX1_seekLongest_11 rfl (Nat.le_of_ble_eq_true rfl) rfl)
    (ss_while (pcB := 16) (sc_Fge0 (pcB := 13) (se_iload_n dX1_seekLongest_12 rfl rfl) dX1_seekLongest_13 rfl rfl)
    (ss_seq (pcA := 66) (ss_seq (pcA := 22) (ss_callVV (pcA := 19) (ci := 1) (index := 71) (sa_cr (pcA := 17) (se_aload_n dX1_seekLongest_16 rfl rfl) (sa_cr (pcA := 18) (se_aload_n dX1_seekLongest_17 rfl rfl) (sa_ci (pcA := 19) (se_iload_n dX1_seekLongest_18 rfl rfl) sa_nil))) T_X1_seekLongestFrom (s_Rcv_of 1 _ _) rfl gX1_seekLongest_X1_seekLongestFrom rfl (by decide +kernel) (Nat.le_of_ble_eq_true rfl) (Nat.le_of_ble_eq_true rfl) (s_LenR (s_LenR (s_LenI s_Len0))) dX1_seekLongest_19 rfl)
    (ss_if (pcT := 37) (pcF := 66) (sc_Fge (pcA := 30) (pcB := 34) (se_callSI (pcA := 27) (index := 36) (sa_cr (pcA := 26) (se_getR (pcA := 23) (T := TX1) (k := 5) (index := 15) (se_aload_n dX1_seekLongest_22 rfl rfl) rfl in_X1_seekLongest_X1 (Nat.le_of_ble_eq_true rfl) lk_X1_seekLongest_15 rfl dX1_seekLongest_23 rfl) (sa_ci (pcA := 27) (se_iload_n dX1_seekLongest_26 rfl rfl) sa_nil)) T_X5_at gX1_seekLongest_X5_at rfl (by decide +kernel) (Nat.le_of_ble_eq_true rfl) (Nat.le_of_ble_eq_true rfl) (s_LenR (s_LenI s_Len0)) (Nat.le_of_ble_eq_true rfl) dX1_seekLongest_27 rfl) (se_get (pcA := 31) (T := TX1) (k := 2) (index := 65) (se_aload_n dX1_seekLongest_30 rfl rfl) rfl in_X1_seekLongest_X1 (Nat.le_of_ble_eq_true rfl) lk_X1_seekLongest_65 rfl dX1_seekLongest_31 rfl) dX1_seekLongest_34 rfl rfl)
    (ss_seq (pcA := 49) (ss_putI (pcA := 38) (pcB := 46) (T := TX1) (index := 65) (se_aload_n dX1_seekLongest_37 rfl rfl) (se_callSI (pcA := 43) (index := 36) (sa_cr (pcA := 42) (se_getR (pcA := 39) (T := TX1) (k := 5) (index := 15) (se_aload_n dX1_seekLongest_38 rfl rfl) rfl in_X1_seekLongest_X1 (Nat.le_of_ble_eq_true rfl) lk_X1_seekLongest_15 rfl dX1_seekLongest_39 rfl) (sa_ci (pcA := 43) (se_iload_n dX1_seekLongest_42 rfl rfl) sa_nil)) T_X5_at gX1_seekLongest_X5_at rfl (by decide +kernel) (Nat.le_of_ble_eq_true rfl) (Nat.le_of_ble_eq_true rfl) (s_LenR (s_LenI s_Len0)) (Nat.le_of_ble_eq_true rfl) dX1_seekLongest_43 rfl) rfl in_X1_seekLongest_X1 tyX1 tyX1_ok nmX1 (Nat.le_of_ble_eq_true rfl) lk_X1_seekLongest_65 rfl rfl rfl dX1_seekLongest_46 rfl)
    (ss_seq (pcA := 54) (ss_putI (pcA := 50) (pcB := 51) (T := TX1) (index := 75) (se_aload_n dX1_seekLongest_49 rfl rfl) (se_iload_n dX1_seekLongest_50 rfl rfl) rfl in_X1_seekLongest_X1 tyX1 tyX1_ok nmX1 (Nat.le_of_ble_eq_true rfl) lk_X1_seekLongest_75 rfl rfl rfl dX1_seekLongest_51 rfl)
    (ss_putI (pcA := 55) (pcB := 63) (T := TX1) (index := 78) (se_aload_n dX1_seekLongest_54 rfl rfl) (se_callSI (pcA := 60) (index := 36) (sa_cr (pcA := 59) (se_getR (pcA := 56) (T := TX1) (k := 7) (index := 21) (se_aload_n dX1_seekLongest_55 rfl rfl) rfl in_X1_seekLongest_X1 (Nat.le_of_ble_eq_true rfl) lk_X1_seekLongest_21 rfl dX1_seekLongest_56 rfl) (sa_ci (pcA := 60) (se_iload_n dX1_seekLongest_59 rfl rfl) sa_nil)) T_X5_at gX1_seekLongest_X5_at rfl (by decide +kernel) (Nat.le_of_ble_eq_true rfl) (Nat.le_of_ble_eq_true rfl) (s_LenR (s_LenI s_Len0)) (Nat.le_of_ble_eq_true rfl) dX1_seekLongest_60 rfl) rfl in_X1_seekLongest_X1 tyX1 tyX1_ok nmX1 (Nat.le_of_ble_eq_true rfl) lk_X1_seekLongest_78 rfl rfl rfl dX1_seekLongest_63 rfl))) ss_skip))
    (ss_goto (pcG := 69) (ss_inc dX1_seekLongest_66 (Nat.le_of_ble_eq_true rfl) (by decide +kernel) rfl) dX1_seekLongest_69 rfl))))))
    (ss_ret0 dX1_seekLongest_72 rfl))
theorem T_X1_seekLongest : sMet vwCl RX6 yX1_seekLongest wsX1_seekLongest 5 120 M_X1_seekLongest := sMet_of rfl (by decide +kernel) rfl rfl (fun h => by cases h) (m_ofV_run _ _ _) S_X1_seekLongest (m_ofV_cat _ _ _ (Nat.le_of_ble_eq_true rfl))
theorem ml_X4_init_3 : Cond.methodLink RX4 3 objectInit ∈ wsX4_init := by decide +kernel
theorem mo_X4_init : Cond.instanceMethod objectInit ∈ wsX4_init := by decide +kernel
theorem mc_X4_init : Cond.code objectInit ⟨#[0xb1]⟩ 1 none ∈ wsX4_init := by decide +kernel
theorem na_X4_init : Cond.arrayClass .int ∈ wsX4_init := by decide +kernel
theorem in_X4_init_X4 : ∀ w ∈ u_ws RX4 TX4 9, w ∈ wsX4_init := by decide +kernel
theorem lk_X4_init_9 : Cond.fieldLink RX4 9 RX4 "codes" "[I" ∈ wsX4_init := by decide +kernel
def B_X4_init : sStm :=
  (s_seq (s_seq (s_super (e_r 0))
    (s_putR 4 0 (e_r 0) (e_newa (e_k (nI 60)))))
    s_ret0)
def M_X4_init : sSem := m_of 1 B_X4_init
set_option maxRecDepth 100000 in
set_option maxHeartbeats 4000000 in
theorem S_X4_init : sSS (cX4_init, wsX4_init, RX4, none, 1, 20, 1, vwCl, RX6, true) 0 0 B_X4_init :=
  (ss_seq (pcA := 12) (ss_seq (pcA := 4) (ss_objInit (pcA := 1) (se_aload_n dX4_init_0 rfl rfl) ml_X4_init_3 mo_X4_init mc_X4_init dX4_init_1 ⟨(Nat.le_of_ble_eq_true rfl), (Nat.le_of_ble_eq_true rfl)⟩ rfl)
    (ss_putRF (pcA := 5) (pcB := 9) (T := TX4) (index := 9) (se_aload_n dX4_init_4 rfl rfl) (se_newa (pcA := 7) (se_bipush dX4_init_5 (by decide +kernel) rfl) na_X4_init dX4_init_7 rfl) rfl in_X4_init_X4 tyX4 tyX4_ok nmX4 (Nat.le_of_ble_eq_true rfl) lk_X4_init_9 rfl rfl rfl rfl (Or.inr ⟨_, rfl⟩) dX4_init_9 rfl))
    (ss_ret0 dX4_init_12 rfl))
theorem T_X4_init : sMet vwCl RX6 yX4_init wsX4_init 1 20 M_X4_init := sMet_of rfl (by decide +kernel) rfl rfl (fun _ => rfl) (m_of_run _ _) S_X4_init (m_of_cat _ _ (Nat.le_of_ble_eq_true rfl))
theorem in_X4_putCode_X4 : ∀ w ∈ u_ws RX4 TX4 9, w ∈ wsX4_putCode := by decide +kernel
theorem lk_X4_putCode_15 : Cond.fieldLink RX4 15 RX4 "length" "I" ∈ wsX4_putCode := by decide +kernel
theorem lk_X4_putCode_9 : Cond.fieldLink RX4 9 RX4 "codes" "[I" ∈ wsX4_putCode := by decide +kernel
def B_X4_putCode : sStm :=
  (s_seq (s_if (c_or (c_cmp i_lt (e_i 1) (e_k (nI 33))) (c_cmp i_gt (e_i 1) (e_k (nI 126))))
    (s_retI (e_k (-1))) s_skip)
    (s_seq (s_if (c_cmp i_ge (e_get 4 1 (e_r 0)) (e_k (nI 60)))
    (s_retI (e_k (-3))) s_skip)
    (s_seq (s_callV M_X5_put (a_cr (e_getR 4 0 (e_r 0)) (a_ci (e_get 4 1 (e_r 0)) (a_ci (e_i 1) a_nil))))
    (s_seq (s_putop 4 1 (e_r 0) (fun x z => x + z) (e_k (nI 1)))
    (s_retI (e_get 4 1 (e_r 0)))))))
def M_X4_putCode : sSem := m_ofV 4 2 B_X4_putCode
set_option maxRecDepth 100000 in
set_option maxHeartbeats 4000000 in
theorem S_X4_putCode : sSS (cX4_putCode, wsX4_putCode, RX4, (some .int), 1, 22, 2, vwCl, RX6, false) 0 0 B_X4_putCode :=
  (ss_seq (pcA := 14) (ss_if (pcT := 12) (pcF := 14) (sc_or (pcA := 6) (sc_Tlt (pcA := 1) (pcB := 3) (se_iload_n dX4_putCode_0 rfl rfl) (se_bipush dX4_putCode_1 (by decide +kernel) rfl) dX4_putCode_3 rfl rfl) (sc_Fgt (pcA := 7) (pcB := 9) (se_iload_n dX4_putCode_6 rfl rfl) (se_bipush dX4_putCode_7 (by decide +kernel) rfl) dX4_putCode_9 rfl rfl))
    (ss_retI (pcA := 13) (se_iconst dX4_putCode_12 (by decide +kernel) rfl) dX4_putCode_13 rfl) ss_skip)
    (ss_seq (pcA := 26) (ss_if (pcT := 23) (pcF := 26) (sc_Fge (pcA := 18) (pcB := 20) (se_get (pcA := 15) (T := TX4) (k := 1) (index := 15) (se_aload_n dX4_putCode_14 rfl rfl) rfl in_X4_putCode_X4 (Nat.le_of_ble_eq_true rfl) lk_X4_putCode_15 rfl dX4_putCode_15 rfl) (se_bipush dX4_putCode_18 (by decide +kernel) rfl) dX4_putCode_20 rfl rfl)
    (ss_retI (pcA := 25) (se_bipush dX4_putCode_23 (by decide +kernel) rfl) dX4_putCode_25 rfl) ss_skip)
    (ss_seq (pcA := 38) (ss_callVS (pcA := 35) (index := 19) (sa_cr (pcA := 30) (se_getR (pcA := 27) (T := TX4) (k := 0) (index := 9) (se_aload_n dX4_putCode_26 rfl rfl) rfl in_X4_putCode_X4 (Nat.le_of_ble_eq_true rfl) lk_X4_putCode_9 rfl dX4_putCode_27 rfl) (sa_ci (pcA := 34) (se_get (pcA := 31) (T := TX4) (k := 1) (index := 15) (se_aload_n dX4_putCode_30 rfl rfl) rfl in_X4_putCode_X4 (Nat.le_of_ble_eq_true rfl) lk_X4_putCode_15 rfl dX4_putCode_31 rfl) (sa_ci (pcA := 35) (se_iload_n dX4_putCode_34 rfl rfl) sa_nil))) T_X5_put gX4_putCode_X5_put rfl (by decide +kernel) (Nat.le_of_ble_eq_true rfl) (Nat.le_of_ble_eq_true rfl) (s_LenR (s_LenI (s_LenI s_Len0))) dX4_putCode_35 rfl)
    (ss_seq (pcA := 48) (ss_putop (pcA := 39) (pcD := 40) (pcG := 43) (pcB := 44) (pcO := 45) (T := TX4) (index := 15) (se_aload_n dX4_putCode_38 rfl rfl) dX4_putCode_39 rfl rfl in_X4_putCode_X4 tyX4 tyX4_ok nmX4 (Nat.le_of_ble_eq_true rfl) lk_X4_putCode_15 rfl dX4_putCode_40 rfl (se_iconst dX4_putCode_43 (by decide +kernel) rfl) (Or.inl ⟨dX4_putCode_44, rfl⟩) rfl rfl rfl dX4_putCode_45 rfl)
    (ss_retI (pcA := 52) (se_get (pcA := 49) (T := TX4) (k := 1) (index := 15) (se_aload_n dX4_putCode_48 rfl rfl) rfl in_X4_putCode_X4 (Nat.le_of_ble_eq_true rfl) lk_X4_putCode_15 rfl dX4_putCode_49 rfl) dX4_putCode_52 rfl)))))
theorem T_X4_putCode : sMet vwCl RX6 yX4_putCode wsX4_putCode 1 22 M_X4_putCode := sMet_of rfl (by decide +kernel) rfl rfl (fun h => by cases h) (m_ofV_run _ _ _) S_X4_putCode (m_ofV_cat _ _ _ (Nat.le_of_ble_eq_true rfl))
theorem in_X4_empty_X4 : ∀ w ∈ u_ws RX4 TX4 9, w ∈ wsX4_empty := by decide +kernel
theorem lk_X4_empty_15 : Cond.fieldLink RX4 15 RX4 "length" "I" ∈ wsX4_empty := by decide +kernel
def B_X4_empty : sStm :=
  (s_seq (s_decI 1 (e_get 4 1 (e_r 0)))
    (s_seq (s_putI 4 1 (e_r 0) (e_k (nI 0)))
    (s_retI (e_i 1))))
def M_X4_empty : sSem := m_ofV 4 1 B_X4_empty
set_option maxRecDepth 100000 in
set_option maxHeartbeats 4000000 in
theorem S_X4_empty : sSS (cX4_empty, wsX4_empty, RX4, (some .int), 0, 0, 2, vwCl, RX6, false) 0 0 B_X4_empty :=
  (ss_seq (pcA := 5) (ss_decI_n (pcA := 4) (se_get (pcA := 1) (T := TX4) (k := 1) (index := 15) (se_aload_n dX4_empty_0 rfl rfl) rfl in_X4_empty_X4 (Nat.le_of_ble_eq_true rfl) lk_X4_empty_15 rfl dX4_empty_1 rfl) dX4_empty_4 rfl (Nat.le_of_ble_eq_true rfl) rfl)
    (ss_seq (pcA := 10) (ss_putI (pcA := 6) (pcB := 7) (T := TX4) (index := 15) (se_aload_n dX4_empty_5 rfl rfl) (se_iconst dX4_empty_6 (by decide +kernel) rfl) rfl in_X4_empty_X4 tyX4 tyX4_ok nmX4 (Nat.le_of_ble_eq_true rfl) lk_X4_empty_15 rfl rfl rfl dX4_empty_7 rfl)
    (ss_retI (pcA := 11) (se_iload_n dX4_empty_10 rfl rfl) dX4_empty_11 rfl)))
theorem T_X4_empty : sMet vwCl RX6 yX4_empty wsX4_empty 0 0 M_X4_empty := sMet_of rfl (by decide +kernel) rfl rfl (fun h => by cases h) (m_ofV_run _ _ _) S_X4_empty (m_ofV_cat _ _ _ (Nat.le_of_ble_eq_true rfl))
theorem in_X4_begin_X4 : ∀ w ∈ u_ws RX4 TX4 9, w ∈ wsX4_begin := by decide +kernel
theorem lk_X4_begin_25 : Cond.fieldLink RX4 25 RX4 "place" "I" ∈ wsX4_begin := by decide +kernel
def B_X4_begin : sStm :=
  (s_seq (s_putI 4 2 (e_r 0) (e_k (nI 0)))
    s_ret0)
def M_X4_begin : sSem := m_ofV 4 1 B_X4_begin
set_option maxRecDepth 100000 in
set_option maxHeartbeats 4000000 in
theorem S_X4_begin : sSS (cX4_begin, wsX4_begin, RX4, none, 0, 0, 1, vwCl, RX6, false) 0 0 B_X4_begin :=
  (ss_seq (pcA := 5) (ss_putI (pcA := 1) (pcB := 2) (T := TX4) (index := 25) (se_aload_n dX4_begin_0 rfl rfl) (se_iconst dX4_begin_1 (by decide +kernel) rfl) rfl in_X4_begin_X4 tyX4 tyX4_ok nmX4 (Nat.le_of_ble_eq_true rfl) lk_X4_begin_25 rfl rfl rfl dX4_begin_2 rfl)
    (ss_ret0 dX4_begin_5 rfl))
theorem T_X4_begin : sMet vwCl RX6 yX4_begin wsX4_begin 0 0 M_X4_begin := sMet_of rfl (by decide +kernel) rfl rfl (fun h => by cases h) (m_ofV_run _ _ _) S_X4_begin (m_ofV_cat _ _ _ (Nat.le_of_ble_eq_true rfl))
theorem in_X4_code_X4 : ∀ w ∈ u_ws RX4 TX4 9, w ∈ wsX4_code := by decide +kernel
theorem lk_X4_code_25 : Cond.fieldLink RX4 25 RX4 "place" "I" ∈ wsX4_code := by decide +kernel
theorem lk_X4_code_15 : Cond.fieldLink RX4 15 RX4 "length" "I" ∈ wsX4_code := by decide +kernel
theorem lk_X4_code_9 : Cond.fieldLink RX4 9 RX4 "codes" "[I" ∈ wsX4_code := by decide +kernel
def B_X4_code : sStm :=
  (s_retI (e_if (c_and (c_and (c_cmp0 i_ge (e_get 4 2 (e_r 0))) (c_cmp i_lt (e_get 4 2 (e_r 0)) (e_get 4 1 (e_r 0)))) (c_cmp i_lt (e_get 4 2 (e_r 0)) (e_len (e_getR 4 0 (e_r 0))))) (e_ald (e_getR 4 0 (e_r 0)) (e_get 4 2 (e_r 0))) (e_k (nI 0))))
def M_X4_code : sSem := m_ofV 4 1 B_X4_code
set_option maxRecDepth 100000 in
set_option maxHeartbeats 4000000 in
theorem S_X4_code : sSS (cX4_code, wsX4_code, RX4, (some .int), 0, 0, 1, vwCl, RX6, false) 0 0 B_X4_code :=
  (ss_retI (pcA := 43) (se_if (pcT := 30) (pcF := 42) (pcG := 39) (sc_and (pcA := 18) (sc_and (pcA := 7) (sc_Fge0 (pcB := 4) (se_get (pcA := 1) (T := TX4) (k := 2) (index := 25) (se_aload_n dX4_code_0 rfl rfl) rfl in_X4_code_X4 (Nat.le_of_ble_eq_true rfl) lk_X4_code_25 rfl dX4_code_1 rfl) dX4_code_4 rfl rfl) (sc_Flt (pcA := 11) (pcB := 15) (se_get (pcA := 8) (T := TX4) (k := 2) (index := 25) (se_aload_n dX4_code_7 rfl rfl) rfl in_X4_code_X4 (Nat.le_of_ble_eq_true rfl) lk_X4_code_25 rfl dX4_code_8 rfl) (se_get (pcA := 12) (T := TX4) (k := 1) (index := 15) (se_aload_n dX4_code_11 rfl rfl) rfl in_X4_code_X4 (Nat.le_of_ble_eq_true rfl) lk_X4_code_15 rfl dX4_code_12 rfl) dX4_code_15 rfl rfl)) (sc_Flt (pcA := 22) (pcB := 27) (se_get (pcA := 19) (T := TX4) (k := 2) (index := 25) (se_aload_n dX4_code_18 rfl rfl) rfl in_X4_code_X4 (Nat.le_of_ble_eq_true rfl) lk_X4_code_25 rfl dX4_code_19 rfl) (se_len (pcA := 26) (se_getR (pcA := 23) (T := TX4) (k := 0) (index := 9) (se_aload_n dX4_code_22 rfl rfl) rfl in_X4_code_X4 (Nat.le_of_ble_eq_true rfl) lk_X4_code_9 rfl dX4_code_23 rfl) dX4_code_26 rfl) dX4_code_27 rfl rfl)) (se_ald (pcA := 34) (pcB := 38) (se_getR (pcA := 31) (T := TX4) (k := 0) (index := 9) (se_aload_n dX4_code_30 rfl rfl) rfl in_X4_code_X4 (Nat.le_of_ble_eq_true rfl) lk_X4_code_9 rfl dX4_code_31 rfl) (se_get (pcA := 35) (T := TX4) (k := 2) (index := 25) (se_aload_n dX4_code_34 rfl rfl) rfl in_X4_code_X4 (Nat.le_of_ble_eq_true rfl) lk_X4_code_25 rfl dX4_code_35 rfl) dX4_code_38 rfl) dX4_code_39 rfl (se_iconst dX4_code_42 (by decide +kernel) rfl)) dX4_code_43 rfl)
theorem T_X4_code : sMet vwCl RX6 yX4_code wsX4_code 0 0 M_X4_code := sMet_of rfl (by decide +kernel) rfl rfl (fun h => by cases h) (m_ofV_run _ _ _) S_X4_code (m_ofV_cat _ _ _ (Nat.le_of_ble_eq_true rfl))
theorem in_X4_continues_X4 : ∀ w ∈ u_ws RX4 TX4 9, w ∈ wsX4_continues := by decide +kernel
theorem lk_X4_continues_66 : Cond.fieldLink RX4 66 RX4 "value" "I" ∈ wsX4_continues := by decide +kernel
def B_X4_continues : sStm :=
  (s_seq (s_decI 4 (e_sub (e_callI M_X4_code (a_cr (e_r 0) a_nil)) (e_k (nI 48))))
    (s_seq (s_if (c_or (c_cmp0 i_lt (e_i 4)) (c_cmp i_gt (e_i 4) (e_k (nI 9))))
    (s_retZ (e_k (nI 0))) s_skip)
    (s_seq (s_if (c_cmp0 i_eq (e_i 1))
    (s_retZ (e_if (c_or (c_cmp0 i_gt (e_i 4)) (c_cmp0 i_eq (e_i 2))) (e_k (nI 1)) (e_k (nI 0)))) s_skip)
    (s_retZ (e_if (c_and (c_cmp0 i_gt (e_get 4 4 (e_r 0))) (c_cmp i_le (e_add (e_mul (e_k (nI 10)) (e_get 4 4 (e_r 0))) (e_i 4)) (e_i 3))) (e_k (nI 1)) (e_k (nI 0)))))))
def M_X4_continues : sSem := m_ofV 4 4 B_X4_continues
set_option maxRecDepth 100000 in
set_option maxHeartbeats 4000000 in
theorem S_X4_continues : sSS (cX4_continues, wsX4_continues, RX4, (some .boolean), 1, 20, 5, vwCl, RX6, false) 0 0 B_X4_continues :=
  (ss_seq (pcA := 9) (ss_decI (pcA := 7) (se_sub (pcA := 4) (pcB := 6) (se_callVI (pcA := 1) (ci := 4) (index := 49) (sa_cr (pcA := 1) (se_aload_n dX4_continues_0 rfl rfl) sa_nil) T_X4_code (s_Rcv_of 4 _ _) rfl gX4_continues_X4_code rfl (by decide +kernel) (Nat.le_of_ble_eq_true rfl) (Nat.le_of_ble_eq_true rfl) (s_LenR s_Len0) (Nat.le_of_ble_eq_true rfl) dX4_continues_1 rfl) (se_bipush dX4_continues_4 (by decide +kernel) rfl) dX4_continues_6 rfl) dX4_continues_7 (Nat.le_of_ble_eq_true rfl) rfl)
    (ss_seq (pcA := 23) (ss_if (pcT := 21) (pcF := 23) (sc_or (pcA := 14) (sc_Tlt0 (pcB := 11) (se_iload dX4_continues_9 rfl) dX4_continues_11 rfl rfl) (sc_Fgt (pcA := 16) (pcB := 18) (se_iload dX4_continues_14 rfl) (se_bipush dX4_continues_16 (by decide +kernel) rfl) dX4_continues_18 rfl rfl))
    (ss_retZ (pcA := 22) (se_iconst dX4_continues_21 (by decide +kernel) rfl) dX4_continues_22 rfl) ss_skip)
    (ss_seq (pcA := 42) (ss_if (pcT := 27) (pcF := 42) (sc_Feq0 (pcB := 24) (se_iload_n dX4_continues_23 rfl rfl) dX4_continues_24 rfl rfl)
    (ss_retZ (pcA := 41) (se_if (pcT := 36) (pcF := 40) (pcG := 37) (sc_or (pcA := 32) (sc_Tgt0 (pcB := 29) (se_iload dX4_continues_27 rfl) dX4_continues_29 rfl rfl) (sc_Feq0 (pcB := 33) (se_iload_n dX4_continues_32 rfl rfl) dX4_continues_33 rfl rfl)) (se_iconst dX4_continues_36 (by decide +kernel) rfl) dX4_continues_37 rfl (se_iconst dX4_continues_40 (by decide +kernel) rfl)) dX4_continues_41 rfl) ss_skip)
    (ss_retZ (pcA := 68) (se_if (pcT := 63) (pcF := 67) (pcG := 64) (sc_and (pcA := 49) (sc_Fgt0 (pcB := 46) (se_get (pcA := 43) (T := TX4) (k := 4) (index := 66) (se_aload_n dX4_continues_42 rfl rfl) rfl in_X4_continues_X4 (Nat.le_of_ble_eq_true rfl) lk_X4_continues_66 rfl dX4_continues_43 rfl) dX4_continues_46 rfl rfl) (sc_Fle (pcA := 59) (pcB := 60) (se_add (pcA := 56) (pcB := 58) (se_mul (pcA := 51) (pcB := 55) (se_bipush dX4_continues_49 (by decide +kernel) rfl) (se_get (pcA := 52) (T := TX4) (k := 4) (index := 66) (se_aload_n dX4_continues_51 rfl rfl) rfl in_X4_continues_X4 (Nat.le_of_ble_eq_true rfl) lk_X4_continues_66 rfl dX4_continues_52 rfl) dX4_continues_55 rfl) (se_iload dX4_continues_56 rfl) dX4_continues_58 rfl) (se_iload_n dX4_continues_59 rfl rfl) dX4_continues_60 rfl rfl)) (se_iconst dX4_continues_63 (by decide +kernel) rfl) dX4_continues_64 rfl (se_iconst dX4_continues_67 (by decide +kernel) rfl)) dX4_continues_68 rfl))))
theorem T_X4_continues : sMet vwCl RX6 yX4_continues wsX4_continues 1 20 M_X4_continues := sMet_of rfl (by decide +kernel) rfl rfl (fun h => by cases h) (m_ofV_run _ _ _) S_X4_continues (m_ofV_cat _ _ _ (Nat.le_of_ble_eq_true rfl))
theorem in_X4_nextNumber_X4 : ∀ w ∈ u_ws RX4 TX4 9, w ∈ wsX4_nextNumber := by decide +kernel
theorem lk_X4_nextNumber_66 : Cond.fieldLink RX4 66 RX4 "value" "I" ∈ wsX4_nextNumber := by decide +kernel
theorem lk_X4_nextNumber_25 : Cond.fieldLink RX4 25 RX4 "place" "I" ∈ wsX4_nextNumber := by decide +kernel
theorem lk_X4_nextNumber_15 : Cond.fieldLink RX4 15 RX4 "length" "I" ∈ wsX4_nextNumber := by decide +kernel
abbrev C_X4_nextNumber_1 : sCd := (c_and (c_cmp i_lt (e_i 4) (e_get 4 1 (e_r 0))) (c_cmp0 i_ne (e_callI M_X4_continues (a_cr (e_r 0) (a_ci (e_i 3) (a_ci (e_i 1) (a_ci (e_i 2) a_nil)))))))
abbrev W_X4_nextNumber_1 : sStm :=
  (s_seq (s_seq (s_putI 4 4 (e_r 0) (e_sub (e_add (e_mul (e_k (nI 10)) (e_get 4 4 (e_r 0))) (e_callI M_X4_code (a_cr (e_r 0) a_nil))) (e_k (nI 48))))
    (s_seq (s_inc 3 (nI 1))
    (s_putop 4 2 (e_r 0) (fun x z => x + z) (e_k (nI 1)))))
    (s_inc 4 (nI 1)))
def B_X4_nextNumber : sStm :=
  (s_seq (s_putI 4 4 (e_r 0) (e_k (nI 0)))
    (s_seq (s_decI 3 (e_k (nI 0)))
    (s_seq (s_blk 4 (s_seq (s_decI 4 (e_get 4 2 (e_r 0)))
    (s_while C_X4_nextNumber_1 W_X4_nextNumber_1)))
    (s_retZ (e_if (c_and (c_cmp0 i_gt (e_i 3)) (c_cmp i_ge (e_get 4 4 (e_r 0)) (e_i 1))) (e_k (nI 1)) (e_k (nI 0)))))))
def M_X4_nextNumber : sSem := m_ofV 4 3 B_X4_nextNumber
set_option maxRecDepth 100000 in
set_option maxHeartbeats 4000000 in
theorem S_X4_nextNumber : sSS (cX4_nextNumber, wsX4_nextNumber, RX4, (some .boolean), 2, 44, 5, vwCl, RX6, false) 0 0 B_X4_nextNumber :=
  (ss_seq (pcA := 5) (ss_putI (pcA := 1) (pcB := 2) (T := TX4) (index := 66) (se_aload_n dX4_nextNumber_0 rfl rfl) (se_iconst dX4_nextNumber_1 (by decide +kernel) rfl) rfl in_X4_nextNumber_X4 tyX4 tyX4_ok nmX4 (Nat.le_of_ble_eq_true rfl) lk_X4_nextNumber_66 rfl rfl rfl dX4_nextNumber_2 rfl)
    (ss_seq (pcA := 7) (ss_decI_n (pcA := 6) (se_iconst dX4_nextNumber_5 (by decide +kernel) rfl) dX4_nextNumber_6 rfl (Nat.le_of_ble_eq_true rfl) rfl)
    (ss_seq (pcA := 70) (ss_blk (ss_seq (pcA := 13) (ss_decI (pcA := 11) (se_get (pcA := 8) (T := TX4) (k := 2) (index := 25) (se_aload_n dX4_nextNumber_7 rfl rfl) rfl in_X4_nextNumber_X4 (Nat.le_of_ble_eq_true rfl) lk_X4_nextNumber_25 rfl dX4_nextNumber_8 rfl) dX4_nextNumber_11 (Nat.le_of_ble_eq_true rfl) rfl)
    (ss_while (pcB := 32) (sc_and (pcA := 22) (sc_Flt (pcA := 15) (pcB := 19) (se_iload dX4_nextNumber_13 rfl) (se_get (pcA := 16) (T := TX4) (k := 1) (index := 15) (se_aload_n dX4_nextNumber_15 rfl rfl) rfl in_X4_nextNumber_X4 (Nat.le_of_ble_eq_true rfl) lk_X4_nextNumber_15 rfl dX4_nextNumber_16 rfl) dX4_nextNumber_19 rfl rfl) (sc_Fne0 (pcB := 29) (se_callVI (pcA := 26) (ci := 4) (index := 72) (sa_cr (pcA := 23) (se_aload_n dX4_nextNumber_22 rfl rfl) (sa_ci (pcA := 24) (se_iload_n dX4_nextNumber_23 rfl rfl) (sa_ci (pcA := 25) (se_iload_n dX4_nextNumber_24 rfl rfl) (sa_ci (pcA := 26) (se_iload_n dX4_nextNumber_25 rfl rfl) sa_nil)))) T_X4_continues (s_Rcv_of 4 _ _) rfl gX4_nextNumber_X4_continues rfl (by decide +kernel) (Nat.le_of_ble_eq_true rfl) (Nat.le_of_ble_eq_true rfl) (s_LenR (s_LenI (s_LenI (s_LenI s_Len0)))) (Nat.le_of_ble_eq_true rfl) dX4_nextNumber_26 rfl) dX4_nextNumber_29 rfl rfl))
    (ss_seq (pcA := 64) (ss_seq (pcA := 51) (ss_putI (pcA := 33) (pcB := 48) (T := TX4) (index := 66) (se_aload_n dX4_nextNumber_32 rfl rfl) (se_sub (pcA := 45) (pcB := 47) (se_add (pcA := 40) (pcB := 44) (se_mul (pcA := 35) (pcB := 39) (se_bipush dX4_nextNumber_33 (by decide +kernel) rfl) (se_get (pcA := 36) (T := TX4) (k := 4) (index := 66) (se_aload_n dX4_nextNumber_35 rfl rfl) rfl in_X4_nextNumber_X4 (Nat.le_of_ble_eq_true rfl) lk_X4_nextNumber_66 rfl dX4_nextNumber_36 rfl) dX4_nextNumber_39 rfl) (se_callVI (pcA := 41) (ci := 4) (index := 49) (sa_cr (pcA := 41) (se_aload_n dX4_nextNumber_40 rfl rfl) sa_nil) T_X4_code (s_Rcv_of 4 _ _) rfl gX4_nextNumber_X4_code rfl (by decide +kernel) (Nat.le_of_ble_eq_true rfl) (Nat.le_of_ble_eq_true rfl) (s_LenR s_Len0) (Nat.le_of_ble_eq_true rfl) dX4_nextNumber_41 rfl) dX4_nextNumber_44 rfl) (se_bipush dX4_nextNumber_45 (by decide +kernel) rfl) dX4_nextNumber_47 rfl) rfl in_X4_nextNumber_X4 tyX4 tyX4_ok nmX4 (Nat.le_of_ble_eq_true rfl) lk_X4_nextNumber_66 rfl rfl rfl dX4_nextNumber_48 rfl)
    (ss_seq (pcA := 54) (ss_inc dX4_nextNumber_51 (Nat.le_of_ble_eq_true rfl) (by decide +kernel) rfl)
    (ss_putop (pcA := 55) (pcD := 56) (pcG := 59) (pcB := 60) (pcO := 61) (T := TX4) (index := 25) (se_aload_n dX4_nextNumber_54 rfl rfl) dX4_nextNumber_55 rfl rfl in_X4_nextNumber_X4 tyX4 tyX4_ok nmX4 (Nat.le_of_ble_eq_true rfl) lk_X4_nextNumber_25 rfl dX4_nextNumber_56 rfl (se_iconst dX4_nextNumber_59 (by decide +kernel) rfl) (Or.inl ⟨dX4_nextNumber_60, rfl⟩) rfl rfl rfl dX4_nextNumber_61 rfl)))
    (ss_goto (pcG := 67) (ss_inc dX4_nextNumber_64 (Nat.le_of_ble_eq_true rfl) (by decide +kernel) rfl) dX4_nextNumber_67 rfl)))))
    (ss_retZ (pcA := 87) (se_if (pcT := 82) (pcF := 86) (pcG := 83) (sc_and (pcA := 74) (sc_Fgt0 (pcB := 71) (se_iload_n dX4_nextNumber_70 rfl rfl) dX4_nextNumber_71 rfl rfl) (sc_Fge (pcA := 78) (pcB := 79) (se_get (pcA := 75) (T := TX4) (k := 4) (index := 66) (se_aload_n dX4_nextNumber_74 rfl rfl) rfl in_X4_nextNumber_X4 (Nat.le_of_ble_eq_true rfl) lk_X4_nextNumber_66 rfl dX4_nextNumber_75 rfl) (se_iload_n dX4_nextNumber_78 rfl rfl) dX4_nextNumber_79 rfl rfl)) (se_iconst dX4_nextNumber_82 (by decide +kernel) rfl) dX4_nextNumber_83 rfl (se_iconst dX4_nextNumber_86 (by decide +kernel) rfl)) dX4_nextNumber_87 rfl))))
theorem T_X4_nextNumber : sMet vwCl RX6 yX4_nextNumber wsX4_nextNumber 2 44 M_X4_nextNumber := sMet_of rfl (by decide +kernel) rfl rfl (fun h => by cases h) (m_ofV_run _ _ _) S_X4_nextNumber (m_ofV_cat _ _ _ (Nat.le_of_ble_eq_true rfl))
def B_X4_kindOf : sStm :=
  (s_sw (e_i 0) (fun x =>
    if x = nI 115 then (s_retI (e_k (nI 0)))
    else if x = nI 100 then (s_retI (e_k (nI 1)))
    else if x = nI 107 then (s_retI (e_k (nI 2)))
    else (s_retI (e_k (-1)))))
def M_X4_kindOf : sSem := m_of 1 B_X4_kindOf
set_option maxRecDepth 100000 in
set_option maxHeartbeats 4000000 in
theorem S_X4_kindOf : sSS (cX4_kindOf, wsX4_kindOf, RX4, (some .int), 0, 0, 1, vwCl, RX6, false) 0 0 B_X4_kindOf :=
  (ss_sw (pcA := 1) (se_iload_n dX4_kindOf_0 rfl rfl) (by
    intro x
    by_cases h0 : x = nI 115
    · subst h0
      exact ⟨36, s_Goes_look (off := 35) dX4_kindOf_1 (by decide +kernel) rfl rfl, (ss_retI (pcA := 37) (se_iconst dX4_kindOf_36 (by decide +kernel) rfl) dX4_kindOf_37 rfl)⟩
    by_cases h1 : x = nI 100
    · subst h1
      exact ⟨38, s_Goes_look (off := 37) dX4_kindOf_1 (by decide +kernel) rfl rfl, (ss_retI (pcA := 39) (se_iconst dX4_kindOf_38 (by decide +kernel) rfl) dX4_kindOf_39 rfl)⟩
    by_cases h2 : x = nI 107
    · subst h2
      exact ⟨40, s_Goes_look (off := 39) dX4_kindOf_1 (by decide +kernel) rfl rfl, (ss_retI (pcA := 41) (se_iconst dX4_kindOf_40 (by decide +kernel) rfl) dX4_kindOf_41 rfl)⟩
    exact ⟨42, s_Goes_look (off := 41) dX4_kindOf_1 (by decide +kernel) (by have e0 : x.toInt ≠ 115 := i_tn (nI 115) h0; have e1 : x.toInt ≠ 100 := i_tn (nI 100) h1; have e2 : x.toInt ≠ 107 := i_tn (nI 107) h2; simp [Op.lookupswitch.offset, e0, Ne.symm e0, e1, Ne.symm e1, e2, Ne.symm e2]) rfl, by rw [if_neg h0, if_neg h1, if_neg h2]; exact (ss_retI (pcA := 43) (se_iconst dX4_kindOf_42 (by decide +kernel) rfl) dX4_kindOf_43 rfl)⟩))
theorem T_X4_kindOf : sMet vwCl RX6 yX4_kindOf wsX4_kindOf 0 0 M_X4_kindOf := sMet_of rfl (by decide +kernel) rfl rfl (fun h => by cases h) (m_of_run _ _) S_X4_kindOf (m_of_cat _ _ (Nat.le_of_ble_eq_true rfl))
theorem in_X4_skip_X4 : ∀ w ∈ u_ws RX4 TX4 9, w ∈ wsX4_skip := by decide +kernel
theorem lk_X4_skip_25 : Cond.fieldLink RX4 25 RX4 "place" "I" ∈ wsX4_skip := by decide +kernel
def B_X4_skip : sStm :=
  (s_seq (s_if (c_cmp i_ne (e_callI M_X4_code (a_cr (e_r 0) a_nil)) (e_i 1))
    (s_retZ (e_k (nI 0))) s_skip)
    (s_seq (s_putop 4 2 (e_r 0) (fun x z => x + z) (e_k (nI 1)))
    (s_retZ (e_k (nI 1)))))
def M_X4_skip : sSem := m_ofV 4 2 B_X4_skip
set_option maxRecDepth 100000 in
set_option maxHeartbeats 4000000 in
theorem S_X4_skip : sSS (cX4_skip, wsX4_skip, RX4, (some .boolean), 1, 20, 2, vwCl, RX6, false) 0 0 B_X4_skip :=
  (ss_seq (pcA := 10) (ss_if (pcT := 8) (pcF := 10) (sc_Fne (pcA := 4) (pcB := 5) (se_callVI (pcA := 1) (ci := 4) (index := 49) (sa_cr (pcA := 1) (se_aload_n dX4_skip_0 rfl rfl) sa_nil) T_X4_code (s_Rcv_of 4 _ _) rfl gX4_skip_X4_code rfl (by decide +kernel) (Nat.le_of_ble_eq_true rfl) (Nat.le_of_ble_eq_true rfl) (s_LenR s_Len0) (Nat.le_of_ble_eq_true rfl) dX4_skip_1 rfl) (se_iload_n dX4_skip_4 rfl rfl) dX4_skip_5 rfl rfl)
    (ss_retZ (pcA := 9) (se_iconst dX4_skip_8 (by decide +kernel) rfl) dX4_skip_9 rfl) ss_skip)
    (ss_seq (pcA := 20) (ss_putop (pcA := 11) (pcD := 12) (pcG := 15) (pcB := 16) (pcO := 17) (T := TX4) (index := 25) (se_aload_n dX4_skip_10 rfl rfl) dX4_skip_11 rfl rfl in_X4_skip_X4 tyX4 tyX4_ok nmX4 (Nat.le_of_ble_eq_true rfl) lk_X4_skip_25 rfl dX4_skip_12 rfl (se_iconst dX4_skip_15 (by decide +kernel) rfl) (Or.inl ⟨dX4_skip_16, rfl⟩) rfl rfl rfl dX4_skip_17 rfl)
    (ss_retZ (pcA := 21) (se_iconst dX4_skip_20 (by decide +kernel) rfl) dX4_skip_21 rfl)))
theorem T_X4_skip : sMet vwCl RX6 yX4_skip wsX4_skip 1 20 M_X4_skip := sMet_of rfl (by decide +kernel) rfl rfl (fun h => by cases h) (m_ofV_run _ _ _) S_X4_skip (m_ofV_cat _ _ _ (Nat.le_of_ble_eq_true rfl))
theorem in_X4_nextDeed_X4 : ∀ w ∈ u_ws RX4 TX4 9, w ∈ wsX4_nextDeed := by decide +kernel
theorem lk_X4_nextDeed_25 : Cond.fieldLink RX4 25 RX4 "place" "I" ∈ wsX4_nextDeed := by decide +kernel
theorem lk_X4_nextDeed_53 : Cond.fieldLink RX4 53 RX4 "deedPosition" "I" ∈ wsX4_nextDeed := by decide +kernel
theorem lk_X4_nextDeed_56 : Cond.fieldLink RX4 56 RX4 "deedPrime" "I" ∈ wsX4_nextDeed := by decide +kernel
theorem lk_X4_nextDeed_63 : Cond.fieldLink RX4 63 RX4 "deedKind" "I" ∈ wsX4_nextDeed := by decide +kernel
theorem lk_X4_nextDeed_66 : Cond.fieldLink RX4 66 RX4 "value" "I" ∈ wsX4_nextDeed := by decide +kernel
theorem lk_X4_nextDeed_69 : Cond.fieldLink RX4 69 RX4 "deedStep" "I" ∈ wsX4_nextDeed := by decide +kernel
def B_X4_nextDeed : sStm :=
  (s_seq (s_putI 4 8 (e_r 0) (e_get 4 2 (e_r 0)))
    (s_seq (s_putI 4 7 (e_r 0) (e_k (nI 0)))
    (s_seq (s_putI 4 5 (e_r 0) (e_callI M_X4_kindOf (a_ci (e_callI M_X4_code (a_cr (e_r 0) a_nil)) a_nil)))
    (s_seq (s_if (c_cmp i_eq (e_get 4 5 (e_r 0)) (e_k (-1)))
    (s_retZ (e_k (nI 0))) s_skip)
    (s_seq (s_putop 4 2 (e_r 0) (fun x z => x + z) (e_k (nI 1)))
    (s_seq (s_if (c_not (c_cmp0 i_ne (e_callI M_X4_nextNumber (a_cr (e_r 0) (a_ci (e_k (nI 0)) (a_ci (e_k (nI 11)) a_nil))))))
    (s_retZ (e_k (nI 0))) s_skip)
    (s_seq (s_putI 4 6 (e_r 0) (e_get 4 4 (e_r 0)))
    (s_seq (s_if (c_cmp i_ne (e_get 4 5 (e_r 0)) (e_k (nI 2)))
    (s_retZ (e_k (nI 1))) s_skip)
    (s_seq (s_if (c_or (c_not (c_cmp0 i_ne (e_callI M_X4_skip (a_cr (e_r 0) (a_ci (e_k (nI 46)) a_nil))))) (c_not (c_cmp0 i_ne (e_callI M_X4_nextNumber (a_cr (e_r 0) (a_ci (e_k (nI 2)) (a_ci (e_k (nI 9999)) a_nil)))))))
    (s_retZ (e_k (nI 0))) s_skip)
    (s_seq (s_putI 4 7 (e_r 0) (e_get 4 4 (e_r 0)))
    (s_retZ (e_k (nI 1)))))))))))))
def M_X4_nextDeed : sSem := m_ofV 4 1 B_X4_nextDeed
set_option maxRecDepth 100000 in
set_option maxHeartbeats 4000000 in
theorem S_X4_nextDeed : sSS (cX4_nextDeed, wsX4_nextDeed, RX4, (some .boolean), 3, 68, 1, vwCl, RX6, false) 0 0 B_X4_nextDeed :=
  (ss_seq (pcA := 8) (ss_putI (pcA := 1) (pcB := 5) (T := TX4) (index := 53) (se_aload_n dX4_nextDeed_0 rfl rfl) (se_get (pcA := 2) (T := TX4) (k := 2) (index := 25) (se_aload_n dX4_nextDeed_1 rfl rfl) rfl in_X4_nextDeed_X4 (Nat.le_of_ble_eq_true rfl) lk_X4_nextDeed_25 rfl dX4_nextDeed_2 rfl) rfl in_X4_nextDeed_X4 tyX4 tyX4_ok nmX4 (Nat.le_of_ble_eq_true rfl) lk_X4_nextDeed_53 rfl rfl rfl dX4_nextDeed_5 rfl)
    (ss_seq (pcA := 13) (ss_putI (pcA := 9) (pcB := 10) (T := TX4) (index := 56) (se_aload_n dX4_nextDeed_8 rfl rfl) (se_iconst dX4_nextDeed_9 (by decide +kernel) rfl) rfl in_X4_nextDeed_X4 tyX4 tyX4_ok nmX4 (Nat.le_of_ble_eq_true rfl) lk_X4_nextDeed_56 rfl rfl rfl dX4_nextDeed_10 rfl)
    (ss_seq (pcA := 24) (ss_putI (pcA := 14) (pcB := 21) (T := TX4) (index := 63) (se_aload_n dX4_nextDeed_13 rfl rfl) (se_callSI (pcA := 18) (index := 59) (sa_ci (pcA := 18) (se_callVI (pcA := 15) (ci := 4) (index := 49) (sa_cr (pcA := 15) (se_aload_n dX4_nextDeed_14 rfl rfl) sa_nil) T_X4_code (s_Rcv_of 4 _ _) rfl gX4_nextDeed_X4_code rfl (by decide +kernel) (Nat.le_of_ble_eq_true rfl) (Nat.le_of_ble_eq_true rfl) (s_LenR s_Len0) (Nat.le_of_ble_eq_true rfl) dX4_nextDeed_15 rfl) sa_nil) T_X4_kindOf gX4_nextDeed_X4_kindOf rfl (by decide +kernel) (Nat.le_of_ble_eq_true rfl) (Nat.le_of_ble_eq_true rfl) (s_LenI s_Len0) (Nat.le_of_ble_eq_true rfl) dX4_nextDeed_18 rfl) rfl in_X4_nextDeed_X4 tyX4 tyX4_ok nmX4 (Nat.le_of_ble_eq_true rfl) lk_X4_nextDeed_63 rfl rfl rfl dX4_nextDeed_21 rfl)
    (ss_seq (pcA := 34) (ss_if (pcT := 32) (pcF := 34) (sc_Feq (pcA := 28) (pcB := 29) (se_get (pcA := 25) (T := TX4) (k := 5) (index := 63) (se_aload_n dX4_nextDeed_24 rfl rfl) rfl in_X4_nextDeed_X4 (Nat.le_of_ble_eq_true rfl) lk_X4_nextDeed_63 rfl dX4_nextDeed_25 rfl) (se_iconst dX4_nextDeed_28 (by decide +kernel) rfl) dX4_nextDeed_29 rfl rfl)
    (ss_retZ (pcA := 33) (se_iconst dX4_nextDeed_32 (by decide +kernel) rfl) dX4_nextDeed_33 rfl) ss_skip)
    (ss_seq (pcA := 44) (ss_putop (pcA := 35) (pcD := 36) (pcG := 39) (pcB := 40) (pcO := 41) (T := TX4) (index := 25) (se_aload_n dX4_nextDeed_34 rfl rfl) dX4_nextDeed_35 rfl rfl in_X4_nextDeed_X4 tyX4 tyX4_ok nmX4 (Nat.le_of_ble_eq_true rfl) lk_X4_nextDeed_25 rfl dX4_nextDeed_36 rfl (se_iconst dX4_nextDeed_39 (by decide +kernel) rfl) (Or.inl ⟨dX4_nextDeed_40, rfl⟩) rfl rfl rfl dX4_nextDeed_41 rfl)
    (ss_seq (pcA := 56) (ss_if (pcT := 54) (pcF := 56) (sc_not (sc_Tne0 (pcB := 51) (se_callVI (pcA := 48) (ci := 4) (index := 41) (sa_cr (pcA := 45) (se_aload_n dX4_nextDeed_44 rfl rfl) (sa_ci (pcA := 46) (se_iconst dX4_nextDeed_45 (by decide +kernel) rfl) (sa_ci (pcA := 48) (se_bipush dX4_nextDeed_46 (by decide +kernel) rfl) sa_nil))) T_X4_nextNumber (s_Rcv_of 4 _ _) rfl gX4_nextDeed_X4_nextNumber rfl (by decide +kernel) (Nat.le_of_ble_eq_true rfl) (Nat.le_of_ble_eq_true rfl) (s_LenR (s_LenI (s_LenI s_Len0))) (Nat.le_of_ble_eq_true rfl) dX4_nextDeed_48 rfl) dX4_nextDeed_51 rfl rfl))
    (ss_retZ (pcA := 55) (se_iconst dX4_nextDeed_54 (by decide +kernel) rfl) dX4_nextDeed_55 rfl) ss_skip)
    (ss_seq (pcA := 64) (ss_putI (pcA := 57) (pcB := 61) (T := TX4) (index := 69) (se_aload_n dX4_nextDeed_56 rfl rfl) (se_get (pcA := 58) (T := TX4) (k := 4) (index := 66) (se_aload_n dX4_nextDeed_57 rfl rfl) rfl in_X4_nextDeed_X4 (Nat.le_of_ble_eq_true rfl) lk_X4_nextDeed_66 rfl dX4_nextDeed_58 rfl) rfl in_X4_nextDeed_X4 tyX4 tyX4_ok nmX4 (Nat.le_of_ble_eq_true rfl) lk_X4_nextDeed_69 rfl rfl rfl dX4_nextDeed_61 rfl)
    (ss_seq (pcA := 74) (ss_if (pcT := 72) (pcF := 74) (sc_Fne (pcA := 68) (pcB := 69) (se_get (pcA := 65) (T := TX4) (k := 5) (index := 63) (se_aload_n dX4_nextDeed_64 rfl rfl) rfl in_X4_nextDeed_X4 (Nat.le_of_ble_eq_true rfl) lk_X4_nextDeed_63 rfl dX4_nextDeed_65 rfl) (se_iconst dX4_nextDeed_68 (by decide +kernel) rfl) dX4_nextDeed_69 rfl rfl)
    (ss_retZ (pcA := 73) (se_iconst dX4_nextDeed_72 (by decide +kernel) rfl) dX4_nextDeed_73 rfl) ss_skip)
    (ss_seq (pcA := 96) (ss_if (pcT := 94) (pcF := 96) (sc_or (pcA := 83) (sc_not (sc_Fne0 (pcB := 80) (se_callVI (pcA := 77) (ci := 4) (index := 38) (sa_cr (pcA := 75) (se_aload_n dX4_nextDeed_74 rfl rfl) (sa_ci (pcA := 77) (se_bipush dX4_nextDeed_75 (by decide +kernel) rfl) sa_nil)) T_X4_skip (s_Rcv_of 4 _ _) rfl gX4_nextDeed_X4_skip rfl (by decide +kernel) (Nat.le_of_ble_eq_true rfl) (Nat.le_of_ble_eq_true rfl) (s_LenR (s_LenI s_Len0)) (Nat.le_of_ble_eq_true rfl) dX4_nextDeed_77 rfl) dX4_nextDeed_80 rfl rfl)) (sc_not (sc_Tne0 (pcB := 91) (se_callVI (pcA := 88) (ci := 4) (index := 41) (sa_cr (pcA := 84) (se_aload_n dX4_nextDeed_83 rfl rfl) (sa_ci (pcA := 85) (se_iconst dX4_nextDeed_84 (by decide +kernel) rfl) (sa_ci (pcA := 88) (se_sipush dX4_nextDeed_85 (by decide +kernel) rfl) sa_nil))) T_X4_nextNumber (s_Rcv_of 4 _ _) rfl gX4_nextDeed_X4_nextNumber rfl (by decide +kernel) (Nat.le_of_ble_eq_true rfl) (Nat.le_of_ble_eq_true rfl) (s_LenR (s_LenI (s_LenI s_Len0))) (Nat.le_of_ble_eq_true rfl) dX4_nextDeed_88 rfl) dX4_nextDeed_91 rfl rfl)))
    (ss_retZ (pcA := 95) (se_iconst dX4_nextDeed_94 (by decide +kernel) rfl) dX4_nextDeed_95 rfl) ss_skip)
    (ss_seq (pcA := 104) (ss_putI (pcA := 97) (pcB := 101) (T := TX4) (index := 56) (se_aload_n dX4_nextDeed_96 rfl rfl) (se_get (pcA := 98) (T := TX4) (k := 4) (index := 66) (se_aload_n dX4_nextDeed_97 rfl rfl) rfl in_X4_nextDeed_X4 (Nat.le_of_ble_eq_true rfl) lk_X4_nextDeed_66 rfl dX4_nextDeed_98 rfl) rfl in_X4_nextDeed_X4 tyX4 tyX4_ok nmX4 (Nat.le_of_ble_eq_true rfl) lk_X4_nextDeed_56 rfl rfl rfl dX4_nextDeed_101 rfl)
    (ss_retZ (pcA := 105) (se_iconst dX4_nextDeed_104 (by decide +kernel) rfl) dX4_nextDeed_105 rfl)))))))))))
theorem T_X4_nextDeed : sMet vwCl RX6 yX4_nextDeed wsX4_nextDeed 3 68 M_X4_nextDeed := sMet_of rfl (by decide +kernel) rfl rfl (fun h => by cases h) (m_ofV_run _ _ _) S_X4_nextDeed (m_ofV_cat _ _ _ (Nat.le_of_ble_eq_true rfl))
def B_X4_nextPart : sStm :=
  (s_retZ (e_if (c_cmp0 i_eq (e_i 1)) (e_callI M_X4_nextNumber (a_cr (e_r 0) (a_ci (e_k (nI 1)) (a_ci (e_k (nI 9999)) a_nil)))) (e_callI M_X4_nextDeed (a_cr (e_r 0) a_nil))))
def M_X4_nextPart : sSem := m_ofV 4 2 B_X4_nextPart
set_option maxRecDepth 100000 in
set_option maxHeartbeats 4000000 in
theorem S_X4_nextPart : sSS (cX4_nextPart, wsX4_nextPart, RX4, (some .boolean), 4, 88, 2, vwCl, RX6, false) 0 0 B_X4_nextPart :=
  (ss_retZ (pcA := 19) (se_if (pcT := 4) (pcF := 15) (pcG := 12) (sc_Feq0 (pcB := 1) (se_iload_n dX4_nextPart_0 rfl rfl) dX4_nextPart_1 rfl rfl) (se_callVI (pcA := 9) (ci := 4) (index := 41) (sa_cr (pcA := 5) (se_aload_n dX4_nextPart_4 rfl rfl) (sa_ci (pcA := 6) (se_iconst dX4_nextPart_5 (by decide +kernel) rfl) (sa_ci (pcA := 9) (se_sipush dX4_nextPart_6 (by decide +kernel) rfl) sa_nil))) T_X4_nextNumber (s_Rcv_of 4 _ _) rfl gX4_nextPart_X4_nextNumber rfl (by decide +kernel) (Nat.le_of_ble_eq_true rfl) (Nat.le_of_ble_eq_true rfl) (s_LenR (s_LenI (s_LenI s_Len0))) (Nat.le_of_ble_eq_true rfl) dX4_nextPart_9 rfl) dX4_nextPart_12 rfl (se_callVI (pcA := 16) (ci := 4) (index := 45) (sa_cr (pcA := 16) (se_aload_n dX4_nextPart_15 rfl rfl) sa_nil) T_X4_nextDeed (s_Rcv_of 4 _ _) rfl gX4_nextPart_X4_nextDeed rfl (by decide +kernel) (Nat.le_of_ble_eq_true rfl) (Nat.le_of_ble_eq_true rfl) (s_LenR s_Len0) (Nat.le_of_ble_eq_true rfl) dX4_nextPart_16 rfl)) dX4_nextPart_19 rfl)
theorem T_X4_nextPart : sMet vwCl RX6 yX4_nextPart wsX4_nextPart 4 88 M_X4_nextPart := sMet_of rfl (by decide +kernel) rfl rfl (fun h => by cases h) (m_ofV_run _ _ _) S_X4_nextPart (m_ofV_cat _ _ _ (Nat.le_of_ble_eq_true rfl))
theorem in_X4_faultOf_X4 : ∀ w ∈ u_ws RX4 TX4 9, w ∈ wsX4_faultOf := by decide +kernel
theorem lk_X4_faultOf_31 : Cond.fieldLink RX4 31 RX4 "parts" "I" ∈ wsX4_faultOf := by decide +kernel
theorem lk_X4_faultOf_25 : Cond.fieldLink RX4 25 RX4 "place" "I" ∈ wsX4_faultOf := by decide +kernel
theorem lk_X4_faultOf_15 : Cond.fieldLink RX4 15 RX4 "length" "I" ∈ wsX4_faultOf := by decide +kernel
abbrev C_X4_faultOf_1 : sCd := (c_cmp i_le (e_i 2) (e_k (nI 60)))
abbrev W_X4_faultOf_1 : sStm :=
  (s_seq (s_seq (s_putI 4 3 (e_r 0) (e_i 2))
    (s_seq (s_if (c_not (c_cmp0 i_ne (e_callI M_X4_nextPart (a_cr (e_r 0) (a_ci (e_i 1) a_nil)))))
    (s_retI (e_get 4 2 (e_r 0))) s_skip)
    (s_seq (s_if (c_cmp i_ge (e_get 4 2 (e_r 0)) (e_get 4 1 (e_r 0)))
    (s_retI (e_k (-1))) s_skip)
    (s_if (c_not (c_cmp0 i_ne (e_callI M_X4_skip (a_cr (e_r 0) (a_ci (e_if (c_cmp0 i_eq (e_i 1)) (e_k (nI 44)) (e_k (nI 59))) a_nil)))))
    (s_retI (e_get 4 2 (e_r 0))) s_skip))))
    (s_inc 2 (nI 1)))
def B_X4_faultOf : sStm :=
  (s_seq (s_callV M_X4_begin (a_cr (e_r 0) a_nil))
    (s_seq (s_blk 2 (s_seq (s_decI 2 (e_k (nI 1)))
    (s_while C_X4_faultOf_1 W_X4_faultOf_1)))
    (s_retI (e_get 4 2 (e_r 0)))))
def M_X4_faultOf : sSem := m_ofV 4 2 B_X4_faultOf
set_option maxRecDepth 100000 in
set_option maxHeartbeats 4000000 in
theorem S_X4_faultOf : sSS (cX4_faultOf, wsX4_faultOf, RX4, (some .int), 5, 109, 3, vwCl, RX6, false) 0 0 B_X4_faultOf :=
  (ss_seq (pcA := 4) (ss_callVV (pcA := 1) (ci := 4) (index := 28) (sa_cr (pcA := 1) (se_aload_n dX4_faultOf_0 rfl rfl) sa_nil) T_X4_begin (s_Rcv_of 4 _ _) rfl gX4_faultOf_X4_begin rfl (by decide +kernel) (Nat.le_of_ble_eq_true rfl) (Nat.le_of_ble_eq_true rfl) (s_LenR s_Len0) dX4_faultOf_1 rfl)
    (ss_seq (pcA := 72) (ss_blk (ss_seq (pcA := 6) (ss_decI_n (pcA := 5) (se_iconst dX4_faultOf_4 (by decide +kernel) rfl) dX4_faultOf_5 rfl (Nat.le_of_ble_eq_true rfl) rfl)
    (ss_while (pcB := 12) (sc_Fle (pcA := 7) (pcB := 9) (se_iload_n dX4_faultOf_6 rfl rfl) (se_bipush dX4_faultOf_7 (by decide +kernel) rfl) dX4_faultOf_9 rfl rfl)
    (ss_seq (pcA := 66) (ss_seq (pcA := 17) (ss_putI (pcA := 13) (pcB := 14) (T := TX4) (index := 31) (se_aload_n dX4_faultOf_12 rfl rfl) (se_iload_n dX4_faultOf_13 rfl rfl) rfl in_X4_faultOf_X4 tyX4 tyX4_ok nmX4 (Nat.le_of_ble_eq_true rfl) lk_X4_faultOf_31 rfl rfl rfl dX4_faultOf_14 rfl)
    (ss_seq (pcA := 30) (ss_if (pcT := 25) (pcF := 30) (sc_not (sc_Tne0 (pcB := 22) (se_callVI (pcA := 19) (ci := 4) (index := 34) (sa_cr (pcA := 18) (se_aload_n dX4_faultOf_17 rfl rfl) (sa_ci (pcA := 19) (se_iload_n dX4_faultOf_18 rfl rfl) sa_nil)) T_X4_nextPart (s_Rcv_of 4 _ _) rfl gX4_faultOf_X4_nextPart rfl (by decide +kernel) (Nat.le_of_ble_eq_true rfl) (Nat.le_of_ble_eq_true rfl) (s_LenR (s_LenI s_Len0)) (Nat.le_of_ble_eq_true rfl) dX4_faultOf_19 rfl) dX4_faultOf_22 rfl rfl))
    (ss_retI (pcA := 29) (se_get (pcA := 26) (T := TX4) (k := 2) (index := 25) (se_aload_n dX4_faultOf_25 rfl rfl) rfl in_X4_faultOf_X4 (Nat.le_of_ble_eq_true rfl) lk_X4_faultOf_25 rfl dX4_faultOf_26 rfl) dX4_faultOf_29 rfl) ss_skip)
    (ss_seq (pcA := 43) (ss_if (pcT := 41) (pcF := 43) (sc_Fge (pcA := 34) (pcB := 38) (se_get (pcA := 31) (T := TX4) (k := 2) (index := 25) (se_aload_n dX4_faultOf_30 rfl rfl) rfl in_X4_faultOf_X4 (Nat.le_of_ble_eq_true rfl) lk_X4_faultOf_25 rfl dX4_faultOf_31 rfl) (se_get (pcA := 35) (T := TX4) (k := 1) (index := 15) (se_aload_n dX4_faultOf_34 rfl rfl) rfl in_X4_faultOf_X4 (Nat.le_of_ble_eq_true rfl) lk_X4_faultOf_15 rfl dX4_faultOf_35 rfl) dX4_faultOf_38 rfl rfl)
    (ss_retI (pcA := 42) (se_iconst dX4_faultOf_41 (by decide +kernel) rfl) dX4_faultOf_42 rfl) ss_skip)
    (ss_if (pcT := 61) (pcF := 66) (sc_not (sc_Tne0 (pcB := 58) (se_callVI (pcA := 55) (ci := 4) (index := 38) (sa_cr (pcA := 44) (se_aload_n dX4_faultOf_43 rfl rfl) (sa_ci (pcA := 55) (se_if (pcT := 48) (pcF := 53) (pcG := 50) (sc_Feq0 (pcB := 45) (se_iload_n dX4_faultOf_44 rfl rfl) dX4_faultOf_45 rfl rfl) (se_bipush dX4_faultOf_48 (by decide +kernel) rfl) dX4_faultOf_50 rfl (se_bipush dX4_faultOf_53 (by decide +kernel) rfl)) sa_nil)) T_X4_skip (s_Rcv_of 4 _ _) rfl gX4_faultOf_X4_skip rfl (by decide +kernel) (Nat.le_of_ble_eq_true rfl) (Nat.le_of_ble_eq_true rfl) (s_LenR (s_LenI s_Len0)) (Nat.le_of_ble_eq_true rfl) dX4_faultOf_55 rfl) dX4_faultOf_58 rfl rfl))
    (ss_retI (pcA := 65) (se_get (pcA := 62) (T := TX4) (k := 2) (index := 25) (se_aload_n dX4_faultOf_61 rfl rfl) rfl in_X4_faultOf_X4 (Nat.le_of_ble_eq_true rfl) lk_X4_faultOf_25 rfl dX4_faultOf_62 rfl) dX4_faultOf_65 rfl) ss_skip))))
    (ss_goto (pcG := 69) (ss_inc dX4_faultOf_66 (Nat.le_of_ble_eq_true rfl) (by decide +kernel) rfl) dX4_faultOf_69 rfl)))))
    (ss_retI (pcA := 76) (se_get (pcA := 73) (T := TX4) (k := 2) (index := 25) (se_aload_n dX4_faultOf_72 rfl rfl) rfl in_X4_faultOf_X4 (Nat.le_of_ble_eq_true rfl) lk_X4_faultOf_25 rfl dX4_faultOf_73 rfl) dX4_faultOf_76 rfl)))
theorem T_X4_faultOf : sMet vwCl RX6 yX4_faultOf wsX4_faultOf 5 109 M_X4_faultOf := sMet_of rfl (by decide +kernel) rfl rfl (fun h => by cases h) (m_ofV_run _ _ _) S_X4_faultOf (m_ofV_cat _ _ _ (Nat.le_of_ble_eq_true rfl))
theorem ml_X3_init_3 : Cond.methodLink RX3 3 objectInit ∈ wsX3_init := by decide +kernel
theorem mo_X3_init : Cond.instanceMethod objectInit ∈ wsX3_init := by decide +kernel
theorem mc_X3_init : Cond.code objectInit ⟨#[0xb1]⟩ 1 none ∈ wsX3_init := by decide +kernel
theorem cl_X3_init_9 : Cond.classLink RX3 9 RX6 ∈ wsX3_init := by decide +kernel
theorem ov_X3_init : Cond.arrayOver (.object RX6) ∈ s_nest := by decide +kernel
theorem in_X3_init_X3 : ∀ w ∈ u_ws RX3 TX3 3, w ∈ wsX3_init := by decide +kernel
theorem lk_X3_init_11 : Cond.fieldLink RX3 11 RX3 "states" "[LStairKin$Stairs;" ∈ wsX3_init := by decide +kernel
theorem in_X3_init_X6 : ∀ w ∈ u_ws RX6 TX6 6, w ∈ wsX3_init := by decide +kernel
theorem it_X3_init_X6 : Cond.instantiable RX6 6 ∈ wsX3_init := by decide +kernel
theorem ii_X3_init_X6 : Cond.initialized RX6 ∈ wsX3_init := by decide +kernel
theorem ml_X3_init_17 : Cond.methodLink RX3 17 yX6_init ∈ wsX3_init := by decide +kernel
theorem mi_X3_init_X6_init : Cond.instanceMethod yX6_init ∈ wsX3_init := by decide +kernel
abbrev C_X3_init_1 : sCd := (c_cmp i_lt (e_i 1) (e_lenR (e_getR 3 0 (e_r 0))))
abbrev W_X3_init_1 : sStm :=
  (s_seq (s_astR 5 (e_getR 3 0 (e_r 0)) (e_i 1) (e_new 5 [.null, .null, .int 0, .int 0, .int 0, .int 0] M_X6_init a_nil))
    (s_inc 1 (nI 1)))
def B_X3_init : sStm :=
  (s_seq (s_seq (s_super (e_r 0))
    (s_seq (s_putR 3 0 (e_r 0) (e_newq (e_k (nI 5))))
    (s_blk 1 (s_seq (s_decI 1 (e_k (nI 0)))
    (s_while C_X3_init_1 W_X3_init_1)))))
    s_ret0)
def M_X3_init : sSem := m_of 1 B_X3_init
set_option maxRecDepth 100000 in
set_option maxHeartbeats 4000000 in
theorem S_X3_init : sSS (cX3_init, wsX3_init, RX3, none, 3, 60, 2, vwCl, RX6, true) 0 0 B_X3_init :=
  (ss_seq (pcA := 42) (ss_seq (pcA := 4) (ss_objInit (pcA := 1) (se_aload_n dX3_init_0 rfl rfl) ml_X3_init_3 mo_X3_init mc_X3_init dX3_init_1 ⟨(Nat.le_of_ble_eq_true rfl), (Nat.le_of_ble_eq_true rfl)⟩ rfl)
    (ss_seq (pcA := 12) (ss_putRF (pcA := 5) (pcB := 9) (T := TX3) (index := 11) (se_aload_n dX3_init_4 rfl rfl) (se_newq (pcA := 6) (se_iconst dX3_init_5 (by decide +kernel) rfl) cl_X3_init_9 ov_X3_init rfl dX3_init_6 rfl) rfl in_X3_init_X3 tyX3 tyX3_ok nmX3 (Nat.le_of_ble_eq_true rfl) lk_X3_init_11 rfl rfl rfl rfl (Or.inr ⟨_, rfl⟩) dX3_init_9 rfl)
    (ss_blk (ss_seq (pcA := 14) (ss_decI_n (pcA := 13) (se_iconst dX3_init_12 (by decide +kernel) rfl) dX3_init_13 rfl (Nat.le_of_ble_eq_true rfl) rfl)
    (ss_while (pcB := 23) (sc_Flt (pcA := 15) (pcB := 20) (se_iload_n dX3_init_14 rfl rfl) (se_lenR (pcA := 19) (se_getR (pcA := 16) (T := TX3) (k := 0) (index := 11) (se_aload_n dX3_init_15 rfl rfl) rfl in_X3_init_X3 (Nat.le_of_ble_eq_true rfl) lk_X3_init_11 rfl dX3_init_16 rfl) dX3_init_19 rfl) dX3_init_20 rfl rfl)
    (ss_seq (pcA := 36) (ss_astR (pcA := 27) (pcI := 28) (pcB := 35) (ci := 5) rfl (se_getR (pcA := 24) (T := TX3) (k := 0) (index := 11) (se_aload_n dX3_init_23 rfl rfl) rfl in_X3_init_X3 (Nat.le_of_ble_eq_true rfl) lk_X3_init_11 rfl dX3_init_24 rfl) (se_iload_n dX3_init_27 rfl rfl) (se_new (pcD := 31) (pcB := 32) (pcA := 32) (ci := 5) (idn := 9) (index := 17) rfl in_X3_init_X6 tyX6 tyX6_ok cl_X3_init_9 it_X3_init_X6 ii_X3_init_X6 (fun j hj b => by rcases (show j = 0 ∨ j = 1 ∨ j = 2 ∨ j = 3 ∨ j = 4 ∨ j = 5 by omega) with rfl | rfl | rfl | rfl | rfl | rfl <;> rfl) rfl dX3_init_28 rfl dX3_init_31 rfl sa_nil T_X6_init gX3_init_X6_init rfl rfl ii_X3_init_X6 ml_X3_init_17 mi_X3_init_X6_init (by decide +kernel) (Nat.le_of_ble_eq_true rfl) (Nat.le_of_ble_eq_true rfl) s_Len0 (Nat.le_of_ble_eq_true rfl) dX3_init_32 rfl) dX3_init_35 rfl)
    (ss_goto (pcG := 39) (ss_inc dX3_init_36 (Nat.le_of_ble_eq_true rfl) (by decide +kernel) rfl) dX3_init_39 rfl)))))))
    (ss_ret0 dX3_init_42 rfl))
theorem T_X3_init : sMet vwCl RX6 yX3_init wsX3_init 3 60 M_X3_init := sMet_of rfl (by decide +kernel) rfl rfl (fun _ => rfl) (m_of_run _ _) S_X3_init (m_of_cat _ _ (Nat.le_of_ble_eq_true rfl))
theorem in_X3_stateAt_X3 : ∀ w ∈ u_ws RX3 TX3 3, w ∈ wsX3_stateAt := by decide +kernel
theorem lk_X3_stateAt_30 : Cond.fieldLink RX3 30 RX3 "first" "I" ∈ wsX3_stateAt := by decide +kernel
theorem lk_X3_stateAt_11 : Cond.fieldLink RX3 11 RX3 "states" "[LStairKin$Stairs;" ∈ wsX3_stateAt := by decide +kernel
def B_X3_stateAt : sStm :=
  (s_seq (s_decI 2 (e_rem (e_add (e_get 3 1 (e_r 0)) (e_i 1)) (e_k (nI 5))))
    (s_retR (e_if (c_and (c_cmp0 i_ge (e_i 2)) (c_cmp i_lt (e_i 2) (e_lenR (e_getR 3 0 (e_r 0))))) (e_aldR (e_getR 3 0 (e_r 0)) (e_i 2)) e_nil)))
def M_X3_stateAt : sSem := m_ofV 3 2 B_X3_stateAt
set_option maxRecDepth 100000 in
set_option maxHeartbeats 4000000 in
theorem S_X3_stateAt : sSS (cX3_stateAt, wsX3_stateAt, RX3, (some (.object "StairKin$Stairs")), 0, 0, 3, vwCl, RX6, false) 0 0 B_X3_stateAt :=
  (ss_seq (pcA := 9) (ss_decI_n (pcA := 8) (se_rem (pcA := 6) (pcB := 7) (se_add (pcA := 4) (pcB := 5) (se_get (pcA := 1) (T := TX3) (k := 1) (index := 30) (se_aload_n dX3_stateAt_0 rfl rfl) rfl in_X3_stateAt_X3 (Nat.le_of_ble_eq_true rfl) lk_X3_stateAt_30 rfl dX3_stateAt_1 rfl) (se_iload_n dX3_stateAt_4 rfl rfl) dX3_stateAt_5 rfl) (se_iconst dX3_stateAt_6 (by decide +kernel) rfl) dX3_stateAt_7 rfl) dX3_stateAt_8 rfl (Nat.le_of_ble_eq_true rfl) rfl)
    (ss_retR (pcA := 32) (se_if (pcT := 22) (pcF := 31) (pcG := 28) (sc_and (pcA := 13) (sc_Fge0 (pcB := 10) (se_iload_n dX3_stateAt_9 rfl rfl) dX3_stateAt_10 rfl rfl) (sc_Flt (pcA := 14) (pcB := 19) (se_iload_n dX3_stateAt_13 rfl rfl) (se_lenR (pcA := 18) (se_getR (pcA := 15) (T := TX3) (k := 0) (index := 11) (se_aload_n dX3_stateAt_14 rfl rfl) rfl in_X3_stateAt_X3 (Nat.le_of_ble_eq_true rfl) lk_X3_stateAt_11 rfl dX3_stateAt_15 rfl) dX3_stateAt_18 rfl) dX3_stateAt_19 rfl rfl)) (se_aldR (pcA := 26) (pcB := 27) (se_getR (pcA := 23) (T := TX3) (k := 0) (index := 11) (se_aload_n dX3_stateAt_22 rfl rfl) rfl in_X3_stateAt_X3 (Nat.le_of_ble_eq_true rfl) lk_X3_stateAt_11 rfl dX3_stateAt_23 rfl) (se_iload_n dX3_stateAt_26 rfl rfl) dX3_stateAt_27 rfl) dX3_stateAt_28 rfl (se_null dX3_stateAt_31 rfl)) dX3_stateAt_32 rfl (Or.inl ⟨_, rfl⟩)))
theorem T_X3_stateAt : sMet vwCl RX6 yX3_stateAt wsX3_stateAt 0 0 M_X3_stateAt := sMet_of rfl (by decide +kernel) rfl rfl (fun h => by cases h) (m_ofV_run _ _ _) S_X3_stateAt (m_ofV_cat _ _ _ (Nat.le_of_ble_eq_true rfl))
theorem in_X3_prepare_X3 : ∀ w ∈ u_ws RX3 TX3 3, w ∈ wsX3_prepare := by decide +kernel
theorem lk_X3_prepare_18 : Cond.fieldLink RX3 18 RX3 "held" "I" ∈ wsX3_prepare := by decide +kernel
def B_X3_prepare : sStm :=
  (s_seq (s_seq (s_decR 2 (e_callR M_X3_stateAt (a_cr (e_r 0) (a_ci (e_get 3 2 (e_r 0)) a_nil))))
    (s_if (c_nn (e_r 2))
    (s_callV M_X6_copyFrom (a_cr (e_r 2) (a_cr (e_r 1) a_nil))) s_skip))
    s_ret0)
def M_X3_prepare : sSem := m_ofV 3 2 B_X3_prepare
set_option maxRecDepth 100000 in
set_option maxHeartbeats 4000000 in
theorem S_X3_prepare : sSS (cX3_prepare, wsX3_prepare, RX3, none, 4, 88, 3, vwCl, RX6, false) 0 0 B_X3_prepare :=
  (ss_seq (pcA := 18) (ss_seq (pcA := 9) (ss_decR_n (pcA := 8) (se_callVR (pcA := 5) (ci := 3) (index := 22) (sa_cr (pcA := 1) (se_aload_n dX3_prepare_0 rfl rfl) (sa_ci (pcA := 5) (se_get (pcA := 2) (T := TX3) (k := 2) (index := 18) (se_aload_n dX3_prepare_1 rfl rfl) rfl in_X3_prepare_X3 (Nat.le_of_ble_eq_true rfl) lk_X3_prepare_18 rfl dX3_prepare_2 rfl) sa_nil)) T_X3_stateAt (s_Rcv_of 3 _ _) rfl gX3_prepare_X3_stateAt rfl (by decide +kernel) (Nat.le_of_ble_eq_true rfl) (Nat.le_of_ble_eq_true rfl) (s_LenR (s_LenI s_Len0)) (Nat.le_of_ble_eq_true rfl) dX3_prepare_5 rfl) dX3_prepare_8 rfl (Nat.le_of_ble_eq_true rfl) rfl)
    (ss_if (pcT := 13) (pcF := 18) (sc_Fnn (pcB := 10) (se_aload_n dX3_prepare_9 rfl rfl) dX3_prepare_10 rfl rfl)
    (ss_callVV (pcA := 15) (ci := 5) (index := 26) (sa_cr (pcA := 14) (se_aload_n dX3_prepare_13 rfl rfl) (sa_cr (pcA := 15) (se_aload_n dX3_prepare_14 rfl rfl) sa_nil)) T_X6_copyFrom (s_Rcv_of 5 _ _) rfl gX3_prepare_X6_copyFrom rfl (by decide +kernel) (Nat.le_of_ble_eq_true rfl) (Nat.le_of_ble_eq_true rfl) (s_LenR (s_LenR s_Len0)) dX3_prepare_15 rfl) ss_skip))
    (ss_ret0 dX3_prepare_18 rfl))
theorem T_X3_prepare : sMet vwCl RX6 yX3_prepare wsX3_prepare 4 88 M_X3_prepare := sMet_of rfl (by decide +kernel) rfl rfl (fun h => by cases h) (m_ofV_run _ _ _) S_X3_prepare (m_ofV_cat _ _ _ (Nat.le_of_ble_eq_true rfl))
theorem in_X3_keep_X3 : ∀ w ∈ u_ws RX3 TX3 3, w ∈ wsX3_keep := by decide +kernel
theorem lk_X3_keep_18 : Cond.fieldLink RX3 18 RX3 "held" "I" ∈ wsX3_keep := by decide +kernel
theorem lk_X3_keep_30 : Cond.fieldLink RX3 30 RX3 "first" "I" ∈ wsX3_keep := by decide +kernel
def B_X3_keep : sStm :=
  (s_seq (s_if (c_cmp0 i_ge (e_i 1))
    (s_seq (s_putop 3 2 (e_r 0) (fun x z => x + z) (e_k (nI 1)))
    (s_if (c_cmp i_gt (e_get 3 2 (e_r 0)) (e_k (nI 4)))
    (s_seq (s_putI 3 2 (e_r 0) (e_k (nI 4)))
    (s_putI 3 1 (e_r 0) (e_rem (e_add (e_get 3 1 (e_r 0)) (e_k (nI 1))) (e_k (nI 5))))) s_skip)) s_skip)
    (s_retI (e_i 1)))
def M_X3_keep : sSem := m_ofV 3 2 B_X3_keep
set_option maxRecDepth 100000 in
set_option maxHeartbeats 4000000 in
theorem S_X3_keep : sSS (cX3_keep, wsX3_keep, RX3, (some .int), 0, 0, 2, vwCl, RX6, false) 0 0 B_X3_keep :=
  (ss_seq (pcA := 39) (ss_if (pcT := 4) (pcF := 39) (sc_Fge0 (pcB := 1) (se_iload_n dX3_keep_0 rfl rfl) dX3_keep_1 rfl rfl)
    (ss_seq (pcA := 14) (ss_putop (pcA := 5) (pcD := 6) (pcG := 9) (pcB := 10) (pcO := 11) (T := TX3) (index := 18) (se_aload_n dX3_keep_4 rfl rfl) dX3_keep_5 rfl rfl in_X3_keep_X3 tyX3 tyX3_ok nmX3 (Nat.le_of_ble_eq_true rfl) lk_X3_keep_18 rfl dX3_keep_6 rfl (se_iconst dX3_keep_9 (by decide +kernel) rfl) (Or.inl ⟨dX3_keep_10, rfl⟩) rfl rfl rfl dX3_keep_11 rfl)
    (ss_if (pcT := 22) (pcF := 39) (sc_Fgt (pcA := 18) (pcB := 19) (se_get (pcA := 15) (T := TX3) (k := 2) (index := 18) (se_aload_n dX3_keep_14 rfl rfl) rfl in_X3_keep_X3 (Nat.le_of_ble_eq_true rfl) lk_X3_keep_18 rfl dX3_keep_15 rfl) (se_iconst dX3_keep_18 (by decide +kernel) rfl) dX3_keep_19 rfl rfl)
    (ss_seq (pcA := 27) (ss_putI (pcA := 23) (pcB := 24) (T := TX3) (index := 18) (se_aload_n dX3_keep_22 rfl rfl) (se_iconst dX3_keep_23 (by decide +kernel) rfl) rfl in_X3_keep_X3 tyX3 tyX3_ok nmX3 (Nat.le_of_ble_eq_true rfl) lk_X3_keep_18 rfl rfl rfl dX3_keep_24 rfl)
    (ss_putI (pcA := 28) (pcB := 36) (T := TX3) (index := 30) (se_aload_n dX3_keep_27 rfl rfl) (se_rem (pcA := 34) (pcB := 35) (se_add (pcA := 32) (pcB := 33) (se_get (pcA := 29) (T := TX3) (k := 1) (index := 30) (se_aload_n dX3_keep_28 rfl rfl) rfl in_X3_keep_X3 (Nat.le_of_ble_eq_true rfl) lk_X3_keep_30 rfl dX3_keep_29 rfl) (se_iconst dX3_keep_32 (by decide +kernel) rfl) dX3_keep_33 rfl) (se_iconst dX3_keep_34 (by decide +kernel) rfl) dX3_keep_35 rfl) rfl in_X3_keep_X3 tyX3 tyX3_ok nmX3 (Nat.le_of_ble_eq_true rfl) lk_X3_keep_30 rfl rfl rfl dX3_keep_36 rfl)) ss_skip)) ss_skip)
    (ss_retI (pcA := 40) (se_iload_n dX3_keep_39 rfl rfl) dX3_keep_40 rfl))
theorem T_X3_keep : sMet vwCl RX6 yX3_keep wsX3_keep 0 0 M_X3_keep := sMet_of rfl (by decide +kernel) rfl rfl (fun h => by cases h) (m_ofV_run _ _ _) S_X3_keep (m_ofV_cat _ _ _ (Nat.le_of_ble_eq_true rfl))
theorem in_X3_goBack_X3 : ∀ w ∈ u_ws RX3 TX3 3, w ∈ wsX3_goBack := by decide +kernel
theorem lk_X3_goBack_18 : Cond.fieldLink RX3 18 RX3 "held" "I" ∈ wsX3_goBack := by decide +kernel
def B_X3_goBack : sStm :=
  (s_seq (s_decR 2 (e_if (c_cmp0 i_gt (e_get 3 2 (e_r 0))) (e_callR M_X3_stateAt (a_cr (e_r 0) (a_ci (e_sub (e_get 3 2 (e_r 0)) (e_k (nI 1))) a_nil))) e_nil))
    (s_seq (s_if (c_null (e_r 2))
    (s_retZ (e_k (nI 0))) s_skip)
    (s_seq (s_putop 3 2 (e_r 0) (fun x z => x - z) (e_k (nI 1)))
    (s_seq (s_callV M_X6_copyFrom (a_cr (e_r 1) (a_cr (e_r 2) a_nil)))
    (s_retZ (e_k (nI 1)))))))
def M_X3_goBack : sSem := m_ofV 3 2 B_X3_goBack
set_option maxRecDepth 100000 in
set_option maxHeartbeats 4000000 in
theorem S_X3_goBack : sSS (cX3_goBack, wsX3_goBack, RX3, (some .boolean), 4, 88, 3, vwCl, RX6, false) 0 0 B_X3_goBack :=
  (ss_seq (pcA := 22) (ss_decR_n (pcA := 21) (se_if (pcT := 7) (pcF := 20) (pcG := 17) (sc_Fgt0 (pcB := 4) (se_get (pcA := 1) (T := TX3) (k := 2) (index := 18) (se_aload_n dX3_goBack_0 rfl rfl) rfl in_X3_goBack_X3 (Nat.le_of_ble_eq_true rfl) lk_X3_goBack_18 rfl dX3_goBack_1 rfl) dX3_goBack_4 rfl rfl) (se_callVR (pcA := 14) (ci := 3) (index := 22) (sa_cr (pcA := 8) (se_aload_n dX3_goBack_7 rfl rfl) (sa_ci (pcA := 14) (se_sub (pcA := 12) (pcB := 13) (se_get (pcA := 9) (T := TX3) (k := 2) (index := 18) (se_aload_n dX3_goBack_8 rfl rfl) rfl in_X3_goBack_X3 (Nat.le_of_ble_eq_true rfl) lk_X3_goBack_18 rfl dX3_goBack_9 rfl) (se_iconst dX3_goBack_12 (by decide +kernel) rfl) dX3_goBack_13 rfl) sa_nil)) T_X3_stateAt (s_Rcv_of 3 _ _) rfl gX3_goBack_X3_stateAt rfl (by decide +kernel) (Nat.le_of_ble_eq_true rfl) (Nat.le_of_ble_eq_true rfl) (s_LenR (s_LenI s_Len0)) (Nat.le_of_ble_eq_true rfl) dX3_goBack_14 rfl) dX3_goBack_17 rfl (se_null dX3_goBack_20 rfl)) dX3_goBack_21 rfl (Nat.le_of_ble_eq_true rfl) rfl)
    (ss_seq (pcA := 28) (ss_if (pcT := 26) (pcF := 28) (sc_Fnull (pcB := 23) (se_aload_n dX3_goBack_22 rfl rfl) dX3_goBack_23 rfl rfl)
    (ss_retZ (pcA := 27) (se_iconst dX3_goBack_26 (by decide +kernel) rfl) dX3_goBack_27 rfl) ss_skip)
    (ss_seq (pcA := 38) (ss_putop (pcA := 29) (pcD := 30) (pcG := 33) (pcB := 34) (pcO := 35) (T := TX3) (index := 18) (se_aload_n dX3_goBack_28 rfl rfl) dX3_goBack_29 rfl rfl in_X3_goBack_X3 tyX3 tyX3_ok nmX3 (Nat.le_of_ble_eq_true rfl) lk_X3_goBack_18 rfl dX3_goBack_30 rfl (se_iconst dX3_goBack_33 (by decide +kernel) rfl) (Or.inr ⟨dX3_goBack_34, rfl⟩) rfl rfl rfl dX3_goBack_35 rfl)
    (ss_seq (pcA := 43) (ss_callVV (pcA := 40) (ci := 5) (index := 26) (sa_cr (pcA := 39) (se_aload_n dX3_goBack_38 rfl rfl) (sa_cr (pcA := 40) (se_aload_n dX3_goBack_39 rfl rfl) sa_nil)) T_X6_copyFrom (s_Rcv_of 5 _ _) rfl gX3_goBack_X6_copyFrom rfl (by decide +kernel) (Nat.le_of_ble_eq_true rfl) (Nat.le_of_ble_eq_true rfl) (s_LenR (s_LenR s_Len0)) dX3_goBack_40 rfl)
    (ss_retZ (pcA := 44) (se_iconst dX3_goBack_43 (by decide +kernel) rfl) dX3_goBack_44 rfl)))))
theorem T_X3_goBack : sMet vwCl RX6 yX3_goBack wsX3_goBack 4 88 M_X3_goBack := sMet_of rfl (by decide +kernel) rfl rfl (fun h => by cases h) (m_ofV_run _ _ _) S_X3_goBack (m_ofV_cat _ _ _ (Nat.le_of_ble_eq_true rfl))
