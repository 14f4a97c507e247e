/-! printed by wip/p33/j2p.py out of the Java texts and the listing -/
theorem ml_X2_init_3 : Cond.methodLink RX2 3 objectInit ∈ wsX2_init := by decide +kernel
theorem mo_X2_init : Cond.instanceMethod objectInit ∈ wsX2_init := by decide +kernel
theorem mc_X2_init : Cond.code objectInit ⟨#[0xb1]⟩ 1 none ∈ wsX2_init := by decide +kernel
theorem na_X2_init : Cond.arrayClass .int ∈ wsX2_init := by decide +kernel
theorem in_X2_init_X2 : ∀ w ∈ u_ws RX2 TX2 2, w ∈ wsX2_init := by decide +kernel
theorem lk_X2_init_9 : Cond.fieldLink RX2 9 RX2 "lowest" "[I" ∈ wsX2_init := by decide +kernel
def B_X2_init : sStm :=
  (s_seq (s_seq (s_super (e_r 0))
    (s_putR 2 0 (e_r 0) (e_newa (e_k (nI 12)))))
    s_ret0)
def M_X2_init : sSem := m_of 1 B_X2_init
set_option maxRecDepth 100000 in
set_option maxHeartbeats 4000000 in
theorem S_X2_init : sSS (cX2_init, wsX2_init, RX2, none, 1, 20, 1, vwCl, RX6, true) 0 0 B_X2_init :=
  (ss_seq (pcA := 12) (ss_seq (pcA := 4) (ss_objInit (pcA := 1) (se_aload_n dX2_init_0 rfl rfl) ml_X2_init_3 mo_X2_init mc_X2_init dX2_init_1 ⟨(Nat.le_of_ble_eq_true rfl), (Nat.le_of_ble_eq_true rfl)⟩ rfl)
    (ss_putRF (pcA := 5) (pcB := 9) (T := TX2) (index := 9) (se_aload_n dX2_init_4 rfl rfl) (se_newa (pcA := 7) (se_bipush dX2_init_5 (by decide +kernel) rfl) na_X2_init dX2_init_7 rfl) rfl in_X2_init_X2 tyX2 tyX2_ok nmX2 (Nat.le_of_ble_eq_true rfl) lk_X2_init_9 rfl rfl rfl rfl (Or.inr ⟨_, rfl⟩) dX2_init_9 rfl))
    (ss_ret0 dX2_init_12 rfl))
theorem T_X2_init : sMet vwCl RX6 yX2_init wsX2_init 1 20 M_X2_init := sMet_of rfl (by decide +kernel) rfl rfl (fun _ => rfl) (m_of_run _ _) S_X2_init (m_of_cat _ _ (Nat.le_of_ble_eq_true rfl))
theorem in_X2_lowestOf_X2 : ∀ w ∈ u_ws RX2 TX2 2, w ∈ wsX2_lowestOf := by decide +kernel
theorem lk_X2_lowestOf_9 : Cond.fieldLink RX2 9 RX2 "lowest" "[I" ∈ wsX2_lowestOf := by decide +kernel
def B_X2_lowestOf : sStm :=
  (s_retI (e_callI M_X5_at (a_cr (e_getR 2 0 (e_r 0)) (a_ci (e_i 1) a_nil))))
def M_X2_lowestOf : sSem := m_ofV 2 2 B_X2_lowestOf
set_option maxRecDepth 100000 in
set_option maxHeartbeats 4000000 in
theorem S_X2_lowestOf : sSS (cX2_lowestOf, wsX2_lowestOf, RX2, (some .int), 1, 21, 2, vwCl, RX6, false) 0 0 B_X2_lowestOf :=
  (ss_retI (pcA := 8) (se_callSI (pcA := 5) (index := 40) (sa_cr (pcA := 4) (se_getR (pcA := 1) (T := TX2) (k := 0) (index := 9) (se_aload_n dX2_lowestOf_0 rfl rfl) rfl in_X2_lowestOf_X2 (Nat.le_of_ble_eq_true rfl) lk_X2_lowestOf_9 rfl dX2_lowestOf_1 rfl) (sa_ci (pcA := 5) (se_iload_n dX2_lowestOf_4 rfl rfl) sa_nil)) T_X5_at gX2_lowestOf_X5_at rfl (by decide +kernel) (Nat.le_of_ble_eq_true rfl) (Nat.le_of_ble_eq_true rfl) (s_LenR (s_LenI s_Len0)) (Nat.le_of_ble_eq_true rfl) dX2_lowestOf_5 rfl) dX2_lowestOf_8 rfl)
theorem T_X2_lowestOf : sMet vwCl RX6 yX2_lowestOf wsX2_lowestOf 1 21 M_X2_lowestOf := sMet_of rfl (by decide +kernel) rfl rfl (fun h => by cases h) (m_ofV_run _ _ _) S_X2_lowestOf (m_ofV_cat _ _ _ (Nat.le_of_ble_eq_true rfl))
theorem mm_X2_join_53 : Cond.methodLink RX2 53 Lib.Math.min.name ∈ wsX2_join := by decide +kernel
theorem ms_X2_join_min : Cond.static Lib.Math.min.name ∈ wsX2_join := by decide +kernel
theorem mi_X2_join_Math : Cond.initialized "java/lang/Math" ∈ wsX2_join := by decide +kernel
theorem mk_X2_join_min : Cond.code Lib.Math.min.name Lib.Math.min.code 2 (some .int) ∈ wsX2_join := by decide +kernel
theorem in_X2_join_X2 : ∀ w ∈ u_ws RX2 TX2 2, w ∈ wsX2_join := by decide +kernel
theorem lk_X2_join_21 : Cond.fieldLink RX2 21 RX2 "size" "I" ∈ wsX2_join := by decide +kernel
theorem lk_X2_join_9 : Cond.fieldLink RX2 9 RX2 "lowest" "[I" ∈ wsX2_join := by decide +kernel
abbrev C_X2_join_1 : sCd := (c_cmp i_lt (e_i 4) (e_get 2 1 (e_r 0)))
abbrev W_X2_join_1 : sStm :=
  (s_seq (s_if (c_or (c_cmp i_eq (e_callI M_X2_lowestOf (a_cr (e_r 0) (a_ci (e_i 4) a_nil))) (e_i 1)) (c_cmp i_eq (e_callI M_X2_lowestOf (a_cr (e_r 0) (a_ci (e_i 4) a_nil))) (e_i 2)))
    (s_callV M_X5_put (a_cr (e_getR 2 0 (e_r 0)) (a_ci (e_i 4) (a_ci (e_i 3) a_nil)))) s_skip)
    (s_inc 4 (nI 1)))
def B_X2_join : sStm :=
  (s_seq (s_seq (s_decI 3 (e_min (e_i 1) (e_i 2)))
    (s_blk 4 (s_seq (s_decI 4 (e_k (nI 0)))
    (s_while C_X2_join_1 W_X2_join_1))))
    s_ret0)
def M_X2_join : sSem := m_ofV 2 3 B_X2_join
set_option maxRecDepth 100000 in
set_option maxHeartbeats 4000000 in
theorem S_X2_join : sSS (cX2_join, wsX2_join, RX2, none, 2, 42, 5, vwCl, RX6, false) 0 0 B_X2_join :=
  (ss_seq (pcA := 54) (ss_seq (pcA := 6) (ss_decI_n (pcA := 5) (se_min (pcA := 1) (pcB := 2) (index := 53) (se_iload_n dX2_join_0 rfl rfl) (se_iload_n dX2_join_1 rfl rfl) mm_X2_join_53 ms_X2_join_min mi_X2_join_Math mk_X2_join_min (Nat.le_of_ble_eq_true rfl) (Nat.le_of_ble_eq_true rfl) (Nat.le_of_ble_eq_true rfl) dX2_join_2 rfl) dX2_join_5 rfl (Nat.le_of_ble_eq_true rfl) rfl)
    (ss_blk (ss_seq (pcA := 9) (ss_decI (pcA := 7) (se_iconst dX2_join_6 (by decide +kernel) rfl) dX2_join_7 (Nat.le_of_ble_eq_true rfl) rfl)
    (ss_while (pcB := 18) (sc_Flt (pcA := 11) (pcB := 15) (se_iload dX2_join_9 rfl) (se_get (pcA := 12) (T := TX2) (k := 1) (index := 21) (se_aload_n dX2_join_11 rfl rfl) rfl in_X2_join_X2 (Nat.le_of_ble_eq_true rfl) lk_X2_join_21 rfl dX2_join_12 rfl) dX2_join_15 rfl rfl)
    (ss_seq (pcA := 48) (ss_if (pcT := 38) (pcF := 48) (sc_or (pcA := 28) (sc_Teq (pcA := 24) (pcB := 25) (se_callVI (pcA := 21) (ci := 2) (index := 32) (sa_cr (pcA := 19) (se_aload_n dX2_join_18 rfl rfl) (sa_ci (pcA := 21) (se_iload dX2_join_19 rfl) sa_nil)) T_X2_lowestOf (s_Rcv_of 2 _ _) rfl gX2_join_X2_lowestOf rfl (by decide +kernel) (Nat.le_of_ble_eq_true rfl) (Nat.le_of_ble_eq_true rfl) (s_LenR (s_LenI s_Len0)) (Nat.le_of_ble_eq_true rfl) dX2_join_21 rfl) (se_iload_n dX2_join_24 rfl rfl) dX2_join_25 rfl rfl) (sc_Feq (pcA := 34) (pcB := 35) (se_callVI (pcA := 31) (ci := 2) (index := 32) (sa_cr (pcA := 29) (se_aload_n dX2_join_28 rfl rfl) (sa_ci (pcA := 31) (se_iload dX2_join_29 rfl) sa_nil)) T_X2_lowestOf (s_Rcv_of 2 _ _) rfl gX2_join_X2_lowestOf rfl (by decide +kernel) (Nat.le_of_ble_eq_true rfl) (Nat.le_of_ble_eq_true rfl) (s_LenR (s_LenI s_Len0)) (Nat.le_of_ble_eq_true rfl) dX2_join_31 rfl) (se_iload_n dX2_join_34 rfl rfl) dX2_join_35 rfl rfl))
    (ss_callVS (pcA := 45) (index := 22) (sa_cr (pcA := 42) (se_getR (pcA := 39) (T := TX2) (k := 0) (index := 9) (se_aload_n dX2_join_38 rfl rfl) rfl in_X2_join_X2 (Nat.le_of_ble_eq_true rfl) lk_X2_join_9 rfl dX2_join_39 rfl) (sa_ci (pcA := 44) (se_iload dX2_join_42 rfl) (sa_ci (pcA := 45) (se_iload_n dX2_join_44 rfl rfl) sa_nil))) T_X5_put gX2_join_X5_put rfl (by decide +kernel) (Nat.le_of_ble_eq_true rfl) (Nat.le_of_ble_eq_true rfl) (s_LenR (s_LenI (s_LenI s_Len0))) dX2_join_45 rfl) ss_skip)
    (ss_goto (pcG := 51) (ss_inc dX2_join_48 (Nat.le_of_ble_eq_true rfl) (by decide +kernel) rfl) dX2_join_51 rfl))))))
    (ss_ret0 dX2_join_54 rfl))
theorem T_X2_join : sMet vwCl RX6 yX2_join wsX2_join 2 42 M_X2_join := sMet_of rfl (by decide +kernel) rfl rfl (fun h => by cases h) (m_ofV_run _ _ _) S_X2_join (m_ofV_cat _ _ _ (Nat.le_of_ble_eq_true rfl))
theorem in_X2_find_X6 : ∀ w ∈ u_ws RX6 TX6 6, w ∈ wsX2_find := by decide +kernel
theorem ln_X2_find_15 : Cond.fieldLinkNest RX2 15 RX6 "size" "I" "StairKin" ∈ s_nest := by decide +kernel
theorem in_X2_find_X2 : ∀ w ∈ u_ws RX2 TX2 2, w ∈ wsX2_find := by decide +kernel
theorem lk_X2_find_21 : Cond.fieldLink RX2 21 RX2 "size" "I" ∈ wsX2_find := by decide +kernel
theorem lk_X2_find_9 : Cond.fieldLink RX2 9 RX2 "lowest" "[I" ∈ wsX2_find := by decide +kernel
abbrev C_X2_find_1 : sCd := (c_cmp i_lt (e_i 2) (e_get 2 1 (e_r 0)))
abbrev W_X2_find_1 : sStm :=
  (s_seq (s_callV M_X5_put (a_cr (e_getR 2 0 (e_r 0)) (a_ci (e_i 2) (a_ci (e_i 2) a_nil))))
    (s_inc 2 (nI 1)))
abbrev C_X2_find_2 : sCd := (c_cmp i_lt (e_i 3) (e_i 2))
abbrev W_X2_find_2 : sStm :=
  (s_seq (s_if (c_cmp0 i_ne (e_callI M_X6_isKin (a_cr (e_r 1) (a_ci (e_i 3) (a_ci (e_i 2) a_nil)))))
    (s_callV M_X2_join (a_cr (e_r 0) (a_ci (e_callI M_X2_lowestOf (a_cr (e_r 0) (a_ci (e_i 3) a_nil))) (a_ci (e_callI M_X2_lowestOf (a_cr (e_r 0) (a_ci (e_i 2) a_nil))) a_nil)))) s_skip)
    (s_inc 3 (nI 1)))
abbrev C_X2_find_3 : sCd := (c_cmp i_lt (e_i 2) (e_get 2 1 (e_r 0)))
abbrev W_X2_find_3 : sStm :=
  (s_seq (s_blk 3 (s_seq (s_decI 3 (e_k (nI 0)))
    (s_while C_X2_find_2 W_X2_find_2)))
    (s_inc 2 (nI 1)))
def B_X2_find : sStm :=
  (s_seq (s_seq (s_putI 2 1 (e_r 0) (e_get 5 2 (e_r 1)))
    (s_seq (s_blk 2 (s_seq (s_decI 2 (e_k (nI 0)))
    (s_while C_X2_find_1 W_X2_find_1)))
    (s_blk 2 (s_seq (s_decI 2 (e_k (nI 1)))
    (s_while C_X2_find_3 W_X2_find_3)))))
    s_ret0)
def M_X2_find : sSem := m_ofV 2 2 B_X2_find
set_option maxRecDepth 100000 in
set_option maxHeartbeats 4000000 in
theorem S_X2_find : sSS (cX2_find, wsX2_find, RX2, none, 3, 66, 4, vwCl, RX6, false) 0 0 B_X2_find :=
  (ss_seq (pcA := 85) (ss_seq (pcA := 8) (ss_putI (pcA := 1) (pcB := 5) (T := TX2) (index := 21) (se_aload_n dX2_find_0 rfl rfl) (se_getN (pcA := 2) (T := TX6) (k := 2) (index := 15) (se_aload_n dX2_find_1 rfl rfl) rfl in_X2_find_X6 (Nat.le_of_ble_eq_true rfl) ln_X2_find_15 rfl dX2_find_2 rfl) rfl in_X2_find_X2 tyX2 tyX2_ok nmX2 (Nat.le_of_ble_eq_true rfl) lk_X2_find_21 rfl rfl rfl dX2_find_5 rfl)
    (ss_seq (pcA := 33) (ss_blk (ss_seq (pcA := 10) (ss_decI_n (pcA := 9) (se_iconst dX2_find_8 (by decide +kernel) rfl) dX2_find_9 rfl (Nat.le_of_ble_eq_true rfl) rfl)
    (ss_while (pcB := 18) (sc_Flt (pcA := 11) (pcB := 15) (se_iload_n dX2_find_10 rfl rfl) (se_get (pcA := 12) (T := TX2) (k := 1) (index := 21) (se_aload_n dX2_find_11 rfl rfl) rfl in_X2_find_X2 (Nat.le_of_ble_eq_true rfl) lk_X2_find_21 rfl dX2_find_12 rfl) dX2_find_15 rfl rfl)
    (ss_seq (pcA := 27) (ss_callVS (pcA := 24) (index := 22) (sa_cr (pcA := 22) (se_getR (pcA := 19) (T := TX2) (k := 0) (index := 9) (se_aload_n dX2_find_18 rfl rfl) rfl in_X2_find_X2 (Nat.le_of_ble_eq_true rfl) lk_X2_find_9 rfl dX2_find_19 rfl) (sa_ci (pcA := 23) (se_iload_n dX2_find_22 rfl rfl) (sa_ci (pcA := 24) (se_iload_n dX2_find_23 rfl rfl) sa_nil))) T_X5_put gX2_find_X5_put rfl (by decide +kernel) (Nat.le_of_ble_eq_true rfl) (Nat.le_of_ble_eq_true rfl) (s_LenR (s_LenI (s_LenI s_Len0))) dX2_find_24 rfl)
    (ss_goto (pcG := 30) (ss_inc dX2_find_27 (Nat.le_of_ble_eq_true rfl) (by decide +kernel) rfl) dX2_find_30 rfl)))))
    (ss_blk (ss_seq (pcA := 35) (ss_decI_n (pcA := 34) (se_iconst dX2_find_33 (by decide +kernel) rfl) dX2_find_34 rfl (Nat.le_of_ble_eq_true rfl) rfl)
    (ss_while (pcB := 43) (sc_Flt (pcA := 36) (pcB := 40) (se_iload_n dX2_find_35 rfl rfl) (se_get (pcA := 37) (T := TX2) (k := 1) (index := 21) (se_aload_n dX2_find_36 rfl rfl) rfl in_X2_find_X2 (Nat.le_of_ble_eq_true rfl) lk_X2_find_21 rfl dX2_find_37 rfl) dX2_find_40 rfl rfl)
    (ss_seq (pcA := 79) (ss_blk (ss_seq (pcA := 45) (ss_decI_n (pcA := 44) (se_iconst dX2_find_43 (by decide +kernel) rfl) dX2_find_44 rfl (Nat.le_of_ble_eq_true rfl) rfl)
    (ss_while (pcB := 50) (sc_Flt (pcA := 46) (pcB := 47) (se_iload_n dX2_find_45 rfl rfl) (se_iload_n dX2_find_46 rfl rfl) dX2_find_47 rfl rfl)
    (ss_seq (pcA := 73) (ss_if (pcT := 59) (pcF := 73) (sc_Fne0 (pcB := 56) (se_callVI (pcA := 53) (ci := 5) (index := 28) (sa_cr (pcA := 51) (se_aload_n dX2_find_50 rfl rfl) (sa_ci (pcA := 52) (se_iload_n dX2_find_51 rfl rfl) (sa_ci (pcA := 53) (se_iload_n dX2_find_52 rfl rfl) sa_nil))) T_X6_isKin (s_Rcv_of 5 _ _) rfl gX2_find_X6_isKin rfl (by decide +kernel) (Nat.le_of_ble_eq_true rfl) (Nat.le_of_ble_eq_true rfl) (s_LenR (s_LenI (s_LenI s_Len0))) (Nat.le_of_ble_eq_true rfl) dX2_find_53 rfl) dX2_find_56 rfl rfl)
    (ss_callVV (pcA := 70) (ci := 2) (index := 36) (sa_cr (pcA := 60) (se_aload_n dX2_find_59 rfl rfl) (sa_ci (pcA := 65) (se_callVI (pcA := 62) (ci := 2) (index := 32) (sa_cr (pcA := 61) (se_aload_n dX2_find_60 rfl rfl) (sa_ci (pcA := 62) (se_iload_n dX2_find_61 rfl rfl) sa_nil)) T_X2_lowestOf (s_Rcv_of 2 _ _) rfl gX2_find_X2_lowestOf rfl (by decide +kernel) (Nat.le_of_ble_eq_true rfl) (Nat.le_of_ble_eq_true rfl) (s_LenR (s_LenI s_Len0)) (Nat.le_of_ble_eq_true rfl) dX2_find_62 rfl) (sa_ci (pcA := 70) (se_callVI (pcA := 67) (ci := 2) (index := 32) (sa_cr (pcA := 66) (se_aload_n dX2_find_65 rfl rfl) (sa_ci (pcA := 67) (se_iload_n dX2_find_66 rfl rfl) sa_nil)) T_X2_lowestOf (s_Rcv_of 2 _ _) rfl gX2_find_X2_lowestOf rfl (by decide +kernel) (Nat.le_of_ble_eq_true rfl) (Nat.le_of_ble_eq_true rfl) (s_LenR (s_LenI s_Len0)) (Nat.le_of_ble_eq_true rfl) dX2_find_67 rfl) sa_nil))) T_X2_join (s_Rcv_of 2 _ _) rfl gX2_find_X2_join rfl (by decide +kernel) (Nat.le_of_ble_eq_true rfl) (Nat.le_of_ble_eq_true rfl) (s_LenR (s_LenI (s_LenI s_Len0))) dX2_find_70 rfl) ss_skip)
    (ss_goto (pcG := 76) (ss_inc dX2_find_73 (Nat.le_of_ble_eq_true rfl) (by decide +kernel) rfl) dX2_find_76 rfl)))))
    (ss_goto (pcG := 82) (ss_inc dX2_find_79 (Nat.le_of_ble_eq_true rfl) (by decide +kernel) rfl) dX2_find_82 rfl)))))))
    (ss_ret0 dX2_find_85 rfl))
theorem T_X2_find : sMet vwCl RX6 yX2_find wsX2_find 3 66 M_X2_find := sMet_of rfl (by decide +kernel) rfl rfl (fun h => by cases h) (m_ofV_run _ _ _) S_X2_find (m_ofV_cat _ _ _ (Nat.le_of_ble_eq_true rfl))
theorem in_X2_sizeOf_X2 : ∀ w ∈ u_ws RX2 TX2 2, w ∈ wsX2_sizeOf := by decide +kernel
theorem lk_X2_sizeOf_21 : Cond.fieldLink RX2 21 RX2 "size" "I" ∈ wsX2_sizeOf := by decide +kernel
abbrev C_X2_sizeOf_1 : sCd := (c_cmp i_lt (e_i 3) (e_get 2 1 (e_r 0)))
abbrev W_X2_sizeOf_1 : sStm :=
  (s_seq (s_if (c_cmp i_eq (e_callI M_X2_lowestOf (a_cr (e_r 0) (a_ci (e_i 3) a_nil))) (e_i 1))
    (s_inc 2 (nI 1)) s_skip)
    (s_inc 3 (nI 1)))
def B_X2_sizeOf : sStm :=
  (s_seq (s_decI 2 (e_k (nI 0)))
    (s_seq (s_blk 3 (s_seq (s_decI 3 (e_k (nI 0)))
    (s_while C_X2_sizeOf_1 W_X2_sizeOf_1)))
    (s_retI (e_i 2))))
def M_X2_sizeOf : sSem := m_ofV 2 2 B_X2_sizeOf
set_option maxRecDepth 100000 in
set_option maxHeartbeats 4000000 in
theorem S_X2_sizeOf : sSS (cX2_sizeOf, wsX2_sizeOf, RX2, (some .int), 2, 42, 4, vwCl, RX6, false) 0 0 B_X2_sizeOf :=
  (ss_seq (pcA := 2) (ss_decI_n (pcA := 1) (se_iconst dX2_sizeOf_0 (by decide +kernel) rfl) dX2_sizeOf_1 rfl (Nat.le_of_ble_eq_true rfl) rfl)
    (ss_seq (pcA := 30) (ss_blk (ss_seq (pcA := 4) (ss_decI_n (pcA := 3) (se_iconst dX2_sizeOf_2 (by decide +kernel) rfl) dX2_sizeOf_3 rfl (Nat.le_of_ble_eq_true rfl) rfl)
    (ss_while (pcB := 12) (sc_Flt (pcA := 5) (pcB := 9) (se_iload_n dX2_sizeOf_4 rfl rfl) (se_get (pcA := 6) (T := TX2) (k := 1) (index := 21) (se_aload_n dX2_sizeOf_5 rfl rfl) rfl in_X2_sizeOf_X2 (Nat.le_of_ble_eq_true rfl) lk_X2_sizeOf_21 rfl dX2_sizeOf_6 rfl) dX2_sizeOf_9 rfl rfl)
    (ss_seq (pcA := 24) (ss_if (pcT := 21) (pcF := 24) (sc_Feq (pcA := 17) (pcB := 18) (se_callVI (pcA := 14) (ci := 2) (index := 32) (sa_cr (pcA := 13) (se_aload_n dX2_sizeOf_12 rfl rfl) (sa_ci (pcA := 14) (se_iload_n dX2_sizeOf_13 rfl rfl) sa_nil)) T_X2_lowestOf (s_Rcv_of 2 _ _) rfl gX2_sizeOf_X2_lowestOf rfl (by decide +kernel) (Nat.le_of_ble_eq_true rfl) (Nat.le_of_ble_eq_true rfl) (s_LenR (s_LenI s_Len0)) (Nat.le_of_ble_eq_true rfl) dX2_sizeOf_14 rfl) (se_iload_n dX2_sizeOf_17 rfl rfl) dX2_sizeOf_18 rfl rfl)
    (ss_inc dX2_sizeOf_21 (Nat.le_of_ble_eq_true rfl) (by decide +kernel) rfl) ss_skip)
    (ss_goto (pcG := 27) (ss_inc dX2_sizeOf_24 (Nat.le_of_ble_eq_true rfl) (by decide +kernel) rfl) dX2_sizeOf_27 rfl)))))
    (ss_retI (pcA := 31) (se_iload_n dX2_sizeOf_30 rfl rfl) dX2_sizeOf_31 rfl)))
theorem T_X2_sizeOf : sMet vwCl RX6 yX2_sizeOf wsX2_sizeOf 2 42 M_X2_sizeOf := sMet_of rfl (by decide +kernel) rfl rfl (fun h => by cases h) (m_ofV_run _ _ _) S_X2_sizeOf (m_ofV_cat _ _ _ (Nat.le_of_ble_eq_true rfl))
theorem in_X2_many_X2 : ∀ w ∈ u_ws RX2 TX2 2, w ∈ wsX2_many := by decide +kernel
theorem lk_X2_many_21 : Cond.fieldLink RX2 21 RX2 "size" "I" ∈ wsX2_many := by decide +kernel
abbrev C_X2_many_1 : sCd := (c_cmp i_lt (e_i 2) (e_get 2 1 (e_r 0)))
abbrev W_X2_many_1 : sStm :=
  (s_seq (s_if (c_cmp i_eq (e_callI M_X2_lowestOf (a_cr (e_r 0) (a_ci (e_i 2) a_nil))) (e_i 2))
    (s_inc 1 (nI 1)) s_skip)
    (s_inc 2 (nI 1)))
def B_X2_many : sStm :=
  (s_seq (s_decI 1 (e_k (nI 0)))
    (s_seq (s_blk 2 (s_seq (s_decI 2 (e_k (nI 0)))
    (s_while C_X2_many_1 W_X2_many_1)))
    (s_retI (e_i 1))))
def M_X2_many : sSem := m_ofV 2 1 B_X2_many
set_option maxRecDepth 100000 in
set_option maxHeartbeats 4000000 in
theorem S_X2_many : sSS (cX2_many, wsX2_many, RX2, (some .int), 2, 42, 3, vwCl, RX6, false) 0 0 B_X2_many :=
  (ss_seq (pcA := 2) (ss_decI_n (pcA := 1) (se_iconst dX2_many_0 (by decide +kernel) rfl) dX2_many_1 rfl (Nat.le_of_ble_eq_true rfl) rfl)
    (ss_seq (pcA := 30) (ss_blk (ss_seq (pcA := 4) (ss_decI_n (pcA := 3) (se_iconst dX2_many_2 (by decide +kernel) rfl) dX2_many_3 rfl (Nat.le_of_ble_eq_true rfl) rfl)
    (ss_while (pcB := 12) (sc_Flt (pcA := 5) (pcB := 9) (se_iload_n dX2_many_4 rfl rfl) (se_get (pcA := 6) (T := TX2) (k := 1) (index := 21) (se_aload_n dX2_many_5 rfl rfl) rfl in_X2_many_X2 (Nat.le_of_ble_eq_true rfl) lk_X2_many_21 rfl dX2_many_6 rfl) dX2_many_9 rfl rfl)
    (ss_seq (pcA := 24) (ss_if (pcT := 21) (pcF := 24) (sc_Feq (pcA := 17) (pcB := 18) (se_callVI (pcA := 14) (ci := 2) (index := 32) (sa_cr (pcA := 13) (se_aload_n dX2_many_12 rfl rfl) (sa_ci (pcA := 14) (se_iload_n dX2_many_13 rfl rfl) sa_nil)) T_X2_lowestOf (s_Rcv_of 2 _ _) rfl gX2_many_X2_lowestOf rfl (by decide +kernel) (Nat.le_of_ble_eq_true rfl) (Nat.le_of_ble_eq_true rfl) (s_LenR (s_LenI s_Len0)) (Nat.le_of_ble_eq_true rfl) dX2_many_14 rfl) (se_iload_n dX2_many_17 rfl rfl) dX2_many_18 rfl rfl)
    (ss_inc dX2_many_21 (Nat.le_of_ble_eq_true rfl) (by decide +kernel) rfl) ss_skip)
    (ss_goto (pcG := 27) (ss_inc dX2_many_24 (Nat.le_of_ble_eq_true rfl) (by decide +kernel) rfl) dX2_many_27 rfl)))))
    (ss_retI (pcA := 31) (se_iload_n dX2_many_30 rfl rfl) dX2_many_31 rfl)))
theorem T_X2_many : sMet vwCl RX6 yX2_many wsX2_many 2 42 M_X2_many := sMet_of rfl (by decide +kernel) rfl rfl (fun h => by cases h) (m_ofV_run _ _ _) S_X2_many (m_ofV_cat _ _ _ (Nat.le_of_ble_eq_true rfl))
theorem in_X2_greatest_X2 : ∀ w ∈ u_ws RX2 TX2 2, w ∈ wsX2_greatest := by decide +kernel
theorem lk_X2_greatest_21 : Cond.fieldLink RX2 21 RX2 "size" "I" ∈ wsX2_greatest := by decide +kernel
theorem mm_X2_greatest_47 : Cond.methodLink RX2 47 Lib.Math.max.name ∈ wsX2_greatest := by decide +kernel
theorem ms_X2_greatest_max : Cond.static Lib.Math.max.name ∈ wsX2_greatest := by decide +kernel
theorem mi_X2_greatest_Math : Cond.initialized "java/lang/Math" ∈ wsX2_greatest := by decide +kernel
theorem mk_X2_greatest_max : Cond.code Lib.Math.max.name Lib.Math.max.code 2 (some .int) ∈ wsX2_greatest := by decide +kernel
abbrev C_X2_greatest_1 : sCd := (c_cmp i_lt (e_i 2) (e_get 2 1 (e_r 0)))
abbrev W_X2_greatest_1 : sStm :=
  (s_seq (s_setI 1 (e_max (e_i 1) (e_callI M_X2_sizeOf (a_cr (e_r 0) (a_ci (e_i 2) a_nil)))))
    (s_inc 2 (nI 1)))
def B_X2_greatest : sStm :=
  (s_seq (s_decI 1 (e_k (nI 0)))
    (s_seq (s_blk 2 (s_seq (s_decI 2 (e_k (nI 0)))
    (s_while C_X2_greatest_1 W_X2_greatest_1)))
    (s_retI (e_i 1))))
def M_X2_greatest : sSem := m_ofV 2 1 B_X2_greatest
set_option maxRecDepth 100000 in
set_option maxHeartbeats 4000000 in
theorem S_X2_greatest : sSS (cX2_greatest, wsX2_greatest, RX2, (some .int), 3, 65, 3, vwCl, RX6, false) 0 0 B_X2_greatest :=
  (ss_seq (pcA := 2) (ss_decI_n (pcA := 1) (se_iconst dX2_greatest_0 (by decide +kernel) rfl) dX2_greatest_1 rfl (Nat.le_of_ble_eq_true rfl) rfl)
    (ss_seq (pcA := 28) (ss_blk (ss_seq (pcA := 4) (ss_decI_n (pcA := 3) (se_iconst dX2_greatest_2 (by decide +kernel) rfl) dX2_greatest_3 rfl (Nat.le_of_ble_eq_true rfl) rfl)
    (ss_while (pcB := 12) (sc_Flt (pcA := 5) (pcB := 9) (se_iload_n dX2_greatest_4 rfl rfl) (se_get (pcA := 6) (T := TX2) (k := 1) (index := 21) (se_aload_n dX2_greatest_5 rfl rfl) rfl in_X2_greatest_X2 (Nat.le_of_ble_eq_true rfl) lk_X2_greatest_21 rfl dX2_greatest_6 rfl) dX2_greatest_9 rfl rfl)
    (ss_seq (pcA := 22) (ss_setI_n (pcA := 21) (se_max (pcA := 13) (pcB := 18) (index := 47) (se_iload_n dX2_greatest_12 rfl rfl) (se_callVI (pcA := 15) (ci := 2) (index := 44) (sa_cr (pcA := 14) (se_aload_n dX2_greatest_13 rfl rfl) (sa_ci (pcA := 15) (se_iload_n dX2_greatest_14 rfl rfl) sa_nil)) T_X2_sizeOf (s_Rcv_of 2 _ _) rfl gX2_greatest_X2_sizeOf rfl (by decide +kernel) (Nat.le_of_ble_eq_true rfl) (Nat.le_of_ble_eq_true rfl) (s_LenR (s_LenI s_Len0)) (Nat.le_of_ble_eq_true rfl) dX2_greatest_15 rfl) mm_X2_greatest_47 ms_X2_greatest_max mi_X2_greatest_Math mk_X2_greatest_max (Nat.le_of_ble_eq_true rfl) (Nat.le_of_ble_eq_true rfl) (Nat.le_of_ble_eq_true rfl) dX2_greatest_18 rfl) dX2_greatest_21 rfl (Nat.le_of_ble_eq_true rfl) rfl)
    (ss_goto (pcG := 25) (ss_inc dX2_greatest_22 (Nat.le_of_ble_eq_true rfl) (by decide +kernel) rfl) dX2_greatest_25 rfl)))))
    (ss_retI (pcA := 29) (se_iload_n dX2_greatest_28 rfl rfl) dX2_greatest_29 rfl)))
theorem T_X2_greatest : sMet vwCl RX6 yX2_greatest wsX2_greatest 3 65 M_X2_greatest := sMet_of rfl (by decide +kernel) rfl rfl (fun h => by cases h) (m_ofV_run _ _ _) S_X2_greatest (m_ofV_cat _ _ _ (Nat.le_of_ble_eq_true rfl))
theorem ml_X1_init_3 : Cond.methodLink RX1 3 objectInit ∈ wsX1_init := by decide +kernel
theorem mo_X1_init : Cond.instanceMethod objectInit ∈ wsX1_init := by decide +kernel
theorem mc_X1_init : Cond.code objectInit ⟨#[0xb1]⟩ 1 none ∈ wsX1_init := by decide +kernel
theorem na_X1_init : Cond.arrayClass .int ∈ wsX1_init := by decide +kernel
theorem in_X1_init_X1 : ∀ w ∈ u_ws RX1 TX1 8, w ∈ wsX1_init := by decide +kernel
theorem lk_X1_init_9 : Cond.fieldLink RX1 9 RX1 "path" "[I" ∈ wsX1_init := by decide +kernel
theorem lk_X1_init_15 : Cond.fieldLink RX1 15 RX1 "worth" "[I" ∈ wsX1_init := by decide +kernel
theorem lk_X1_init_18 : Cond.fieldLink RX1 18 RX1 "next" "[I" ∈ wsX1_init := by decide +kernel
theorem lk_X1_init_21 : Cond.fieldLink RX1 21 RX1 "end" "[I" ∈ wsX1_init := by decide +kernel
def B_X1_init : sStm :=
  (s_seq (s_seq (s_super (e_r 0))
    (s_seq (s_putR 1 0 (e_r 0) (e_newa (e_k (nI 12))))
    (s_seq (s_putR 1 5 (e_r 0) (e_newa (e_k (nI 12))))
    (s_seq (s_putR 1 6 (e_r 0) (e_newa (e_k (nI 12))))
    (s_putR 1 7 (e_r 0) (e_newa (e_k (nI 12))))))))
    s_ret0)
def M_X1_init : sSem := m_of 1 B_X1_init
set_option maxRecDepth 100000 in
set_option maxHeartbeats 4000000 in
theorem S_X1_init : sSS (cX1_init, wsX1_init, RX1, none, 1, 20, 1, vwCl, RX6, true) 0 0 B_X1_init :=
  (ss_seq (pcA := 36) (ss_seq (pcA := 4) (ss_objInit (pcA := 1) (se_aload_n dX1_init_0 rfl rfl) ml_X1_init_3 mo_X1_init mc_X1_init dX1_init_1 ⟨(Nat.le_of_ble_eq_true rfl), (Nat.le_of_ble_eq_true rfl)⟩ rfl)
    (ss_seq (pcA := 12) (ss_putRF (pcA := 5) (pcB := 9) (T := TX1) (index := 9) (se_aload_n dX1_init_4 rfl rfl) (se_newa (pcA := 7) (se_bipush dX1_init_5 (by decide +kernel) rfl) na_X1_init dX1_init_7 rfl) rfl in_X1_init_X1 tyX1 tyX1_ok nmX1 (Nat.le_of_ble_eq_true rfl) lk_X1_init_9 rfl rfl rfl rfl (Or.inr ⟨_, rfl⟩) dX1_init_9 rfl)
    (ss_seq (pcA := 20) (ss_putRF (pcA := 13) (pcB := 17) (T := TX1) (index := 15) (se_aload_n dX1_init_12 rfl rfl) (se_newa (pcA := 15) (se_bipush dX1_init_13 (by decide +kernel) rfl) na_X1_init dX1_init_15 rfl) rfl in_X1_init_X1 tyX1 tyX1_ok nmX1 (Nat.le_of_ble_eq_true rfl) lk_X1_init_15 rfl rfl rfl rfl (Or.inr ⟨_, rfl⟩) dX1_init_17 rfl)
    (ss_seq (pcA := 28) (ss_putRF (pcA := 21) (pcB := 25) (T := TX1) (index := 18) (se_aload_n dX1_init_20 rfl rfl) (se_newa (pcA := 23) (se_bipush dX1_init_21 (by decide +kernel) rfl) na_X1_init dX1_init_23 rfl) rfl in_X1_init_X1 tyX1 tyX1_ok nmX1 (Nat.le_of_ble_eq_true rfl) lk_X1_init_18 rfl rfl rfl rfl (Or.inr ⟨_, rfl⟩) dX1_init_25 rfl)
    (ss_putRF (pcA := 29) (pcB := 33) (T := TX1) (index := 21) (se_aload_n dX1_init_28 rfl rfl) (se_newa (pcA := 31) (se_bipush dX1_init_29 (by decide +kernel) rfl) na_X1_init dX1_init_31 rfl) rfl in_X1_init_X1 tyX1 tyX1_ok nmX1 (Nat.le_of_ble_eq_true rfl) lk_X1_init_21 rfl rfl rfl rfl (Or.inr ⟨_, rfl⟩) dX1_init_33 rfl)))))
    (ss_ret0 dX1_init_36 rfl))
theorem T_X1_init : sMet vwCl RX6 yX1_init wsX1_init 1 20 M_X1_init := sMet_of rfl (by decide +kernel) rfl rfl (fun _ => rfl) (m_of_run _ _) S_X1_init (m_of_cat _ _ (Nat.le_of_ble_eq_true rfl))
theorem ml_X4_init_3 : Cond.methodLink RX4 3 objectInit ∈ wsX4_init := by decide +kernel
theorem mo_X4_init : Cond.instanceMethod objectInit ∈ wsX4_init := by decide +kernel
theorem mc_X4_init : Cond.code objectInit ⟨#[0xb1]⟩ 1 none ∈ wsX4_init := by decide +kernel
theorem na_X4_init : Cond.arrayClass .int ∈ wsX4_init := by decide +kernel
theorem in_X4_init_X4 : ∀ w ∈ u_ws RX4 TX4 9, w ∈ wsX4_init := by decide +kernel
theorem lk_X4_init_9 : Cond.fieldLink RX4 9 RX4 "codes" "[I" ∈ wsX4_init := by decide +kernel
def B_X4_init : sStm :=
  (s_seq (s_seq (s_super (e_r 0))
    (s_putR 4 0 (e_r 0) (e_newa (e_k (nI 60)))))
    s_ret0)
def M_X4_init : sSem := m_of 1 B_X4_init
set_option maxRecDepth 100000 in
set_option maxHeartbeats 4000000 in
theorem S_X4_init : sSS (cX4_init, wsX4_init, RX4, none, 1, 20, 1, vwCl, RX6, true) 0 0 B_X4_init :=
  (ss_seq (pcA := 12) (ss_seq (pcA := 4) (ss_objInit (pcA := 1) (se_aload_n dX4_init_0 rfl rfl) ml_X4_init_3 mo_X4_init mc_X4_init dX4_init_1 ⟨(Nat.le_of_ble_eq_true rfl), (Nat.le_of_ble_eq_true rfl)⟩ rfl)
    (ss_putRF (pcA := 5) (pcB := 9) (T := TX4) (index := 9) (se_aload_n dX4_init_4 rfl rfl) (se_newa (pcA := 7) (se_bipush dX4_init_5 (by decide +kernel) rfl) na_X4_init dX4_init_7 rfl) rfl in_X4_init_X4 tyX4 tyX4_ok nmX4 (Nat.le_of_ble_eq_true rfl) lk_X4_init_9 rfl rfl rfl rfl (Or.inr ⟨_, rfl⟩) dX4_init_9 rfl))
    (ss_ret0 dX4_init_12 rfl))
theorem T_X4_init : sMet vwCl RX6 yX4_init wsX4_init 1 20 M_X4_init := sMet_of rfl (by decide +kernel) rfl rfl (fun _ => rfl) (m_of_run _ _) S_X4_init (m_of_cat _ _ (Nat.le_of_ble_eq_true rfl))
theorem ml_X3_init_3 : Cond.methodLink RX3 3 objectInit ∈ wsX3_init := by decide +kernel
theorem mo_X3_init : Cond.instanceMethod objectInit ∈ wsX3_init := by decide +kernel
theorem mc_X3_init : Cond.code objectInit ⟨#[0xb1]⟩ 1 none ∈ wsX3_init := by decide +kernel
theorem cl_X3_init_9 : Cond.classLink RX3 9 RX6 ∈ wsX3_init := by decide +kernel
theorem ov_X3_init : Cond.arrayOver (.object RX6) ∈ s_nest := by decide +kernel
theorem in_X3_init_X3 : ∀ w ∈ u_ws RX3 TX3 3, w ∈ wsX3_init := by decide +kernel
theorem lk_X3_init_11 : Cond.fieldLink RX3 11 RX3 "states" "[LStairKin$Stairs;" ∈ wsX3_init := by decide +kernel
theorem in_X3_init_X6 : ∀ w ∈ u_ws RX6 TX6 6, w ∈ wsX3_init := by decide +kernel
theorem it_X3_init_X6 : Cond.instantiable RX6 6 ∈ wsX3_init := by decide +kernel
theorem ii_X3_init_X6 : Cond.initialized RX6 ∈ wsX3_init := by decide +kernel
theorem ml_X3_init_17 : Cond.methodLink RX3 17 yX6_init ∈ wsX3_init := by decide +kernel
theorem mi_X3_init_X6_init : Cond.instanceMethod yX6_init ∈ wsX3_init := by decide +kernel
abbrev C_X3_init_1 : sCd := (c_cmp i_lt (e_i 1) (e_lenR (e_getR 3 0 (e_r 0))))
abbrev W_X3_init_1 : sStm :=
  (s_seq (s_astR 5 (e_getR 3 0 (e_r 0)) (e_i 1) (e_new 5 [.null, .null, .int 0, .int 0, .int 0, .int 0] M_X6_init a_nil))
    (s_inc 1 (nI 1)))
def B_X3_init : sStm :=
  (s_seq (s_seq (s_super (e_r 0))
    (s_seq (s_putR 3 0 (e_r 0) (e_newq (e_k (nI 5))))
    (s_blk 1 (s_seq (s_decI 1 (e_k (nI 0)))
    (s_while C_X3_init_1 W_X3_init_1)))))
    s_ret0)
def M_X3_init : sSem := m_of 1 B_X3_init
set_option maxRecDepth 100000 in
set_option maxHeartbeats 4000000 in
theorem S_X3_init : sSS (cX3_init, wsX3_init, RX3, none, 3, 60, 2, vwCl, RX6, true) 0 0 B_X3_init :=
  (ss_seq (pcA := 42) (ss_seq (pcA := 4) (ss_objInit (pcA := 1) (se_aload_n dX3_init_0 rfl rfl) ml_X3_init_3 mo_X3_init mc_X3_init dX3_init_1 ⟨(Nat.le_of_ble_eq_true rfl), (Nat.le_of_ble_eq_true rfl)⟩ rfl)
    (ss_seq (pcA := 12) (ss_putRF (pcA := 5) (pcB := 9) (T := TX3) (index := 11) (se_aload_n dX3_init_4 rfl rfl) (se_newq (pcA := 6) (se_iconst dX3_init_5 (by decide +kernel) rfl) cl_X3_init_9 ov_X3_init rfl dX3_init_6 rfl) rfl in_X3_init_X3 tyX3 tyX3_ok nmX3 (Nat.le_of_ble_eq_true rfl) lk_X3_init_11 rfl rfl rfl rfl (Or.inr ⟨_, rfl⟩) dX3_init_9 rfl)
    (ss_blk (ss_seq (pcA := 14) (ss_decI_n (pcA := 13) (se_iconst dX3_init_12 (by decide +kernel) rfl) dX3_init_13 rfl (Nat.le_of_ble_eq_true rfl) rfl)
    (ss_while (pcB := 23) (sc_Flt (pcA := 15) (pcB := 20) (se_iload_n dX3_init_14 rfl rfl) (se_lenR (pcA := 19) (se_getR (pcA := 16) (T := TX3) (k := 0) (index := 11) (se_aload_n dX3_init_15 rfl rfl) rfl in_X3_init_X3 (Nat.le_of_ble_eq_true rfl) lk_X3_init_11 rfl dX3_init_16 rfl) dX3_init_19 rfl) dX3_init_20 rfl rfl)
    (ss_seq (pcA := 36) (ss_astR (pcA := 27) (pcI := 28) (pcB := 35) (ci := 5) rfl (se_getR (pcA := 24) (T := TX3) (k := 0) (index := 11) (se_aload_n dX3_init_23 rfl rfl) rfl in_X3_init_X3 (Nat.le_of_ble_eq_true rfl) lk_X3_init_11 rfl dX3_init_24 rfl) (se_iload_n dX3_init_27 rfl rfl) (se_new (pcD := 31) (pcB := 32) (pcA := 32) (ci := 5) (idn := 9) (index := 17) rfl in_X3_init_X6 tyX6 tyX6_ok cl_X3_init_9 it_X3_init_X6 ii_X3_init_X6 (fun j hj b => by rcases (show j = 0 ∨ j = 1 ∨ j = 2 ∨ j = 3 ∨ j = 4 ∨ j = 5 by omega) with rfl | rfl | rfl | rfl | rfl | rfl <;> rfl) rfl dX3_init_28 rfl dX3_init_31 rfl sa_nil T_X6_init gX3_init_X6_init rfl rfl ii_X3_init_X6 ml_X3_init_17 mi_X3_init_X6_init (by decide +kernel) (Nat.le_of_ble_eq_true rfl) (Nat.le_of_ble_eq_true rfl) s_Len0 (Nat.le_of_ble_eq_true rfl) dX3_init_32 rfl) dX3_init_35 rfl)
    (ss_goto (pcG := 39) (ss_inc dX3_init_36 (Nat.le_of_ble_eq_true rfl) (by decide +kernel) rfl) dX3_init_39 rfl)))))))
    (ss_ret0 dX3_init_42 rfl))
theorem T_X3_init : sMet vwCl RX6 yX3_init wsX3_init 3 60 M_X3_init := sMet_of rfl (by decide +kernel) rfl rfl (fun _ => rfl) (m_of_run _ _) S_X3_init (m_of_cat _ _ (Nat.le_of_ble_eq_true rfl))
theorem in_X3_stateAt_X3 : ∀ w ∈ u_ws RX3 TX3 3, w ∈ wsX3_stateAt := by decide +kernel
theorem lk_X3_stateAt_30 : Cond.fieldLink RX3 30 RX3 "first" "I" ∈ wsX3_stateAt := by decide +kernel
theorem lk_X3_stateAt_11 : Cond.fieldLink RX3 11 RX3 "states" "[LStairKin$Stairs;" ∈ wsX3_stateAt := by decide +kernel
def B_X3_stateAt : sStm :=
  (s_seq (s_decI 2 (e_rem (e_add (e_get 3 1 (e_r 0)) (e_i 1)) (e_k (nI 5))))
    (s_retR (e_if (c_and (c_cmp0 i_ge (e_i 2)) (c_cmp i_lt (e_i 2) (e_lenR (e_getR 3 0 (e_r 0))))) (e_aldR (e_getR 3 0 (e_r 0)) (e_i 2)) e_nil)))
def M_X3_stateAt : sSem := m_ofV 3 2 B_X3_stateAt
set_option maxRecDepth 100000 in
set_option maxHeartbeats 4000000 in
theorem S_X3_stateAt : sSS (cX3_stateAt, wsX3_stateAt, RX3, (some (.object "StairKin$Stairs")), 0, 0, 3, vwCl, RX6, false) 0 0 B_X3_stateAt :=
  (ss_seq (pcA := 9) (ss_decI_n (pcA := 8) (se_rem (pcA := 6) (pcB := 7) (se_add (pcA := 4) (pcB := 5) (se_get (pcA := 1) (T := TX3) (k := 1) (index := 30) (se_aload_n dX3_stateAt_0 rfl rfl) rfl in_X3_stateAt_X3 (Nat.le_of_ble_eq_true rfl) lk_X3_stateAt_30 rfl dX3_stateAt_1 rfl) (se_iload_n dX3_stateAt_4 rfl rfl) dX3_stateAt_5 rfl) (se_iconst dX3_stateAt_6 (by decide +kernel) rfl) dX3_stateAt_7 rfl) dX3_stateAt_8 rfl (Nat.le_of_ble_eq_true rfl) rfl)
    (ss_retR (pcA := 32) (se_if (pcT := 22) (pcF := 31) (pcG := 28) (sc_and (pcA := 13) (sc_Fge0 (pcB := 10) (se_iload_n dX3_stateAt_9 rfl rfl) dX3_stateAt_10 rfl rfl) (sc_Flt (pcA := 14) (pcB := 19) (se_iload_n dX3_stateAt_13 rfl rfl) (se_lenR (pcA := 18) (se_getR (pcA := 15) (T := TX3) (k := 0) (index := 11) (se_aload_n dX3_stateAt_14 rfl rfl) rfl in_X3_stateAt_X3 (Nat.le_of_ble_eq_true rfl) lk_X3_stateAt_11 rfl dX3_stateAt_15 rfl) dX3_stateAt_18 rfl) dX3_stateAt_19 rfl rfl)) (se_aldR (pcA := 26) (pcB := 27) (se_getR (pcA := 23) (T := TX3) (k := 0) (index := 11) (se_aload_n dX3_stateAt_22 rfl rfl) rfl in_X3_stateAt_X3 (Nat.le_of_ble_eq_true rfl) lk_X3_stateAt_11 rfl dX3_stateAt_23 rfl) (se_iload_n dX3_stateAt_26 rfl rfl) dX3_stateAt_27 rfl) dX3_stateAt_28 rfl (se_null dX3_stateAt_31 rfl)) dX3_stateAt_32 rfl (Or.inl ⟨_, rfl⟩)))
theorem T_X3_stateAt : sMet vwCl RX6 yX3_stateAt wsX3_stateAt 0 0 M_X3_stateAt := sMet_of rfl (by decide +kernel) rfl rfl (fun h => by cases h) (m_ofV_run _ _ _) S_X3_stateAt (m_ofV_cat _ _ _ (Nat.le_of_ble_eq_true rfl))
theorem in_X3_prepare_X3 : ∀ w ∈ u_ws RX3 TX3 3, w ∈ wsX3_prepare := by decide +kernel
theorem lk_X3_prepare_18 : Cond.fieldLink RX3 18 RX3 "held" "I" ∈ wsX3_prepare := by decide +kernel
def B_X3_prepare : sStm :=
  (s_seq (s_seq (s_decR 2 (e_callR M_X3_stateAt (a_cr (e_r 0) (a_ci (e_get 3 2 (e_r 0)) a_nil))))
    (s_if (c_nn (e_r 2))
    (s_callV M_X6_copyFrom (a_cr (e_r 2) (a_cr (e_r 1) a_nil))) s_skip))
    s_ret0)
def M_X3_prepare : sSem := m_ofV 3 2 B_X3_prepare
set_option maxRecDepth 100000 in
set_option maxHeartbeats 4000000 in
theorem S_X3_prepare : sSS (cX3_prepare, wsX3_prepare, RX3, none, 4, 88, 3, vwCl, RX6, false) 0 0 B_X3_prepare :=
  (ss_seq (pcA := 18) (ss_seq (pcA := 9) (ss_decR_n (pcA := 8) (se_callVR (pcA := 5) (ci := 3) (index := 22) (sa_cr (pcA := 1) (se_aload_n dX3_prepare_0 rfl rfl) (sa_ci (pcA := 5) (se_get (pcA := 2) (T := TX3) (k := 2) (index := 18) (se_aload_n dX3_prepare_1 rfl rfl) rfl in_X3_prepare_X3 (Nat.le_of_ble_eq_true rfl) lk_X3_prepare_18 rfl dX3_prepare_2 rfl) sa_nil)) T_X3_stateAt (s_Rcv_of 3 _ _) rfl gX3_prepare_X3_stateAt rfl (by decide +kernel) (Nat.le_of_ble_eq_true rfl) (Nat.le_of_ble_eq_true rfl) (s_LenR (s_LenI s_Len0)) (Nat.le_of_ble_eq_true rfl) dX3_prepare_5 rfl) dX3_prepare_8 rfl (Nat.le_of_ble_eq_true rfl) rfl)
    (ss_if (pcT := 13) (pcF := 18) (sc_Fnn (pcB := 10) (se_aload_n dX3_prepare_9 rfl rfl) dX3_prepare_10 rfl rfl)
    (ss_callVV (pcA := 15) (ci := 5) (index := 26) (sa_cr (pcA := 14) (se_aload_n dX3_prepare_13 rfl rfl) (sa_cr (pcA := 15) (se_aload_n dX3_prepare_14 rfl rfl) sa_nil)) T_X6_copyFrom (s_Rcv_of 5 _ _) rfl gX3_prepare_X6_copyFrom rfl (by decide +kernel) (Nat.le_of_ble_eq_true rfl) (Nat.le_of_ble_eq_true rfl) (s_LenR (s_LenR s_Len0)) dX3_prepare_15 rfl) ss_skip))
    (ss_ret0 dX3_prepare_18 rfl))
theorem T_X3_prepare : sMet vwCl RX6 yX3_prepare wsX3_prepare 4 88 M_X3_prepare := sMet_of rfl (by decide +kernel) rfl rfl (fun h => by cases h) (m_ofV_run _ _ _) S_X3_prepare (m_ofV_cat _ _ _ (Nat.le_of_ble_eq_true rfl))
theorem in_X3_keep_X3 : ∀ w ∈ u_ws RX3 TX3 3, w ∈ wsX3_keep := by decide +kernel
theorem lk_X3_keep_18 : Cond.fieldLink RX3 18 RX3 "held" "I" ∈ wsX3_keep := by decide +kernel
theorem lk_X3_keep_30 : Cond.fieldLink RX3 30 RX3 "first" "I" ∈ wsX3_keep := by decide +kernel
def B_X3_keep : sStm :=
  (s_seq (s_if (c_cmp0 i_ge (e_i 1))
    (s_seq (s_putop 3 2 (e_r 0) (fun x z => x + z) (e_k (nI 1)))
    (s_if (c_cmp i_gt (e_get 3 2 (e_r 0)) (e_k (nI 4)))
    (s_seq (s_putI 3 2 (e_r 0) (e_k (nI 4)))
    (s_putI 3 1 (e_r 0) (e_rem (e_add (e_get 3 1 (e_r 0)) (e_k (nI 1))) (e_k (nI 5))))) s_skip)) s_skip)
    (s_retI (e_i 1)))
def M_X3_keep : sSem := m_ofV 3 2 B_X3_keep
set_option maxRecDepth 100000 in
set_option maxHeartbeats 4000000 in
theorem S_X3_keep : sSS (cX3_keep, wsX3_keep, RX3, (some .int), 0, 0, 2, vwCl, RX6, false) 0 0 B_X3_keep :=
  (ss_seq (pcA := 39) (ss_if (pcT := 4) (pcF := 39) (sc_Fge0 (pcB := 1) (se_iload_n dX3_keep_0 rfl rfl) dX3_keep_1 rfl rfl)
    (ss_seq (pcA := 14) (ss_putop (pcA := 5) (pcD := 6) (pcG := 9) (pcB := 10) (pcO := 11) (T := TX3) (index := 18) (se_aload_n dX3_keep_4 rfl rfl) dX3_keep_5 rfl rfl in_X3_keep_X3 tyX3 tyX3_ok nmX3 (Nat.le_of_ble_eq_true rfl) lk_X3_keep_18 rfl dX3_keep_6 rfl (se_iconst dX3_keep_9 (by decide +kernel) rfl) (Or.inl ⟨dX3_keep_10, rfl⟩) rfl rfl rfl dX3_keep_11 rfl)
    (ss_if (pcT := 22) (pcF := 39) (sc_Fgt (pcA := 18) (pcB := 19) (se_get (pcA := 15) (T := TX3) (k := 2) (index := 18) (se_aload_n dX3_keep_14 rfl rfl) rfl in_X3_keep_X3 (Nat.le_of_ble_eq_true rfl) lk_X3_keep_18 rfl dX3_keep_15 rfl) (se_iconst dX3_keep_18 (by decide +kernel) rfl) dX3_keep_19 rfl rfl)
    (ss_seq (pcA := 27) (ss_putI (pcA := 23) (pcB := 24) (T := TX3) (index := 18) (se_aload_n dX3_keep_22 rfl rfl) (se_iconst dX3_keep_23 (by decide +kernel) rfl) rfl in_X3_keep_X3 tyX3 tyX3_ok nmX3 (Nat.le_of_ble_eq_true rfl) lk_X3_keep_18 rfl rfl rfl dX3_keep_24 rfl)
    (ss_putI (pcA := 28) (pcB := 36) (T := TX3) (index := 30) (se_aload_n dX3_keep_27 rfl rfl) (se_rem (pcA := 34) (pcB := 35) (se_add (pcA := 32) (pcB := 33) (se_get (pcA := 29) (T := TX3) (k := 1) (index := 30) (se_aload_n dX3_keep_28 rfl rfl) rfl in_X3_keep_X3 (Nat.le_of_ble_eq_true rfl) lk_X3_keep_30 rfl dX3_keep_29 rfl) (se_iconst dX3_keep_32 (by decide +kernel) rfl) dX3_keep_33 rfl) (se_iconst dX3_keep_34 (by decide +kernel) rfl) dX3_keep_35 rfl) rfl in_X3_keep_X3 tyX3 tyX3_ok nmX3 (Nat.le_of_ble_eq_true rfl) lk_X3_keep_30 rfl rfl rfl dX3_keep_36 rfl)) ss_skip)) ss_skip)
    (ss_retI (pcA := 40) (se_iload_n dX3_keep_39 rfl rfl) dX3_keep_40 rfl))
theorem T_X3_keep : sMet vwCl RX6 yX3_keep wsX3_keep 0 0 M_X3_keep := sMet_of rfl (by decide +kernel) rfl rfl (fun h => by cases h) (m_ofV_run _ _ _) S_X3_keep (m_ofV_cat _ _ _ (Nat.le_of_ble_eq_true rfl))
