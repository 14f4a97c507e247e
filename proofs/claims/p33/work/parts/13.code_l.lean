/-! printed by wip/p33/j2p.py out of the Java texts and the listing -/
abbrev C_L_isPrime_1 : sCd := (c_cmp i_le (e_mul (e_i 1) (e_i 1)) (e_i 0))
abbrev W_L_isPrime_1 : sStm :=
  (s_seq (s_if (c_cmp0 i_eq (e_rem (e_i 0) (e_i 1)))
    (s_retZ (e_k (nI 0))) s_skip)
    (s_inc 1 (nI 1)))
def B_L_isPrime : sStm :=
  (s_seq (s_blk 1 (s_seq (s_decI 1 (e_k (nI 2)))
    (s_while C_L_isPrime_1 W_L_isPrime_1)))
    (s_retZ (e_if (c_cmp i_gt (e_i 0) (e_k (nI 1))) (e_k (nI 1)) (e_k (nI 0)))))
def M_L_isPrime : sSem := m_of 1 B_L_isPrime
set_option maxRecDepth 100000 in
set_option maxHeartbeats 4000000 in
theorem S_L_isPrime : sSS (cL_isPrime, wsL_isPrime, RL, (some .boolean), 0, 0, 2, vwCl, RX6, false) 0 0 B_L_isPrime :=
  (ss_seq (pcA := 23) (ss_blk (ss_seq (pcA := 2) (ss_decI_n (pcA := 1) (se_iconst dL_isPrime_0 (by decide +kernel) rfl) dL_isPrime_1 rfl (Nat.le_of_ble_eq_true rfl) rfl)
    (ss_while (pcB := 9) (sc_Fle (pcA := 5) (pcB := 6) (se_mul (pcA := 3) (pcB := 4) (se_iload_n dL_isPrime_2 rfl rfl) (se_iload_n dL_isPrime_3 rfl rfl) dL_isPrime_4 rfl) (se_iload_n dL_isPrime_5 rfl rfl) dL_isPrime_6 rfl rfl)
    (ss_seq (pcA := 17) (ss_if (pcT := 15) (pcF := 17) (sc_Feq0 (pcB := 12) (se_rem (pcA := 10) (pcB := 11) (se_iload_n dL_isPrime_9 rfl rfl) (se_iload_n dL_isPrime_10 rfl rfl) dL_isPrime_11 rfl) dL_isPrime_12 rfl rfl)
    (ss_retZ (pcA := 16) (se_iconst dL_isPrime_15 (by decide +kernel) rfl) dL_isPrime_16 rfl) ss_skip)
    (ss_goto (pcG := 20) (ss_inc dL_isPrime_17 (Nat.le_of_ble_eq_true rfl) (by decide +kernel) rfl) dL_isPrime_20 rfl)))))
    (ss_retZ (pcA := 33) (se_if (pcT := 28) (pcF := 32) (pcG := 29) (sc_Fgt (pcA := 24) (pcB := 25) (se_iload_n dL_isPrime_23 rfl rfl) (se_iconst dL_isPrime_24 (by decide +kernel) rfl) dL_isPrime_25 rfl rfl) (se_iconst dL_isPrime_28 (by decide +kernel) rfl) dL_isPrime_29 rfl (se_iconst dL_isPrime_32 (by decide +kernel) rfl)) dL_isPrime_33 rfl))
theorem T_L_isPrime : sMet vwCl RX6 yL_isPrime wsL_isPrime 0 0 M_L_isPrime := sMet_of rfl (by decide +kernel) rfl rfl (fun h => by cases h) (m_of_run _ _) S_L_isPrime (m_of_cat _ _ (Nat.le_of_ble_eq_true rfl))
abbrev C_L_primeAt_1 : sCd := (c_not (c_cmp0 i_ne (e_callI M_L_isPrime (a_ci (e_i 1) a_nil))))
abbrev W_L_primeAt_1 : sStm :=
  (s_inc 1 (nI 1))
abbrev C_L_primeAt_2 : sCd := (c_cmp0 i_gt (e_i 2))
abbrev W_L_primeAt_2 : sStm :=
  (s_seq (s_seq (s_inc 1 (nI 1))
    (s_while C_L_primeAt_1 W_L_primeAt_1))
    (s_inc 2 (-1)))
def B_L_primeAt : sStm :=
  (s_seq (s_decI 1 (e_k (nI 2)))
    (s_seq (s_blk 2 (s_seq (s_decI 2 (e_i 0))
    (s_while C_L_primeAt_2 W_L_primeAt_2)))
    (s_retI (e_i 1))))
def M_L_primeAt : sSem := m_of 1 B_L_primeAt
set_option maxRecDepth 100000 in
set_option maxHeartbeats 4000000 in
theorem S_L_primeAt : sSS (cL_primeAt, wsL_primeAt, RL, (some .int), 1, 21, 3, vwCl, RX6, false) 0 0 B_L_primeAt :=
  (ss_seq (pcA := 2) (ss_decI_n (pcA := 1) (se_iconst dL_primeAt_0 (by decide +kernel) rfl) dL_primeAt_1 rfl (Nat.le_of_ble_eq_true rfl) rfl)
    (ss_seq (pcA := 30) (ss_blk (ss_seq (pcA := 4) (ss_decI_n (pcA := 3) (se_iload_n dL_primeAt_2 rfl rfl) dL_primeAt_3 rfl (Nat.le_of_ble_eq_true rfl) rfl)
    (ss_while (pcB := 8) (sc_Fgt0 (pcB := 5) (se_iload_n dL_primeAt_4 rfl rfl) dL_primeAt_5 rfl rfl)
    (ss_seq (pcA := 24) (ss_seq (pcA := 11) (ss_inc dL_primeAt_8 (Nat.le_of_ble_eq_true rfl) (by decide +kernel) rfl)
    (ss_while (pcB := 18) (sc_not (sc_Tne0 (pcB := 15) (se_callSI (pcA := 12) (index := 9) (sa_ci (pcA := 12) (se_iload_n dL_primeAt_11 rfl rfl) sa_nil) T_L_isPrime gL_primeAt_L_isPrime rfl (by decide +kernel) (Nat.le_of_ble_eq_true rfl) (Nat.le_of_ble_eq_true rfl) (s_LenI s_Len0) (Nat.le_of_ble_eq_true rfl) dL_primeAt_12 rfl) dL_primeAt_15 rfl rfl))
    (ss_goto (pcG := 21) (ss_inc dL_primeAt_18 (Nat.le_of_ble_eq_true rfl) (by decide +kernel) rfl) dL_primeAt_21 rfl)))
    (ss_goto (pcG := 27) (ss_inc dL_primeAt_24 (Nat.le_of_ble_eq_true rfl) (by decide +kernel) rfl) dL_primeAt_27 rfl)))))
    (ss_retI (pcA := 31) (se_iload_n dL_primeAt_30 rfl rfl) dL_primeAt_31 rfl)))
theorem T_L_primeAt : sMet vwCl RX6 yL_primeAt wsL_primeAt 1 21 M_L_primeAt := sMet_of rfl (by decide +kernel) rfl rfl (fun h => by cases h) (m_of_run _ _) S_L_primeAt (m_of_cat _ _ (Nat.le_of_ble_eq_true rfl))
abbrev C_L_exponent_1 : sCd := (c_cmp0 i_eq (e_rem (e_i 3) (e_i 1)))
abbrev W_L_exponent_1 : sStm :=
  (s_seq (s_inc 2 (nI 1))
    (s_setI 3 (e_div (e_i 3) (e_i 1))))
def B_L_exponent : sStm :=
  (s_seq (s_decI 2 (e_k (nI 0)))
    (s_seq (s_blk 3 (s_seq (s_decI 3 (e_i 0))
    (s_while C_L_exponent_1 W_L_exponent_1)))
    (s_retI (e_i 2))))
def M_L_exponent : sSem := m_of 2 B_L_exponent
set_option maxRecDepth 100000 in
set_option maxHeartbeats 4000000 in
theorem S_L_exponent : sSS (cL_exponent, wsL_exponent, RL, (some .int), 0, 0, 4, vwCl, RX6, false) 0 0 B_L_exponent :=
  (ss_seq (pcA := 2) (ss_decI_n (pcA := 1) (se_iconst dL_exponent_0 (by decide +kernel) rfl) dL_exponent_1 rfl (Nat.le_of_ble_eq_true rfl) rfl)
    (ss_seq (pcA := 20) (ss_blk (ss_seq (pcA := 4) (ss_decI_n (pcA := 3) (se_iload_n dL_exponent_2 rfl rfl) dL_exponent_3 rfl (Nat.le_of_ble_eq_true rfl) rfl)
    (ss_while (pcB := 10) (sc_Feq0 (pcB := 7) (se_rem (pcA := 5) (pcB := 6) (se_iload_n dL_exponent_4 rfl rfl) (se_iload_n dL_exponent_5 rfl rfl) dL_exponent_6 rfl) dL_exponent_7 rfl rfl)
    (ss_seq (pcA := 13) (ss_inc dL_exponent_10 (Nat.le_of_ble_eq_true rfl) (by decide +kernel) rfl)
    (ss_goto (pcG := 17) (ss_setI_n (pcA := 16) (se_div (pcA := 14) (pcB := 15) (se_iload_n dL_exponent_13 rfl rfl) (se_iload_n dL_exponent_14 rfl rfl) dL_exponent_15 rfl) dL_exponent_16 rfl (Nat.le_of_ble_eq_true rfl) rfl) dL_exponent_17 rfl)))))
    (ss_retI (pcA := 21) (se_iload_n dL_exponent_20 rfl rfl) dL_exponent_21 rfl)))
theorem T_L_exponent : sMet vwCl RX6 yL_exponent wsL_exponent 0 0 M_L_exponent := sMet_of rfl (by decide +kernel) rfl rfl (fun h => by cases h) (m_of_run _ _) S_L_exponent (m_of_cat _ _ (Nat.le_of_ble_eq_true rfl))
abbrev C_L_number_1 : sCd := (c_cmp0 i_gt (e_i 4))
abbrev W_L_number_1 : sStm :=
  (s_seq (s_blk 5 (s_seq (s_decI 5 (e_ald (e_r 1) (e_if (c_cmp0 i_eq (e_rem (e_i 3) (e_k (nI 3)))) (e_rem (e_div (e_i 3) (e_k (nI 3))) (e_k (nI 25))) (e_rem (e_div (e_i 3) (e_k (nI 3))) (e_k (nI 4))))))
    (s_seq (s_setI 2 (e_mul (e_i 2) (e_if (c_cmp i_lt (e_mul (e_i 2) (e_i 5)) (e_k (nI 10000))) (e_i 5) (e_k (nI 1)))))
    (s_setI 3 (e_div (e_i 3) (e_k (nI 7)))))))
    (s_inc 4 (-1)))
def B_L_number : sStm :=
  (s_seq (s_decI 2 (e_k (nI 1)))
    (s_seq (s_decI 3 (e_i 0))
    (s_seq (s_blk 4 (s_seq (s_decI 4 (e_rem (e_i 0) (e_k (nI 6))))
    (s_while C_L_number_1 W_L_number_1)))
    (s_retI (e_i 2)))))
def M_L_number : sSem := m_of 2 B_L_number
set_option maxRecDepth 100000 in
set_option maxHeartbeats 4000000 in
theorem S_L_number : sSS (cL_number, wsL_number, RL, (some .int), 0, 0, 6, vwCl, RX6, false) 0 0 B_L_number :=
  (ss_seq (pcA := 2) (ss_decI_n (pcA := 1) (se_iconst dL_number_0 (by decide +kernel) rfl) dL_number_1 rfl (Nat.le_of_ble_eq_true rfl) rfl)
    (ss_seq (pcA := 4) (ss_decI_n (pcA := 3) (se_iload_n dL_number_2 rfl rfl) dL_number_3 rfl (Nat.le_of_ble_eq_true rfl) rfl)
    (ss_seq (pcA := 69) (ss_blk (ss_seq (pcA := 10) (ss_decI (pcA := 8) (se_rem (pcA := 5) (pcB := 7) (se_iload_n dL_number_4 rfl rfl) (se_bipush dL_number_5 (by decide +kernel) rfl) dL_number_7 rfl) dL_number_8 (Nat.le_of_ble_eq_true rfl) rfl)
    (ss_while (pcB := 15) (sc_Fgt0 (pcB := 12) (se_iload dL_number_10 rfl) dL_number_12 rfl rfl)
    (ss_seq (pcA := 63) (ss_blk (ss_seq (pcA := 39) (ss_decI (pcA := 37) (se_ald (pcA := 16) (pcB := 36) (se_aload_n dL_number_15 rfl rfl) (se_if (pcT := 22) (pcF := 31) (pcG := 28) (sc_Feq0 (pcB := 19) (se_rem (pcA := 17) (pcB := 18) (se_iload_n dL_number_16 rfl rfl) (se_iconst dL_number_17 (by decide +kernel) rfl) dL_number_18 rfl) dL_number_19 rfl rfl) (se_rem (pcA := 25) (pcB := 27) (se_div (pcA := 23) (pcB := 24) (se_iload_n dL_number_22 rfl rfl) (se_iconst dL_number_23 (by decide +kernel) rfl) dL_number_24 rfl) (se_bipush dL_number_25 (by decide +kernel) rfl) dL_number_27 rfl) dL_number_28 rfl (se_rem (pcA := 34) (pcB := 35) (se_div (pcA := 32) (pcB := 33) (se_iload_n dL_number_31 rfl rfl) (se_iconst dL_number_32 (by decide +kernel) rfl) dL_number_33 rfl) (se_iconst dL_number_34 (by decide +kernel) rfl) dL_number_35 rfl)) dL_number_36 rfl) dL_number_37 (Nat.le_of_ble_eq_true rfl) rfl)
    (ss_seq (pcA := 58) (ss_setI_n (pcA := 57) (se_mul (pcA := 40) (pcB := 56) (se_iload_n dL_number_39 rfl rfl) (se_if (pcT := 50) (pcF := 55) (pcG := 52) (sc_Flt (pcA := 44) (pcB := 47) (se_mul (pcA := 41) (pcB := 43) (se_iload_n dL_number_40 rfl rfl) (se_iload dL_number_41 rfl) dL_number_43 rfl) (se_sipush dL_number_44 (by decide +kernel) rfl) dL_number_47 rfl rfl) (se_iload dL_number_50 rfl) dL_number_52 rfl (se_iconst dL_number_55 (by decide +kernel) rfl)) dL_number_56 rfl) dL_number_57 rfl (Nat.le_of_ble_eq_true rfl) rfl)
    (ss_setI_n (pcA := 62) (se_div (pcA := 59) (pcB := 61) (se_iload_n dL_number_58 rfl rfl) (se_bipush dL_number_59 (by decide +kernel) rfl) dL_number_61 rfl) dL_number_62 rfl (Nat.le_of_ble_eq_true rfl) rfl))))
    (ss_goto (pcG := 66) (ss_inc dL_number_63 (Nat.le_of_ble_eq_true rfl) (by decide +kernel) rfl) dL_number_66 rfl)))))
    (ss_retI (pcA := 70) (se_iload_n dL_number_69 rfl rfl) dL_number_70 rfl))))
theorem T_L_number : sMet vwCl RX6 yL_number wsL_number 0 0 M_L_number := sMet_of rfl (by decide +kernel) rfl rfl (fun h => by cases h) (m_of_run _ _) S_L_number (m_of_cat _ _ (Nat.le_of_ble_eq_true rfl))
abbrev C_L_common_1 : sCd := (c_cmp i_ne (e_i 2) (e_i 3))
abbrev W_L_common_1 : sStm :=
  (s_if (c_cmp i_gt (e_i 2) (e_i 3))
    (s_setI 2 (e_sub (e_i 2) (e_mul (e_div (e_sub (e_i 2) (e_k (nI 1))) (e_i 3)) (e_i 3))))
    (s_setI 3 (e_sub (e_i 3) (e_mul (e_div (e_sub (e_i 3) (e_k (nI 1))) (e_i 2)) (e_i 2)))))
def B_L_common : sStm :=
  (s_seq (s_decI 2 (e_i 0))
    (s_seq (s_decI 3 (e_i 1))
    (s_seq (s_while C_L_common_1 W_L_common_1)
    (s_retI (e_i 2)))))
def M_L_common : sSem := m_of 2 B_L_common
set_option maxRecDepth 100000 in
set_option maxHeartbeats 4000000 in
theorem S_L_common : sSS (cL_common, wsL_common, RL, (some .int), 0, 0, 4, vwCl, RX6, false) 0 0 B_L_common :=
  (ss_seq (pcA := 2) (ss_decI_n (pcA := 1) (se_iload_n dL_common_0 rfl rfl) dL_common_1 rfl (Nat.le_of_ble_eq_true rfl) rfl)
    (ss_seq (pcA := 4) (ss_decI_n (pcA := 3) (se_iload_n dL_common_2 rfl rfl) dL_common_3 rfl (Nat.le_of_ble_eq_true rfl) rfl)
    (ss_seq (pcA := 40) (ss_while (pcB := 9) (sc_Fne (pcA := 5) (pcB := 6) (se_iload_n dL_common_4 rfl rfl) (se_iload_n dL_common_5 rfl rfl) dL_common_6 rfl rfl)
    (ss_if (pcT := 14) (pcF := 27) (sc_Fgt (pcA := 10) (pcB := 11) (se_iload_n dL_common_9 rfl rfl) (se_iload_n dL_common_10 rfl rfl) dL_common_11 rfl rfl)
    (ss_goto (pcG := 24) (ss_setI_n (pcA := 23) (se_sub (pcA := 15) (pcB := 22) (se_iload_n dL_common_14 rfl rfl) (se_mul (pcA := 20) (pcB := 21) (se_div (pcA := 18) (pcB := 19) (se_sub (pcA := 16) (pcB := 17) (se_iload_n dL_common_15 rfl rfl) (se_iconst dL_common_16 (by decide +kernel) rfl) dL_common_17 rfl) (se_iload_n dL_common_18 rfl rfl) dL_common_19 rfl) (se_iload_n dL_common_20 rfl rfl) dL_common_21 rfl) dL_common_22 rfl) dL_common_23 rfl (Nat.le_of_ble_eq_true rfl) rfl) dL_common_24 rfl)
    (ss_goto (pcG := 37) (ss_setI_n (pcA := 36) (se_sub (pcA := 28) (pcB := 35) (se_iload_n dL_common_27 rfl rfl) (se_mul (pcA := 33) (pcB := 34) (se_div (pcA := 31) (pcB := 32) (se_sub (pcA := 29) (pcB := 30) (se_iload_n dL_common_28 rfl rfl) (se_iconst dL_common_29 (by decide +kernel) rfl) dL_common_30 rfl) (se_iload_n dL_common_31 rfl rfl) dL_common_32 rfl) (se_iload_n dL_common_33 rfl rfl) dL_common_34 rfl) dL_common_35 rfl) dL_common_36 rfl (Nat.le_of_ble_eq_true rfl) rfl) dL_common_37 rfl)))
    (ss_retI (pcA := 41) (se_iload_n dL_common_40 rfl rfl) dL_common_41 rfl))))
theorem T_L_common : sMet vwCl RX6 yL_common wsL_common 0 0 M_L_common := sMet_of rfl (by decide +kernel) rfl rfl (fun h => by cases h) (m_of_run _ _) S_L_common (m_of_cat _ _ (Nat.le_of_ble_eq_true rfl))
def B_L_isKin : sStm :=
  (s_retZ (e_if (c_cmp0 i_eq (e_ald (e_r 1) (e_k (nI 1)))) (e_if (c_cmp i_gt (e_callI M_L_common (a_ci (e_ald (e_r 0) (e_i 2)) (a_ci (e_ald (e_r 0) (e_i 3)) a_nil))) (e_k (nI 1))) (e_k (nI 1)) (e_k (nI 0))) (e_if (c_or (c_cmp0 i_eq (e_rem (e_ald (e_r 0) (e_i 3)) (e_ald (e_r 0) (e_i 2)))) (c_and (c_cmp i_eq (e_ald (e_r 1) (e_k (nI 1))) (e_k (nI 1))) (c_cmp0 i_eq (e_rem (e_ald (e_r 0) (e_i 2)) (e_ald (e_r 0) (e_i 3)))))) (e_k (nI 1)) (e_k (nI 0)))))
def M_L_isKin : sSem := m_of 4 B_L_isKin
set_option maxRecDepth 100000 in
set_option maxHeartbeats 4000000 in
theorem S_L_isKin : sSS (cL_isKin, wsL_isKin, RL, (some .boolean), 1, 23, 4, vwCl, RX6, false) 0 0 B_L_isKin :=
  (ss_retZ (pcA := 59) (se_ifN (pcT := 6) (pcF := 27) (sc_Feq0 (pcB := 3) (se_ald (pcA := 1) (pcB := 2) (se_aload_n dL_isKin_0 rfl rfl) (se_iconst dL_isKin_1 (by decide +kernel) rfl) dL_isKin_2 rfl) dL_isKin_3 rfl rfl) (se_if (pcT := 19) (pcF := 23) (pcG := 20) (sc_Fgt (pcA := 15) (pcB := 16) (se_callSI (pcA := 12) (index := 15) (sa_ci (pcA := 9) (se_ald (pcA := 7) (pcB := 8) (se_aload_n dL_isKin_6 rfl rfl) (se_iload_n dL_isKin_7 rfl rfl) dL_isKin_8 rfl) (sa_ci (pcA := 12) (se_ald (pcA := 10) (pcB := 11) (se_aload_n dL_isKin_9 rfl rfl) (se_iload_n dL_isKin_10 rfl rfl) dL_isKin_11 rfl) sa_nil)) T_L_common gL_isKin_L_common rfl (by decide +kernel) (Nat.le_of_ble_eq_true rfl) (Nat.le_of_ble_eq_true rfl) (s_LenI (s_LenI s_Len0)) (Nat.le_of_ble_eq_true rfl) dL_isKin_12 rfl) (se_iconst dL_isKin_15 (by decide +kernel) rfl) dL_isKin_16 rfl rfl) (se_iconst dL_isKin_19 (by decide +kernel) rfl) dL_isKin_20 rfl (se_goto (pcG := 24) (se_iconst dL_isKin_23 (by decide +kernel) rfl) dL_isKin_24 rfl)) (se_if (pcT := 54) (pcF := 58) (pcG := 55) (sc_or (pcA := 37) (sc_Teq0 (pcB := 34) (se_rem (pcA := 30) (pcB := 33) (se_ald (pcA := 28) (pcB := 29) (se_aload_n dL_isKin_27 rfl rfl) (se_iload_n dL_isKin_28 rfl rfl) dL_isKin_29 rfl) (se_ald (pcA := 31) (pcB := 32) (se_aload_n dL_isKin_30 rfl rfl) (se_iload_n dL_isKin_31 rfl rfl) dL_isKin_32 rfl) dL_isKin_33 rfl) dL_isKin_34 rfl rfl) (sc_and (pcA := 44) (sc_Feq (pcA := 40) (pcB := 41) (se_ald (pcA := 38) (pcB := 39) (se_aload_n dL_isKin_37 rfl rfl) (se_iconst dL_isKin_38 (by decide +kernel) rfl) dL_isKin_39 rfl) (se_iconst dL_isKin_40 (by decide +kernel) rfl) dL_isKin_41 rfl rfl) (sc_Feq0 (pcB := 51) (se_rem (pcA := 47) (pcB := 50) (se_ald (pcA := 45) (pcB := 46) (se_aload_n dL_isKin_44 rfl rfl) (se_iload_n dL_isKin_45 rfl rfl) dL_isKin_46 rfl) (se_ald (pcA := 48) (pcB := 49) (se_aload_n dL_isKin_47 rfl rfl) (se_iload_n dL_isKin_48 rfl rfl) dL_isKin_49 rfl) dL_isKin_50 rfl) dL_isKin_51 rfl rfl))) (se_iconst dL_isKin_54 (by decide +kernel) rfl) dL_isKin_55 rfl (se_iconst dL_isKin_58 (by decide +kernel) rfl))) dL_isKin_59 rfl)
theorem T_L_isKin : sMet vwCl RX6 yL_isKin wsL_isKin 1 23 M_L_isKin := sMet_of rfl (by decide +kernel) rfl rfl (fun h => by cases h) (m_of_run _ _) S_L_isKin (m_of_cat _ _ (Nat.le_of_ble_eq_true rfl))
def B_L_areKin : sStm :=
  (s_retZ (e_if (c_and (c_cmp i_ne (e_i 2) (e_i 3)) (c_cmp0 i_ne (e_callI M_L_isKin (a_cr (e_r 0) (a_cr (e_r 1) (a_ci (e_if (c_cmp i_lt (e_i 2) (e_i 3)) (e_i 2) (e_i 3)) (a_ci (e_if (c_cmp i_lt (e_i 2) (e_i 3)) (e_i 3) (e_i 2)) a_nil))))))) (e_k (nI 1)) (e_k (nI 0))))
def M_L_areKin : sSem := m_of 4 B_L_areKin
set_option maxRecDepth 100000 in
set_option maxHeartbeats 4000000 in
theorem S_L_areKin : sSS (cL_areKin, wsL_areKin, RL, (some .boolean), 2, 46, 4, vwCl, RX6, false) 0 0 B_L_areKin :=
  (ss_retZ (pcA := 38) (se_if (pcT := 33) (pcF := 37) (pcG := 34) (sc_and (pcA := 5) (sc_Fne (pcA := 1) (pcB := 2) (se_iload_n dL_areKin_0 rfl rfl) (se_iload_n dL_areKin_1 rfl rfl) dL_areKin_2 rfl rfl) (sc_Fne0 (pcB := 30) (se_callSI (pcA := 27) (index := 19) (sa_cr (pcA := 6) (se_aload_n dL_areKin_5 rfl rfl) (sa_cr (pcA := 7) (se_aload_n dL_areKin_6 rfl rfl) (sa_ci (pcA := 17) (se_if (pcT := 12) (pcF := 16) (pcG := 13) (sc_Flt (pcA := 8) (pcB := 9) (se_iload_n dL_areKin_7 rfl rfl) (se_iload_n dL_areKin_8 rfl rfl) dL_areKin_9 rfl rfl) (se_iload_n dL_areKin_12 rfl rfl) dL_areKin_13 rfl (se_iload_n dL_areKin_16 rfl rfl)) (sa_ci (pcA := 27) (se_if (pcT := 22) (pcF := 26) (pcG := 23) (sc_Flt (pcA := 18) (pcB := 19) (se_iload_n dL_areKin_17 rfl rfl) (se_iload_n dL_areKin_18 rfl rfl) dL_areKin_19 rfl rfl) (se_iload_n dL_areKin_22 rfl rfl) dL_areKin_23 rfl (se_iload_n dL_areKin_26 rfl rfl)) sa_nil)))) T_L_isKin gL_areKin_L_isKin rfl (by decide +kernel) (Nat.le_of_ble_eq_true rfl) (Nat.le_of_ble_eq_true rfl) (s_LenR (s_LenR (s_LenI (s_LenI s_Len0)))) (Nat.le_of_ble_eq_true rfl) dL_areKin_27 rfl) dL_areKin_30 rfl rfl)) (se_iconst dL_areKin_33 (by decide +kernel) rfl) dL_areKin_34 rfl (se_iconst dL_areKin_37 (by decide +kernel) rfl)) dL_areKin_38 rfl)
theorem T_L_areKin : sMet vwCl RX6 yL_areKin wsL_areKin 2 46 M_L_areKin := sMet_of rfl (by decide +kernel) rfl rfl (fun h => by cases h) (m_of_run _ _) S_L_areKin (m_of_cat _ _ (Nat.le_of_ble_eq_true rfl))
abbrev C_L_out_1 : sCd := (c_cmp i_lt (e_i 3) (e_ald (e_r 1) (e_k (nI 0))))
abbrev W_L_out_1 : sStm :=
  (s_seq (s_ast (e_r 0) (e_i 3) (e_ald (e_r 0) (e_add (e_i 3) (e_k (nI 1)))))
    (s_inc 3 (nI 1)))
def B_L_out : sStm :=
  (s_seq (s_seq (s_astop (e_r 1) (e_k (nI 0)) (fun x z => x - z) (e_k (nI 1)))
    (s_blk 3 (s_seq (s_decI 3 (e_i 2))
    (s_while C_L_out_1 W_L_out_1))))
    s_ret0)
def M_L_out : sSem := m_of 3 B_L_out
set_option maxRecDepth 100000 in
set_option maxHeartbeats 4000000 in
theorem S_L_out : sSS (cL_out, wsL_out, RL, none, 0, 0, 4, vwCl, RX6, false) 0 0 B_L_out :=
  (ss_seq (pcA := 30) (ss_seq (pcA := 7) (ss_astop (pcA := 1) (pcI := 2) (pcD := 3) (pcL := 4) (pcB := 5) (pcO := 6) (se_aload_n dL_out_0 rfl rfl) (se_iconst dL_out_1 (by decide +kernel) rfl) dL_out_2 rfl dL_out_3 rfl (se_iconst dL_out_4 (by decide +kernel) rfl) (Or.inr ⟨dL_out_5, rfl⟩) rfl dL_out_6 rfl)
    (ss_blk (ss_seq (pcA := 9) (ss_decI_n (pcA := 8) (se_iload_n dL_out_7 rfl rfl) dL_out_8 rfl (Nat.le_of_ble_eq_true rfl) rfl)
    (ss_while (pcB := 16) (sc_Flt (pcA := 10) (pcB := 13) (se_iload_n dL_out_9 rfl rfl) (se_ald (pcA := 11) (pcB := 12) (se_aload_n dL_out_10 rfl rfl) (se_iconst dL_out_11 (by decide +kernel) rfl) dL_out_12 rfl) dL_out_13 rfl rfl)
    (ss_seq (pcA := 24) (ss_ast (pcA := 17) (pcI := 18) (pcB := 23) (se_aload_n dL_out_16 rfl rfl) (se_iload_n dL_out_17 rfl rfl) (se_ald (pcA := 19) (pcB := 22) (se_aload_n dL_out_18 rfl rfl) (se_add (pcA := 20) (pcB := 21) (se_iload_n dL_out_19 rfl rfl) (se_iconst dL_out_20 (by decide +kernel) rfl) dL_out_21 rfl) dL_out_22 rfl) dL_out_23 rfl)
    (ss_goto (pcG := 27) (ss_inc dL_out_24 (Nat.le_of_ble_eq_true rfl) (by decide +kernel) rfl) dL_out_27 rfl))))))
    (ss_ret0 dL_out_30 rfl))
theorem T_L_out : sMet vwCl RX6 yL_out wsL_out 0 0 M_L_out := sMet_of rfl (by decide +kernel) rfl rfl (fun h => by cases h) (m_of_run _ _) S_L_out (m_of_cat _ _ (Nat.le_of_ble_eq_true rfl))
abbrev C_L_put_1 : sCd := (c_cmp i_gt (e_i 4) (e_i 2))
abbrev W_L_put_1 : sStm :=
  (s_seq (s_ast (e_r 0) (e_i 4) (e_ald (e_r 0) (e_sub (e_i 4) (e_k (nI 1)))))
    (s_inc 4 (-1)))
def B_L_put : sStm :=
  (s_seq (s_seq (s_blk 4 (s_seq (s_decI 4 (e_ald (e_r 1) (e_k (nI 0))))
    (s_while C_L_put_1 W_L_put_1)))
    (s_seq (s_ast (e_r 0) (e_i 2) (e_i 3))
    (s_astop (e_r 1) (e_k (nI 0)) (fun x z => x + z) (e_k (nI 1)))))
    s_ret0)
def M_L_put : sSem := m_of 4 B_L_put
set_option maxRecDepth 100000 in
set_option maxHeartbeats 4000000 in
theorem S_L_put : sSS (cL_put, wsL_put, RL, none, 0, 0, 5, vwCl, RX6, false) 0 0 B_L_put :=
  (ss_seq (pcA := 38) (ss_seq (pcA := 27) (ss_blk (ss_seq (pcA := 5) (ss_decI (pcA := 3) (se_ald (pcA := 1) (pcB := 2) (se_aload_n dL_put_0 rfl rfl) (se_iconst dL_put_1 (by decide +kernel) rfl) dL_put_2 rfl) dL_put_3 (Nat.le_of_ble_eq_true rfl) rfl)
    (ss_while (pcB := 11) (sc_Fgt (pcA := 7) (pcB := 8) (se_iload dL_put_5 rfl) (se_iload_n dL_put_7 rfl rfl) dL_put_8 rfl rfl)
    (ss_seq (pcA := 21) (ss_ast (pcA := 12) (pcI := 14) (pcB := 20) (se_aload_n dL_put_11 rfl rfl) (se_iload dL_put_12 rfl) (se_ald (pcA := 15) (pcB := 19) (se_aload_n dL_put_14 rfl rfl) (se_sub (pcA := 17) (pcB := 18) (se_iload dL_put_15 rfl) (se_iconst dL_put_17 (by decide +kernel) rfl) dL_put_18 rfl) dL_put_19 rfl) dL_put_20 rfl)
    (ss_goto (pcG := 24) (ss_inc dL_put_21 (Nat.le_of_ble_eq_true rfl) (by decide +kernel) rfl) dL_put_24 rfl)))))
    (ss_seq (pcA := 31) (ss_ast (pcA := 28) (pcI := 29) (pcB := 30) (se_aload_n dL_put_27 rfl rfl) (se_iload_n dL_put_28 rfl rfl) (se_iload_n dL_put_29 rfl rfl) dL_put_30 rfl)
    (ss_astop (pcA := 32) (pcI := 33) (pcD := 34) (pcL := 35) (pcB := 36) (pcO := 37) (se_aload_n dL_put_31 rfl rfl) (se_iconst dL_put_32 (by decide +kernel) rfl) dL_put_33 rfl dL_put_34 rfl (se_iconst dL_put_35 (by decide +kernel) rfl) (Or.inl ⟨dL_put_36, rfl⟩) rfl dL_put_37 rfl)))
    (ss_ret0 dL_put_38 rfl))
theorem T_L_put : sMet vwCl RX6 yL_put wsL_put 0 0 M_L_put := sMet_of rfl (by decide +kernel) rfl rfl (fun h => by cases h) (m_of_run _ _) S_L_put (m_of_cat _ _ (Nat.le_of_ble_eq_true rfl))
abbrev C_L_account_1 : sCd := (c_cmp i_lt (e_i 4) (e_k (nI 25)))
abbrev W_L_account_1 : sStm :=
  (s_seq (s_astop (e_r 0) (e_i 4) (fun x z => x + z) (e_mul (e_i 3) (e_callI M_L_exponent (a_ci (e_i 2) (a_ci (e_ald (e_r 1) (e_i 4)) a_nil)))))
    (s_inc 4 (nI 1)))
def B_L_account : sStm :=
  (s_seq (s_blk 4 (s_seq (s_decI 4 (e_k (nI 0)))
    (s_while C_L_account_1 W_L_account_1)))
    s_ret0)
def M_L_account : sSem := m_of 4 B_L_account
set_option maxRecDepth 100000 in
set_option maxHeartbeats 4000000 in
theorem S_L_account : sSS (cL_account, wsL_account, RL, none, 1, 23, 5, vwCl, RX6, false) 0 0 B_L_account :=
  (ss_seq (pcA := 33) (ss_blk (ss_seq (pcA := 3) (ss_decI (pcA := 1) (se_iconst dL_account_0 (by decide +kernel) rfl) dL_account_1 (Nat.le_of_ble_eq_true rfl) rfl)
    (ss_while (pcB := 10) (sc_Flt (pcA := 5) (pcB := 7) (se_iload dL_account_3 rfl) (se_bipush dL_account_5 (by decide +kernel) rfl) dL_account_7 rfl rfl)
    (ss_seq (pcA := 27) (ss_astop (pcA := 11) (pcI := 13) (pcD := 14) (pcL := 15) (pcB := 25) (pcO := 26) (se_aload_n dL_account_10 rfl rfl) (se_iload dL_account_11 rfl) dL_account_13 rfl dL_account_14 rfl (se_mul (pcA := 16) (pcB := 24) (se_iload_n dL_account_15 rfl rfl) (se_callSI (pcA := 21) (index := 23) (sa_ci (pcA := 17) (se_iload_n dL_account_16 rfl rfl) (sa_ci (pcA := 21) (se_ald (pcA := 18) (pcB := 20) (se_aload_n dL_account_17 rfl rfl) (se_iload dL_account_18 rfl) dL_account_20 rfl) sa_nil)) T_L_exponent gL_account_L_exponent rfl (by decide +kernel) (Nat.le_of_ble_eq_true rfl) (Nat.le_of_ble_eq_true rfl) (s_LenI (s_LenI s_Len0)) (Nat.le_of_ble_eq_true rfl) dL_account_21 rfl) dL_account_24 rfl) (Or.inl ⟨dL_account_25, rfl⟩) rfl dL_account_26 rfl)
    (ss_goto (pcG := 30) (ss_inc dL_account_27 (Nat.le_of_ble_eq_true rfl) (by decide +kernel) rfl) dL_account_30 rfl)))))
    (ss_ret0 dL_account_33 rfl))
theorem T_L_account : sMet vwCl RX6 yL_account wsL_account 1 23 M_L_account := sMet_of rfl (by decide +kernel) rfl rfl (fun h => by cases h) (m_of_run _ _) S_L_account (m_of_cat _ _ (Nat.le_of_ble_eq_true rfl))
def B_L_broke : sStm :=
  (s_seq (s_if (c_cmp i_eq (e_ald (e_r 0) (e_i 2)) (e_k (nI 1)))
    (s_seq (s_callV M_L_out (a_cr (e_r 0) (a_cr (e_r 1) (a_ci (e_i 2) a_nil))))
    (s_astop (e_r 1) (e_k (nI 3)) (fun x z => x + z) (e_k (nI 1)))) s_skip)
    s_ret0)
def M_L_broke : sSem := m_of 3 B_L_broke
set_option maxRecDepth 100000 in
set_option maxHeartbeats 4000000 in
theorem S_L_broke : sSS (cL_broke, wsL_broke, RL, none, 1, 23, 3, vwCl, RX6, false) 0 0 B_L_broke :=
  (ss_seq (pcA := 20) (ss_if (pcT := 7) (pcF := 20) (sc_Feq (pcA := 3) (pcB := 4) (se_ald (pcA := 1) (pcB := 2) (se_aload_n dL_broke_0 rfl rfl) (se_iload_n dL_broke_1 rfl rfl) dL_broke_2 rfl) (se_iconst dL_broke_3 (by decide +kernel) rfl) dL_broke_4 rfl rfl)
    (ss_seq (pcA := 13) (ss_callVS (pcA := 10) (index := 26) (sa_cr (pcA := 8) (se_aload_n dL_broke_7 rfl rfl) (sa_cr (pcA := 9) (se_aload_n dL_broke_8 rfl rfl) (sa_ci (pcA := 10) (se_iload_n dL_broke_9 rfl rfl) sa_nil))) T_L_out gL_broke_L_out rfl (by decide +kernel) (Nat.le_of_ble_eq_true rfl) (Nat.le_of_ble_eq_true rfl) (s_LenR (s_LenR (s_LenI s_Len0))) dL_broke_10 rfl)
    (ss_astop (pcA := 14) (pcI := 15) (pcD := 16) (pcL := 17) (pcB := 18) (pcO := 19) (se_aload_n dL_broke_13 rfl rfl) (se_iconst dL_broke_14 (by decide +kernel) rfl) dL_broke_15 rfl dL_broke_16 rfl (se_iconst dL_broke_17 (by decide +kernel) rfl) (Or.inl ⟨dL_broke_18, rfl⟩) rfl dL_broke_19 rfl)) ss_skip)
    (ss_ret0 dL_broke_20 rfl))
theorem T_L_broke : sMet vwCl RX6 yL_broke wsL_broke 1 23 M_L_broke := sMet_of rfl (by decide +kernel) rfl rfl (fun h => by cases h) (m_of_run _ _) S_L_broke (m_of_cat _ _ (Nat.le_of_ble_eq_true rfl))
def B_L_share : sStm :=
  (s_seq (s_if (c_cmp i_gt (e_i 2) (e_sub (e_ald (e_r 1) (e_k (nI 0))) (e_k (nI 2))))
    (s_retI (e_k (-1))) s_skip)
    (s_seq (s_decI 3 (e_callI M_L_common (a_ci (e_ald (e_r 0) (e_i 2)) (a_ci (e_ald (e_r 0) (e_add (e_i 2) (e_k (nI 1)))) a_nil))))
    (s_seq (s_decI 4 (e_mul (e_div (e_ald (e_r 0) (e_i 2)) (e_i 3)) (e_ald (e_r 0) (e_add (e_i 2) (e_k (nI 1))))))
    (s_seq (s_if (c_cmp i_gt (e_i 4) (e_k (nI 9999)))
    (s_retI (e_k (-3))) s_skip)
    (s_seq (s_ast (e_r 0) (e_i 2) (e_i 3))
    (s_seq (s_ast (e_r 0) (e_add (e_i 2) (e_k (nI 1))) (e_i 4))
    (s_retI (e_i 3))))))))
def M_L_share : sSem := m_of 3 B_L_share
set_option maxRecDepth 100000 in
set_option maxHeartbeats 4000000 in
theorem S_L_share : sSS (cL_share, wsL_share, RL, (some .int), 1, 23, 5, vwCl, RX6, false) 0 0 B_L_share :=
  (ss_seq (pcA := 11) (ss_if (pcT := 9) (pcF := 11) (sc_Fgt (pcA := 1) (pcB := 6) (se_iload_n dL_share_0 rfl rfl) (se_sub (pcA := 4) (pcB := 5) (se_ald (pcA := 2) (pcB := 3) (se_aload_n dL_share_1 rfl rfl) (se_iconst dL_share_2 (by decide +kernel) rfl) dL_share_3 rfl) (se_iconst dL_share_4 (by decide +kernel) rfl) dL_share_5 rfl) dL_share_6 rfl rfl)
    (ss_retI (pcA := 10) (se_iconst dL_share_9 (by decide +kernel) rfl) dL_share_10 rfl) ss_skip)
    (ss_seq (pcA := 23) (ss_decI_n (pcA := 22) (se_callSI (pcA := 19) (index := 15) (sa_ci (pcA := 14) (se_ald (pcA := 12) (pcB := 13) (se_aload_n dL_share_11 rfl rfl) (se_iload_n dL_share_12 rfl rfl) dL_share_13 rfl) (sa_ci (pcA := 19) (se_ald (pcA := 15) (pcB := 18) (se_aload_n dL_share_14 rfl rfl) (se_add (pcA := 16) (pcB := 17) (se_iload_n dL_share_15 rfl rfl) (se_iconst dL_share_16 (by decide +kernel) rfl) dL_share_17 rfl) dL_share_18 rfl) sa_nil)) T_L_common gL_share_L_common rfl (by decide +kernel) (Nat.le_of_ble_eq_true rfl) (Nat.le_of_ble_eq_true rfl) (s_LenI (s_LenI s_Len0)) (Nat.le_of_ble_eq_true rfl) dL_share_19 rfl) dL_share_22 rfl (Nat.le_of_ble_eq_true rfl) rfl)
    (ss_seq (pcA := 36) (ss_decI (pcA := 34) (se_mul (pcA := 28) (pcB := 33) (se_div (pcA := 26) (pcB := 27) (se_ald (pcA := 24) (pcB := 25) (se_aload_n dL_share_23 rfl rfl) (se_iload_n dL_share_24 rfl rfl) dL_share_25 rfl) (se_iload_n dL_share_26 rfl rfl) dL_share_27 rfl) (se_ald (pcA := 29) (pcB := 32) (se_aload_n dL_share_28 rfl rfl) (se_add (pcA := 30) (pcB := 31) (se_iload_n dL_share_29 rfl rfl) (se_iconst dL_share_30 (by decide +kernel) rfl) dL_share_31 rfl) dL_share_32 rfl) dL_share_33 rfl) dL_share_34 (Nat.le_of_ble_eq_true rfl) rfl)
    (ss_seq (pcA := 47) (ss_if (pcT := 44) (pcF := 47) (sc_Fgt (pcA := 38) (pcB := 41) (se_iload dL_share_36 rfl) (se_sipush dL_share_38 (by decide +kernel) rfl) dL_share_41 rfl rfl)
    (ss_retI (pcA := 46) (se_bipush dL_share_44 (by decide +kernel) rfl) dL_share_46 rfl) ss_skip)
    (ss_seq (pcA := 51) (ss_ast (pcA := 48) (pcI := 49) (pcB := 50) (se_aload_n dL_share_47 rfl rfl) (se_iload_n dL_share_48 rfl rfl) (se_iload_n dL_share_49 rfl rfl) dL_share_50 rfl)
    (ss_seq (pcA := 58) (ss_ast (pcA := 52) (pcI := 55) (pcB := 57) (se_aload_n dL_share_51 rfl rfl) (se_add (pcA := 53) (pcB := 54) (se_iload_n dL_share_52 rfl rfl) (se_iconst dL_share_53 (by decide +kernel) rfl) dL_share_54 rfl) (se_iload dL_share_55 rfl) dL_share_57 rfl)
    (ss_retI (pcA := 59) (se_iload_n dL_share_58 rfl rfl) dL_share_59 rfl)))))))
theorem T_L_share : sMet vwCl RX6 yL_share wsL_share 1 23 M_L_share := sMet_of rfl (by decide +kernel) rfl rfl (fun h => by cases h) (m_of_run _ _) S_L_share (m_of_cat _ _ (Nat.le_of_ble_eq_true rfl))
def B_L_divide : sStm :=
  (s_seq (s_if (c_cmp i_gt (e_i 4) (e_sub (e_ald (e_r 1) (e_k (nI 0))) (e_k (nI 2))))
    (s_retI (e_k (-1))) s_skip)
    (s_seq (s_if (c_cmp0 i_gt (e_rem (e_ald (e_r 0) (e_add (e_i 4) (e_k (nI 1)))) (e_ald (e_r 0) (e_i 4))))
    (s_retI (e_k (-2))) s_skip)
    (s_seq (s_decI 5 (e_div (e_ald (e_r 0) (e_add (e_i 4) (e_k (nI 1)))) (e_ald (e_r 0) (e_i 4))))
    (s_seq (s_callV M_L_account (a_cr (e_r 2) (a_cr (e_r 3) (a_ci (e_ald (e_r 0) (e_i 4)) (a_ci (e_k (nI 1)) a_nil)))))
    (s_seq (s_ast (e_r 0) (e_add (e_i 4) (e_k (nI 1))) (e_i 5))
    (s_seq (s_callV M_L_broke (a_cr (e_r 0) (a_cr (e_r 1) (a_ci (e_add (e_i 4) (e_k (nI 1))) a_nil))))
    (s_retI (e_i 5))))))))
def M_L_divide : sSem := m_of 5 B_L_divide
set_option maxRecDepth 100000 in
set_option maxHeartbeats 4000000 in
theorem S_L_divide : sSS (cL_divide, wsL_divide, RL, (some .int), 2, 47, 6, vwCl, RX6, false) 0 0 B_L_divide :=
  (ss_seq (pcA := 12) (ss_if (pcT := 10) (pcF := 12) (sc_Fgt (pcA := 2) (pcB := 7) (se_iload dL_divide_0 rfl) (se_sub (pcA := 5) (pcB := 6) (se_ald (pcA := 3) (pcB := 4) (se_aload_n dL_divide_2 rfl rfl) (se_iconst dL_divide_3 (by decide +kernel) rfl) dL_divide_4 rfl) (se_iconst dL_divide_5 (by decide +kernel) rfl) dL_divide_6 rfl) dL_divide_7 rfl rfl)
    (ss_retI (pcA := 11) (se_iconst dL_divide_10 (by decide +kernel) rfl) dL_divide_11 rfl) ss_skip)
    (ss_seq (pcA := 29) (ss_if (pcT := 26) (pcF := 29) (sc_Fgt0 (pcB := 23) (se_rem (pcA := 18) (pcB := 22) (se_ald (pcA := 13) (pcB := 17) (se_aload_n dL_divide_12 rfl rfl) (se_add (pcA := 15) (pcB := 16) (se_iload dL_divide_13 rfl) (se_iconst dL_divide_15 (by decide +kernel) rfl) dL_divide_16 rfl) dL_divide_17 rfl) (se_ald (pcA := 19) (pcB := 21) (se_aload_n dL_divide_18 rfl rfl) (se_iload dL_divide_19 rfl) dL_divide_21 rfl) dL_divide_22 rfl) dL_divide_23 rfl rfl)
    (ss_retI (pcA := 28) (se_bipush dL_divide_26 (by decide +kernel) rfl) dL_divide_28 rfl) ss_skip)
    (ss_seq (pcA := 42) (ss_decI (pcA := 40) (se_div (pcA := 35) (pcB := 39) (se_ald (pcA := 30) (pcB := 34) (se_aload_n dL_divide_29 rfl rfl) (se_add (pcA := 32) (pcB := 33) (se_iload dL_divide_30 rfl) (se_iconst dL_divide_32 (by decide +kernel) rfl) dL_divide_33 rfl) dL_divide_34 rfl) (se_ald (pcA := 36) (pcB := 38) (se_aload_n dL_divide_35 rfl rfl) (se_iload dL_divide_36 rfl) dL_divide_38 rfl) dL_divide_39 rfl) dL_divide_40 (Nat.le_of_ble_eq_true rfl) rfl)
    (ss_seq (pcA := 52) (ss_callVS (pcA := 49) (index := 30) (sa_cr (pcA := 43) (se_aload_n dL_divide_42 rfl rfl) (sa_cr (pcA := 44) (se_aload_n dL_divide_43 rfl rfl) (sa_ci (pcA := 48) (se_ald (pcA := 45) (pcB := 47) (se_aload_n dL_divide_44 rfl rfl) (se_iload dL_divide_45 rfl) dL_divide_47 rfl) (sa_ci (pcA := 49) (se_iconst dL_divide_48 (by decide +kernel) rfl) sa_nil)))) T_L_account gL_divide_L_account rfl (by decide +kernel) (Nat.le_of_ble_eq_true rfl) (Nat.le_of_ble_eq_true rfl) (s_LenR (s_LenR (s_LenI (s_LenI s_Len0)))) dL_divide_49 rfl)
    (ss_seq (pcA := 60) (ss_ast (pcA := 53) (pcI := 57) (pcB := 59) (se_aload_n dL_divide_52 rfl rfl) (se_add (pcA := 55) (pcB := 56) (se_iload dL_divide_53 rfl) (se_iconst dL_divide_55 (by decide +kernel) rfl) dL_divide_56 rfl) (se_iload dL_divide_57 rfl) dL_divide_59 rfl)
    (ss_seq (pcA := 69) (ss_callVS (pcA := 66) (index := 34) (sa_cr (pcA := 61) (se_aload_n dL_divide_60 rfl rfl) (sa_cr (pcA := 62) (se_aload_n dL_divide_61 rfl rfl) (sa_ci (pcA := 66) (se_add (pcA := 64) (pcB := 65) (se_iload dL_divide_62 rfl) (se_iconst dL_divide_64 (by decide +kernel) rfl) dL_divide_65 rfl) sa_nil))) T_L_broke gL_divide_L_broke rfl (by decide +kernel) (Nat.le_of_ble_eq_true rfl) (Nat.le_of_ble_eq_true rfl) (s_LenR (s_LenR (s_LenI s_Len0))) dL_divide_66 rfl)
    (ss_retI (pcA := 71) (se_iload dL_divide_69 rfl) dL_divide_71 rfl)))))))
theorem T_L_divide : sMet vwCl RX6 yL_divide wsL_divide 2 47 M_L_divide := sMet_of rfl (by decide +kernel) rfl rfl (fun h => by cases h) (m_of_run _ _) S_L_divide (m_of_cat _ _ (Nat.le_of_ble_eq_true rfl))
def B_L_strike : sStm :=
  (s_seq (s_if (c_cmp i_ge (e_i 4) (e_ald (e_r 1) (e_k (nI 0))))
    (s_retI (e_k (-1))) s_skip)
    (s_seq (s_if (c_cmp0 i_gt (e_rem (e_ald (e_r 0) (e_i 4)) (e_ald (e_r 3) (e_i 5))))
    (s_retI (e_k (-2))) s_skip)
    (s_seq (s_decI 6 (e_div (e_ald (e_r 0) (e_i 4)) (e_ald (e_r 3) (e_i 5))))
    (s_seq (s_ast (e_r 0) (e_i 4) (e_i 6))
    (s_seq (s_astop (e_r 2) (e_i 5) (fun x z => x + z) (e_k (nI 1)))
    (s_seq (s_callV M_L_broke (a_cr (e_r 0) (a_cr (e_r 1) (a_ci (e_i 4) a_nil))))
    (s_retI (e_i 6))))))))
def M_L_strike : sSem := m_of 6 B_L_strike
set_option maxRecDepth 100000 in
set_option maxHeartbeats 4000000 in
theorem S_L_strike : sSS (cL_strike, wsL_strike, RL, (some .int), 2, 45, 7, vwCl, RX6, false) 0 0 B_L_strike :=
  (ss_seq (pcA := 10) (ss_if (pcT := 8) (pcF := 10) (sc_Fge (pcA := 2) (pcB := 5) (se_iload dL_strike_0 rfl) (se_ald (pcA := 3) (pcB := 4) (se_aload_n dL_strike_2 rfl rfl) (se_iconst dL_strike_3 (by decide +kernel) rfl) dL_strike_4 rfl) dL_strike_5 rfl rfl)
    (ss_retI (pcA := 9) (se_iconst dL_strike_8 (by decide +kernel) rfl) dL_strike_9 rfl) ss_skip)
    (ss_seq (pcA := 25) (ss_if (pcT := 22) (pcF := 25) (sc_Fgt0 (pcB := 19) (se_rem (pcA := 14) (pcB := 18) (se_ald (pcA := 11) (pcB := 13) (se_aload_n dL_strike_10 rfl rfl) (se_iload dL_strike_11 rfl) dL_strike_13 rfl) (se_ald (pcA := 15) (pcB := 17) (se_aload_n dL_strike_14 rfl rfl) (se_iload dL_strike_15 rfl) dL_strike_17 rfl) dL_strike_18 rfl) dL_strike_19 rfl rfl)
    (ss_retI (pcA := 24) (se_bipush dL_strike_22 (by decide +kernel) rfl) dL_strike_24 rfl) ss_skip)
    (ss_seq (pcA := 36) (ss_decI (pcA := 34) (se_div (pcA := 29) (pcB := 33) (se_ald (pcA := 26) (pcB := 28) (se_aload_n dL_strike_25 rfl rfl) (se_iload dL_strike_26 rfl) dL_strike_28 rfl) (se_ald (pcA := 30) (pcB := 32) (se_aload_n dL_strike_29 rfl rfl) (se_iload dL_strike_30 rfl) dL_strike_32 rfl) dL_strike_33 rfl) dL_strike_34 (Nat.le_of_ble_eq_true rfl) rfl)
    (ss_seq (pcA := 42) (ss_ast (pcA := 37) (pcI := 39) (pcB := 41) (se_aload_n dL_strike_36 rfl rfl) (se_iload dL_strike_37 rfl) (se_iload dL_strike_39 rfl) dL_strike_41 rfl)
    (ss_seq (pcA := 50) (ss_astop (pcA := 43) (pcI := 45) (pcD := 46) (pcL := 47) (pcB := 48) (pcO := 49) (se_aload_n dL_strike_42 rfl rfl) (se_iload dL_strike_43 rfl) dL_strike_45 rfl dL_strike_46 rfl (se_iconst dL_strike_47 (by decide +kernel) rfl) (Or.inl ⟨dL_strike_48, rfl⟩) rfl dL_strike_49 rfl)
    (ss_seq (pcA := 57) (ss_callVS (pcA := 54) (index := 34) (sa_cr (pcA := 51) (se_aload_n dL_strike_50 rfl rfl) (sa_cr (pcA := 52) (se_aload_n dL_strike_51 rfl rfl) (sa_ci (pcA := 54) (se_iload dL_strike_52 rfl) sa_nil))) T_L_broke gL_strike_L_broke rfl (by decide +kernel) (Nat.le_of_ble_eq_true rfl) (Nat.le_of_ble_eq_true rfl) (s_LenR (s_LenR (s_LenI s_Len0))) dL_strike_54 rfl)
    (ss_retI (pcA := 59) (se_iload dL_strike_57 rfl) dL_strike_59 rfl)))))))
theorem T_L_strike : sMet vwCl RX6 yL_strike wsL_strike 2 45 M_L_strike := sMet_of rfl (by decide +kernel) rfl rfl (fun h => by cases h) (m_of_run _ _) S_L_strike (m_of_cat _ _ (Nat.le_of_ble_eq_true rfl))
abbrev C_L_isSettled_1 : sCd := (c_cmp i_lt (e_i 3) (e_ald (e_r 1) (e_k (nI 0))))
abbrev W_L_isSettled_1 : sStm :=
  (s_seq (s_setI 2 (e_if (c_and (c_cmp0 i_ne (e_i 2)) (c_cmp0 i_eq (e_rem (e_ald (e_r 0) (e_i 3)) (e_ald (e_r 0) (e_sub (e_i 3) (e_k (nI 1))))))) (e_k (nI 1)) (e_k (nI 0))))
    (s_inc 3 (nI 1)))
def B_L_isSettled : sStm :=
  (s_seq (s_decI 2 (e_k (nI 1)))
    (s_seq (s_blk 3 (s_seq (s_decI 3 (e_k (nI 1)))
    (s_while C_L_isSettled_1 W_L_isSettled_1)))
    (s_retZ (e_i 2))))
def M_L_isSettled : sSem := m_of 2 B_L_isSettled
set_option maxRecDepth 100000 in
set_option maxHeartbeats 4000000 in
theorem S_L_isSettled : sSS (cL_isSettled, wsL_isSettled, RL, (some .boolean), 0, 0, 4, vwCl, RX6, false) 0 0 B_L_isSettled :=
  (ss_seq (pcA := 2) (ss_decI_n (pcA := 1) (se_iconst dL_isSettled_0 (by decide +kernel) rfl) dL_isSettled_1 rfl (Nat.le_of_ble_eq_true rfl) rfl)
    (ss_seq (pcA := 39) (ss_blk (ss_seq (pcA := 4) (ss_decI_n (pcA := 3) (se_iconst dL_isSettled_2 (by decide +kernel) rfl) dL_isSettled_3 rfl (Nat.le_of_ble_eq_true rfl) rfl)
    (ss_while (pcB := 11) (sc_Flt (pcA := 5) (pcB := 8) (se_iload_n dL_isSettled_4 rfl rfl) (se_ald (pcA := 6) (pcB := 7) (se_aload_n dL_isSettled_5 rfl rfl) (se_iconst dL_isSettled_6 (by decide +kernel) rfl) dL_isSettled_7 rfl) dL_isSettled_8 rfl rfl)
    (ss_seq (pcA := 33) (ss_setI_n (pcA := 32) (se_if (pcT := 27) (pcF := 31) (pcG := 28) (sc_and (pcA := 15) (sc_Fne0 (pcB := 12) (se_iload_n dL_isSettled_11 rfl rfl) dL_isSettled_12 rfl rfl) (sc_Feq0 (pcB := 24) (se_rem (pcA := 18) (pcB := 23) (se_ald (pcA := 16) (pcB := 17) (se_aload_n dL_isSettled_15 rfl rfl) (se_iload_n dL_isSettled_16 rfl rfl) dL_isSettled_17 rfl) (se_ald (pcA := 19) (pcB := 22) (se_aload_n dL_isSettled_18 rfl rfl) (se_sub (pcA := 20) (pcB := 21) (se_iload_n dL_isSettled_19 rfl rfl) (se_iconst dL_isSettled_20 (by decide +kernel) rfl) dL_isSettled_21 rfl) dL_isSettled_22 rfl) dL_isSettled_23 rfl) dL_isSettled_24 rfl rfl)) (se_iconst dL_isSettled_27 (by decide +kernel) rfl) dL_isSettled_28 rfl (se_iconst dL_isSettled_31 (by decide +kernel) rfl)) dL_isSettled_32 rfl (Nat.le_of_ble_eq_true rfl) rfl)
    (ss_goto (pcG := 36) (ss_inc dL_isSettled_33 (Nat.le_of_ble_eq_true rfl) (by decide +kernel) rfl) dL_isSettled_36 rfl)))))
    (ss_retZ (pcA := 40) (se_iload_n dL_isSettled_39 rfl rfl) dL_isSettled_40 rfl)))
theorem T_L_isSettled : sMet vwCl RX6 yL_isSettled wsL_isSettled 0 0 M_L_isSettled := sMet_of rfl (by decide +kernel) rfl rfl (fun h => by cases h) (m_of_run _ _) S_L_isSettled (m_of_cat _ _ (Nat.le_of_ble_eq_true rfl))
theorem na_L_settle : Cond.arrayClass .int ∈ wsL_settle := by decide +kernel
abbrev C_L_settle_1 : sCd := (c_cmp i_lt (e_i 3) (e_k (nI 12)))
abbrev W_L_settle_1 : sStm :=
  (s_seq (s_ast (e_r 2) (e_i 3) (e_ald (e_r 0) (e_i 3)))
    (s_inc 3 (nI 1)))
abbrev C_L_settle_2 : sCd := (c_cmp i_lt (e_i 5) (e_k (nI 12)))
abbrev W_L_settle_2 : sStm :=
  (s_seq (s_ast (e_r 0) (e_i 5) (e_ald (e_r 2) (e_i 5)))
    (s_inc 5 (nI 1)))
abbrev C_L_settle_3 : sCd := (c_cmp i_lt (e_i 4) (e_sub (e_ald (e_r 1) (e_k (nI 0))) (e_k (nI 1))))
abbrev W_L_settle_3 : sStm :=
  (s_seq (s_if (c_cmp0 i_lt (e_callI M_L_share (a_cr (e_r 0) (a_cr (e_r 1) (a_ci (e_i 4) a_nil)))))
    (s_seq (s_blk 5 (s_seq (s_decI 5 (e_k (nI 0)))
    (s_while C_L_settle_2 W_L_settle_2)))
    (s_retI (e_k (-3)))) s_skip)
    (s_inc 4 (nI 1)))
abbrev C_L_settle_4 : sCd := (c_not (c_cmp0 i_ne (e_callI M_L_isSettled (a_cr (e_r 0) (a_cr (e_r 1) a_nil)))))
abbrev W_L_settle_4 : sStm :=
  (s_seq (s_blk 4 (s_seq (s_decI 4 (e_k (nI 0)))
    (s_while C_L_settle_3 W_L_settle_3)))
    (s_inc 3 (nI 1)))
def B_L_settle : sStm :=
  (s_seq (s_decR 2 (e_newa (e_k (nI 12))))
    (s_seq (s_blk 3 (s_seq (s_decI 3 (e_k (nI 0)))
    (s_while C_L_settle_1 W_L_settle_1)))
    (s_seq (s_decI 3 (e_k (nI 0)))
    (s_seq (s_while C_L_settle_4 W_L_settle_4)
    (s_retI (e_i 3))))))
def M_L_settle : sSem := m_of 2 B_L_settle
set_option maxRecDepth 100000 in
set_option maxHeartbeats 4000000 in
theorem S_L_settle : sSS (cL_settle, wsL_settle, RL, (some .int), 2, 47, 6, vwCl, RX6, false) 0 0 B_L_settle :=
  (ss_seq (pcA := 5) (ss_decR_n (pcA := 4) (se_newa (pcA := 2) (se_bipush dL_settle_0 (by decide +kernel) rfl) na_L_settle dL_settle_2 rfl) dL_settle_4 rfl (Nat.le_of_ble_eq_true rfl) rfl)
    (ss_seq (pcA := 25) (ss_blk (ss_seq (pcA := 7) (ss_decI_n (pcA := 6) (se_iconst dL_settle_5 (by decide +kernel) rfl) dL_settle_6 rfl (Nat.le_of_ble_eq_true rfl) rfl)
    (ss_while (pcB := 13) (sc_Flt (pcA := 8) (pcB := 10) (se_iload_n dL_settle_7 rfl rfl) (se_bipush dL_settle_8 (by decide +kernel) rfl) dL_settle_10 rfl rfl)
    (ss_seq (pcA := 19) (ss_ast (pcA := 14) (pcI := 15) (pcB := 18) (se_aload_n dL_settle_13 rfl rfl) (se_iload_n dL_settle_14 rfl rfl) (se_ald (pcA := 16) (pcB := 17) (se_aload_n dL_settle_15 rfl rfl) (se_iload_n dL_settle_16 rfl rfl) dL_settle_17 rfl) dL_settle_18 rfl)
    (ss_goto (pcG := 22) (ss_inc dL_settle_19 (Nat.le_of_ble_eq_true rfl) (by decide +kernel) rfl) dL_settle_22 rfl)))))
    (ss_seq (pcA := 27) (ss_decI_n (pcA := 26) (se_iconst dL_settle_25 (by decide +kernel) rfl) dL_settle_26 rfl (Nat.le_of_ble_eq_true rfl) rfl)
    (ss_seq (pcA := 97) (ss_while (pcB := 35) (sc_not (sc_Tne0 (pcB := 32) (se_callSI (pcA := 29) (index := 37) (sa_cr (pcA := 28) (se_aload_n dL_settle_27 rfl rfl) (sa_cr (pcA := 29) (se_aload_n dL_settle_28 rfl rfl) sa_nil)) T_L_isSettled gL_settle_L_isSettled rfl (by decide +kernel) (Nat.le_of_ble_eq_true rfl) (Nat.le_of_ble_eq_true rfl) (s_LenR (s_LenR s_Len0)) (Nat.le_of_ble_eq_true rfl) dL_settle_29 rfl) dL_settle_32 rfl rfl))
    (ss_seq (pcA := 91) (ss_blk (ss_seq (pcA := 38) (ss_decI (pcA := 36) (se_iconst dL_settle_35 (by decide +kernel) rfl) dL_settle_36 (Nat.le_of_ble_eq_true rfl) rfl)
    (ss_while (pcB := 48) (sc_Flt (pcA := 40) (pcB := 45) (se_iload dL_settle_38 rfl) (se_sub (pcA := 43) (pcB := 44) (se_ald (pcA := 41) (pcB := 42) (se_aload_n dL_settle_40 rfl rfl) (se_iconst dL_settle_41 (by decide +kernel) rfl) dL_settle_42 rfl) (se_iconst dL_settle_43 (by decide +kernel) rfl) dL_settle_44 rfl) dL_settle_45 rfl rfl)
    (ss_seq (pcA := 85) (ss_if (pcT := 58) (pcF := 85) (sc_Flt0 (pcB := 55) (se_callSI (pcA := 52) (index := 41) (sa_cr (pcA := 49) (se_aload_n dL_settle_48 rfl rfl) (sa_cr (pcA := 50) (se_aload_n dL_settle_49 rfl rfl) (sa_ci (pcA := 52) (se_iload dL_settle_50 rfl) sa_nil))) T_L_share gL_settle_L_share rfl (by decide +kernel) (Nat.le_of_ble_eq_true rfl) (Nat.le_of_ble_eq_true rfl) (s_LenR (s_LenR (s_LenI s_Len0))) (Nat.le_of_ble_eq_true rfl) dL_settle_52 rfl) dL_settle_55 rfl rfl)
    (ss_seq (pcA := 82) (ss_blk (ss_seq (pcA := 61) (ss_decI (pcA := 59) (se_iconst dL_settle_58 (by decide +kernel) rfl) dL_settle_59 (Nat.le_of_ble_eq_true rfl) rfl)
    (ss_while (pcB := 68) (sc_Flt (pcA := 63) (pcB := 65) (se_iload dL_settle_61 rfl) (se_bipush dL_settle_63 (by decide +kernel) rfl) dL_settle_65 rfl rfl)
    (ss_seq (pcA := 76) (ss_ast (pcA := 69) (pcI := 71) (pcB := 75) (se_aload_n dL_settle_68 rfl rfl) (se_iload dL_settle_69 rfl) (se_ald (pcA := 72) (pcB := 74) (se_aload_n dL_settle_71 rfl rfl) (se_iload dL_settle_72 rfl) dL_settle_74 rfl) dL_settle_75 rfl)
    (ss_goto (pcG := 79) (ss_inc dL_settle_76 (Nat.le_of_ble_eq_true rfl) (by decide +kernel) rfl) dL_settle_79 rfl)))))
    (ss_retI (pcA := 84) (se_bipush dL_settle_82 (by decide +kernel) rfl) dL_settle_84 rfl)) ss_skip)
    (ss_goto (pcG := 88) (ss_inc dL_settle_85 (Nat.le_of_ble_eq_true rfl) (by decide +kernel) rfl) dL_settle_88 rfl)))))
    (ss_goto (pcG := 94) (ss_inc dL_settle_91 (Nat.le_of_ble_eq_true rfl) (by decide +kernel) rfl) dL_settle_94 rfl)))
    (ss_retI (pcA := 98) (se_iload_n dL_settle_97 rfl rfl) dL_settle_98 rfl)))))
theorem T_L_settle : sMet vwCl RX6 yL_settle wsL_settle 2 47 M_L_settle := sMet_of rfl (by decide +kernel) rfl rfl (fun h => by cases h) (m_of_run _ _) S_L_settle (m_of_cat _ _ (Nat.le_of_ble_eq_true rfl))
abbrev C_L_areSteps_1 : sCd := (c_cmp i_lt (e_i 15) (e_mul (e_ald (e_r 2) (e_k (nI 0))) (e_ald (e_r 2) (e_k (nI 0)))))
abbrev W_L_areSteps_1 : sStm :=
  (s_seq (s_setI 13 (e_or (e_i 13) (e_if (c_and (c_cmp i_eq (e_and (e_shr (e_i 13) (e_div (e_i 15) (e_ald (e_r 2) (e_k (nI 0))))) (e_k (nI 1))) (e_k (nI 1))) (c_cmp0 i_ne (e_callI M_L_areKin (a_cr (e_r 1) (a_cr (e_r 2) (a_ci (e_div (e_i 15) (e_ald (e_r 2) (e_k (nI 0)))) (a_ci (e_rem (e_i 15) (e_ald (e_r 2) (e_k (nI 0)))) a_nil))))))) (e_shl (e_k (nI 1)) (e_rem (e_i 15) (e_ald (e_r 2) (e_k (nI 0))))) (e_k (nI 0)))))
    (s_inc 15 (nI 1)))
abbrev C_L_areSteps_2 : sCd := (c_cmp i_lt (e_i 14) (e_ald (e_r 2) (e_k (nI 0))))
abbrev W_L_areSteps_2 : sStm :=
  (s_seq (s_blk 15 (s_seq (s_decI 15 (e_k (nI 0)))
    (s_while C_L_areSteps_1 W_L_areSteps_1)))
    (s_inc 14 (nI 1)))
abbrev C_L_areSteps_3 : sCd := (c_cmp0 i_ge (e_i 16))
abbrev W_L_areSteps_3 : sStm :=
  (s_seq (s_seq (s_setI 11 (e_add (e_i 11) (e_if (c_cmp0 i_ne (e_callI M_L_areKin (a_cr (e_r 1) (a_cr (e_r 2) (a_ci (e_i 10) (a_ci (e_i 16) a_nil)))))) (e_k (nI 1)) (e_k (nI 0)))))
    (s_seq (s_setI 12 (e_add (e_i 12) (e_if (c_and (c_and (c_cmp i_gt (e_i 16) (e_i 10)) (c_cmp i_le (e_i 16) (e_add (e_i 10) (e_ald (e_r 2) (e_k (nI 2)))))) (c_cmp0 i_ne (e_callI M_L_areKin (a_cr (e_r 1) (a_cr (e_r 2) (a_ci (e_i 10) (a_ci (e_i 16) a_nil))))))) (e_k (nI 1)) (e_k (nI 0)))))
    (s_seq (s_setI 14 (e_if (c_cmp i_eq (e_and (e_shr (e_i 13) (e_i 16)) (e_k (nI 1))) (e_k (nI 1))) (e_i 16) (e_i 14)))
    (s_setI 15 (e_add (e_i 15) (e_and (e_shr (e_i 13) (e_i 16)) (e_k (nI 1))))))))
    (s_inc 16 (-1)))
abbrev C_L_areSteps_4 : sCd := (c_and (c_cmp i_lt (e_i 10) (e_ald (e_r 2) (e_k (nI 0)))) (c_cmp0 i_ne (e_i 9)))
abbrev W_L_areSteps_4 : sStm :=
  (s_seq (s_blk 11 (s_seq (s_decI 11 (e_k (nI 0)))
    (s_seq (s_decI 12 (e_k (nI 0)))
    (s_seq (s_decI 13 (e_shl (e_k (nI 1)) (e_i 10)))
    (s_seq (s_blk 14 (s_seq (s_decI 14 (e_k (nI 0)))
    (s_while C_L_areSteps_2 W_L_areSteps_2)))
    (s_seq (s_decI 14 (e_k (nI 12)))
    (s_seq (s_decI 15 (e_k (nI 0)))
    (s_seq (s_blk 16 (s_seq (s_decI 16 (e_sub (e_ald (e_r 2) (e_k (nI 0))) (e_k (nI 1))))
    (s_while C_L_areSteps_3 W_L_areSteps_3)))
    (s_seq (s_setI 3 (e_add (e_i 3) (e_i 11)))
    (s_seq (s_setI 4 (e_add (e_i 4) (e_if (c_cmp i_eq (e_i 14) (e_i 10)) (e_k (nI 1)) (e_k (nI 0)))))
    (s_seq (s_setI 5 (e_if (c_cmp i_gt (e_i 15) (e_i 5)) (e_i 15) (e_i 5)))
    (s_seq (s_setI 7 (e_add (e_i 7) (e_if (c_cmp i_eq (e_ald (e_r 1) (e_i 10)) (e_k (nI 1))) (e_k (nI 1)) (e_k (nI 0)))))
    (s_seq (s_decI 16 (e_if (c_or (c_or (c_cmp0 i_lt (e_i 6)) (c_cmp i_gt (e_i 11) (e_i 8))) (c_and (c_cmp i_eq (e_i 11) (e_i 8)) (c_cmp i_gt (e_ald (e_r 1) (e_i 10)) (e_ald (e_r 1) (e_i 6))))) (e_k (nI 1)) (e_k (nI 0))))
    (s_seq (s_setI 6 (e_if (c_cmp0 i_ne (e_i 16)) (e_i 10) (e_i 6)))
    (s_seq (s_setI 8 (e_if (c_cmp0 i_ne (e_i 16)) (e_i 11) (e_i 8)))
    (s_setI 9 (e_if (c_and (c_and (c_and (c_and (c_cmp i_eq (e_callI M_X8_step (a_cr (e_r 0) (a_ci (e_i 10) (a_ci (e_k (nI 0)) a_nil)))) (e_ald (e_r 1) (e_i 10))) (c_cmp i_eq (e_callI M_X8_step (a_cr (e_r 0) (a_ci (e_i 10) (a_ci (e_k (nI 1)) a_nil)))) (e_i 11))) (c_cmp i_eq (e_callI M_X8_step (a_cr (e_r 0) (a_ci (e_i 10) (a_ci (e_k (nI 2)) a_nil)))) (e_i 14))) (c_cmp i_eq (e_callI M_X8_step (a_cr (e_r 0) (a_ci (e_i 10) (a_ci (e_k (nI 3)) a_nil)))) (e_i 15))) (c_cmp i_eq (e_callI M_X8_step (a_cr (e_r 0) (a_ci (e_i 10) (a_ci (e_k (nI 7)) a_nil)))) (e_i 12))) (e_k (nI 1)) (e_k (nI 0)))))))))))))))))))
    (s_inc 10 (nI 1)))
def B_L_areSteps : sStm :=
  (s_seq (s_decI 3 (e_k (nI 0)))
    (s_seq (s_decI 4 (e_k (nI 0)))
    (s_seq (s_decI 5 (e_k (nI 0)))
    (s_seq (s_decI 6 (e_k (-4)))
    (s_seq (s_decI 7 (e_k (nI 0)))
    (s_seq (s_decI 8 (e_k (nI 0)))
    (s_seq (s_decI 9 (e_if (c_and (c_cmp i_eq (e_callI M_X8_step (a_cr (e_r 0) (a_ci (e_ald (e_r 2) (e_k (nI 0))) (a_ci (e_k (nI 0)) a_nil)))) (e_k (-1))) (c_cmp i_eq (e_callI M_X8_step (a_cr (e_r 0) (a_ci (e_k (-1)) (a_ci (e_k (nI 0)) a_nil)))) (e_k (-1)))) (e_k (nI 1)) (e_k (nI 0))))
    (s_seq (s_blk 10 (s_seq (s_decI 10 (e_k (nI 0)))
    (s_while C_L_areSteps_4 W_L_areSteps_4)))
    (s_retZ (e_if (c_and (c_and (c_and (c_and (c_and (c_and (c_and (c_and (c_and (c_and (c_and (c_cmp0 i_ne (e_i 9)) (c_cmp i_eq (e_callI M_X8_count (a_cr (e_r 0) (a_ci (e_k (nI 0)) a_nil))) (e_ald (e_r 2) (e_k (nI 0))))) (c_cmp i_eq (e_callI M_X8_count (a_cr (e_r 0) (a_ci (e_k (nI 1)) a_nil))) (e_div (e_i 3) (e_k (nI 2))))) (c_cmp i_eq (e_callI M_X8_count (a_cr (e_r 0) (a_ci (e_k (nI 2)) a_nil))) (e_i 4))) (c_cmp i_eq (e_callI M_X8_count (a_cr (e_r 0) (a_ci (e_k (nI 3)) a_nil))) (e_i 5))) (c_cmp i_eq (e_callI M_X8_crown (a_cr (e_r 0) a_nil)) (e_i 6))) (c_cmp i_eq (e_callI M_X8_count (a_cr (e_r 0) (a_ci (e_k (nI 9)) a_nil))) (e_i 7))) (c_cmp i_eq (e_callI M_X8_count (a_cr (e_r 0) (a_ci (e_k (nI 4)) a_nil))) (e_if (c_cmp0 i_ne (e_callI M_L_isSettled (a_cr (e_r 1) (a_cr (e_r 2) a_nil)))) (e_k (nI 1)) (e_k (nI 0))))) (c_cmp i_eq (e_callI M_X8_count (a_cr (e_r 0) (a_ci (e_k (nI 7)) a_nil))) (e_ald (e_r 2) (e_k (nI 3))))) (c_cmp i_eq (e_callI M_X8_count (a_cr (e_r 0) (a_ci (e_k (nI 10)) a_nil))) (e_ald (e_r 2) (e_k (nI 1))))) (c_cmp i_eq (e_callI M_X8_count (a_cr (e_r 0) (a_ci (e_k (nI 11)) a_nil))) (e_ald (e_r 2) (e_k (nI 2))))) (c_deq (e_callD M_X8_mean (a_cr (e_r 0) a_nil)) (e_if (c_cmp0 i_eq (e_ald (e_r 2) (e_k (nI 0)))) e_d0 (e_ddiv (e_i2d (e_i 3)) (e_i2d (e_ald (e_r 2) (e_k (nI 0)))))))) (e_k (nI 1)) (e_k (nI 0))))))))))))
def M_L_areSteps : sSem := m_of 3 B_L_areSteps
set_option maxRecDepth 100000 in
set_option maxHeartbeats 4000000 in
theorem S_L_areSteps : sSS (cL_areSteps, wsL_areSteps, RL, (some .boolean), 6, 139, 17, vwCl, RX6, false) 0 0 B_L_areSteps :=
  (ss_seq (pcA := 2) (ss_decI_n (pcA := 1) (se_iconst dL_areSteps_0 (by decide +kernel) rfl) dL_areSteps_1 rfl (Nat.le_of_ble_eq_true rfl) rfl)
    (ss_seq (pcA := 5) (ss_decI (pcA := 3) (se_iconst dL_areSteps_2 (by decide +kernel) rfl) dL_areSteps_3 (Nat.le_of_ble_eq_true rfl) rfl)
    (ss_seq (pcA := 8) (ss_decI (pcA := 6) (se_iconst dL_areSteps_5 (by decide +kernel) rfl) dL_areSteps_6 (Nat.le_of_ble_eq_true rfl) rfl)
    (ss_seq (pcA := 12) (ss_decI (pcA := 10) (se_bipush dL_areSteps_8 (by decide +kernel) rfl) dL_areSteps_10 (Nat.le_of_ble_eq_true rfl) rfl)
    (ss_seq (pcA := 15) (ss_decI (pcA := 13) (se_iconst dL_areSteps_12 (by decide +kernel) rfl) dL_areSteps_13 (Nat.le_of_ble_eq_true rfl) rfl)
    (ss_seq (pcA := 18) (ss_decI (pcA := 16) (se_iconst dL_areSteps_15 (by decide +kernel) rfl) dL_areSteps_16 (Nat.le_of_ble_eq_true rfl) rfl)
    (ss_seq (pcA := 47) (ss_decI (pcA := 45) (se_if (pcT := 40) (pcF := 44) (pcG := 41) (sc_and (pcA := 30) (sc_Feq (pcA := 26) (pcB := 27) (se_callVI (pcA := 23) (ci := 6) (index := 45) (sa_cr (pcA := 19) (se_aload_n dL_areSteps_18 rfl rfl) (sa_ci (pcA := 22) (se_ald (pcA := 20) (pcB := 21) (se_aload_n dL_areSteps_19 rfl rfl) (se_iconst dL_areSteps_20 (by decide +kernel) rfl) dL_areSteps_21 rfl) (sa_ci (pcA := 23) (se_iconst dL_areSteps_22 (by decide +kernel) rfl) sa_nil))) T_X8_step (s_Rcv_of 6 _ _) rfl gL_areSteps_X8_step rfl (by decide +kernel) (Nat.le_of_ble_eq_true rfl) (Nat.le_of_ble_eq_true rfl) (s_LenR (s_LenI (s_LenI s_Len0))) (Nat.le_of_ble_eq_true rfl) dL_areSteps_23 rfl) (se_iconst dL_areSteps_26 (by decide +kernel) rfl) dL_areSteps_27 rfl rfl) (sc_Feq (pcA := 36) (pcB := 37) (se_callVI (pcA := 33) (ci := 6) (index := 45) (sa_cr (pcA := 31) (se_aload_n dL_areSteps_30 rfl rfl) (sa_ci (pcA := 32) (se_iconst dL_areSteps_31 (by decide +kernel) rfl) (sa_ci (pcA := 33) (se_iconst dL_areSteps_32 (by decide +kernel) rfl) sa_nil))) T_X8_step (s_Rcv_of 6 _ _) rfl gL_areSteps_X8_step rfl (by decide +kernel) (Nat.le_of_ble_eq_true rfl) (Nat.le_of_ble_eq_true rfl) (s_LenR (s_LenI (s_LenI s_Len0))) (Nat.le_of_ble_eq_true rfl) dL_areSteps_33 rfl) (se_iconst dL_areSteps_36 (by decide +kernel) rfl) dL_areSteps_37 rfl rfl)) (se_iconst dL_areSteps_40 (by decide +kernel) rfl) dL_areSteps_41 rfl (se_iconst dL_areSteps_44 (by decide +kernel) rfl)) dL_areSteps_45 (Nat.le_of_ble_eq_true rfl) rfl)
    (ss_seq (pcA := 481) (ss_blk (ss_seq (pcA := 50) (ss_decI (pcA := 48) (se_iconst dL_areSteps_47 (by decide +kernel) rfl) dL_areSteps_48 (Nat.le_of_ble_eq_true rfl) rfl)
    (ss_while (pcB := 63) (sc_and (pcA := 58) (sc_Flt (pcA := 52) (pcB := 55) (se_iload dL_areSteps_50 rfl) (se_ald (pcA := 53) (pcB := 54) (se_aload_n dL_areSteps_52 rfl rfl) (se_iconst dL_areSteps_53 (by decide +kernel) rfl) dL_areSteps_54 rfl) dL_areSteps_55 rfl rfl) (sc_Fne0 (pcB := 60) (se_iload dL_areSteps_58 rfl) dL_areSteps_60 rfl rfl))
    (ss_seq (pcA := 475) (ss_blk (ss_seq (pcA := 66) (ss_decI (pcA := 64) (se_iconst dL_areSteps_63 (by decide +kernel) rfl) dL_areSteps_64 (Nat.le_of_ble_eq_true rfl) rfl)
    (ss_seq (pcA := 69) (ss_decI (pcA := 67) (se_iconst dL_areSteps_66 (by decide +kernel) rfl) dL_areSteps_67 (Nat.le_of_ble_eq_true rfl) rfl)
    (ss_seq (pcA := 75) (ss_decI (pcA := 73) (se_shl (pcA := 70) (pcB := 72) (se_iconst dL_areSteps_69 (by decide +kernel) rfl) (se_iload dL_areSteps_70 rfl) dL_areSteps_72 rfl) dL_areSteps_73 (Nat.le_of_ble_eq_true rfl) rfl)
    (ss_seq (pcA := 165) (ss_blk (ss_seq (pcA := 78) (ss_decI (pcA := 76) (se_iconst dL_areSteps_75 (by decide +kernel) rfl) dL_areSteps_76 (Nat.le_of_ble_eq_true rfl) rfl)
    (ss_while (pcB := 86) (sc_Flt (pcA := 80) (pcB := 83) (se_iload dL_areSteps_78 rfl) (se_ald (pcA := 81) (pcB := 82) (se_aload_n dL_areSteps_80 rfl rfl) (se_iconst dL_areSteps_81 (by decide +kernel) rfl) dL_areSteps_82 rfl) dL_areSteps_83 rfl rfl)
    (ss_seq (pcA := 159) (ss_blk (ss_seq (pcA := 89) (ss_decI (pcA := 87) (se_iconst dL_areSteps_86 (by decide +kernel) rfl) dL_areSteps_87 (Nat.le_of_ble_eq_true rfl) rfl)
    (ss_while (pcB := 101) (sc_Flt (pcA := 91) (pcB := 98) (se_iload dL_areSteps_89 rfl) (se_mul (pcA := 94) (pcB := 97) (se_ald (pcA := 92) (pcB := 93) (se_aload_n dL_areSteps_91 rfl rfl) (se_iconst dL_areSteps_92 (by decide +kernel) rfl) dL_areSteps_93 rfl) (se_ald (pcA := 95) (pcB := 96) (se_aload_n dL_areSteps_94 rfl rfl) (se_iconst dL_areSteps_95 (by decide +kernel) rfl) dL_areSteps_96 rfl) dL_areSteps_97 rfl) dL_areSteps_98 rfl rfl)
    (ss_seq (pcA := 153) (ss_setI (pcA := 151) (se_or (pcA := 103) (pcB := 150) (se_iload dL_areSteps_101 rfl) (se_if (pcT := 138) (pcF := 149) (pcG := 146) (sc_and (pcA := 118) (sc_Feq (pcA := 114) (pcB := 115) (se_and (pcA := 112) (pcB := 113) (se_shr (pcA := 105) (pcB := 111) (se_iload dL_areSteps_103 rfl) (se_div (pcA := 107) (pcB := 110) (se_iload dL_areSteps_105 rfl) (se_ald (pcA := 108) (pcB := 109) (se_aload_n dL_areSteps_107 rfl rfl) (se_iconst dL_areSteps_108 (by decide +kernel) rfl) dL_areSteps_109 rfl) dL_areSteps_110 rfl) dL_areSteps_111 rfl) (se_iconst dL_areSteps_112 (by decide +kernel) rfl) dL_areSteps_113 rfl) (se_iconst dL_areSteps_114 (by decide +kernel) rfl) dL_areSteps_115 rfl rfl) (sc_Fne0 (pcB := 135) (se_callSI (pcA := 132) (index := 50) (sa_cr (pcA := 119) (se_aload_n dL_areSteps_118 rfl rfl) (sa_cr (pcA := 120) (se_aload_n dL_areSteps_119 rfl rfl) (sa_ci (pcA := 126) (se_div (pcA := 122) (pcB := 125) (se_iload dL_areSteps_120 rfl) (se_ald (pcA := 123) (pcB := 124) (se_aload_n dL_areSteps_122 rfl rfl) (se_iconst dL_areSteps_123 (by decide +kernel) rfl) dL_areSteps_124 rfl) dL_areSteps_125 rfl) (sa_ci (pcA := 132) (se_rem (pcA := 128) (pcB := 131) (se_iload dL_areSteps_126 rfl) (se_ald (pcA := 129) (pcB := 130) (se_aload_n dL_areSteps_128 rfl rfl) (se_iconst dL_areSteps_129 (by decide +kernel) rfl) dL_areSteps_130 rfl) dL_areSteps_131 rfl) sa_nil)))) T_L_areKin gL_areSteps_L_areKin rfl (by decide +kernel) (Nat.le_of_ble_eq_true rfl) (Nat.le_of_ble_eq_true rfl) (s_LenR (s_LenR (s_LenI (s_LenI s_Len0)))) (Nat.le_of_ble_eq_true rfl) dL_areSteps_132 rfl) dL_areSteps_135 rfl rfl)) (se_shl (pcA := 139) (pcB := 145) (se_iconst dL_areSteps_138 (by decide +kernel) rfl) (se_rem (pcA := 141) (pcB := 144) (se_iload dL_areSteps_139 rfl) (se_ald (pcA := 142) (pcB := 143) (se_aload_n dL_areSteps_141 rfl rfl) (se_iconst dL_areSteps_142 (by decide +kernel) rfl) dL_areSteps_143 rfl) dL_areSteps_144 rfl) dL_areSteps_145 rfl) dL_areSteps_146 rfl (se_iconst dL_areSteps_149 (by decide +kernel) rfl)) dL_areSteps_150 rfl) dL_areSteps_151 (Nat.le_of_ble_eq_true rfl) rfl)
    (ss_goto (pcG := 156) (ss_inc dL_areSteps_153 (Nat.le_of_ble_eq_true rfl) (by decide +kernel) rfl) dL_areSteps_156 rfl)))))
    (ss_goto (pcG := 162) (ss_inc dL_areSteps_159 (Nat.le_of_ble_eq_true rfl) (by decide +kernel) rfl) dL_areSteps_162 rfl)))))
    (ss_seq (pcA := 169) (ss_decI (pcA := 167) (se_bipush dL_areSteps_165 (by decide +kernel) rfl) dL_areSteps_167 (Nat.le_of_ble_eq_true rfl) rfl)
    (ss_seq (pcA := 172) (ss_decI (pcA := 170) (se_iconst dL_areSteps_169 (by decide +kernel) rfl) dL_areSteps_170 (Nat.le_of_ble_eq_true rfl) rfl)
    (ss_seq (pcA := 284) (ss_blk (ss_seq (pcA := 179) (ss_decI (pcA := 177) (se_sub (pcA := 175) (pcB := 176) (se_ald (pcA := 173) (pcB := 174) (se_aload_n dL_areSteps_172 rfl rfl) (se_iconst dL_areSteps_173 (by decide +kernel) rfl) dL_areSteps_174 rfl) (se_iconst dL_areSteps_175 (by decide +kernel) rfl) dL_areSteps_176 rfl) dL_areSteps_177 (Nat.le_of_ble_eq_true rfl) rfl)
    (ss_while (pcB := 184) (sc_Fge0 (pcB := 181) (se_iload dL_areSteps_179 rfl) dL_areSteps_181 rfl rfl)
    (ss_seq (pcA := 278) (ss_seq (pcA := 206) (ss_setI (pcA := 204) (se_add (pcA := 186) (pcB := 203) (se_iload dL_areSteps_184 rfl) (se_if (pcT := 198) (pcF := 202) (pcG := 199) (sc_Fne0 (pcB := 195) (se_callSI (pcA := 192) (index := 50) (sa_cr (pcA := 187) (se_aload_n dL_areSteps_186 rfl rfl) (sa_cr (pcA := 188) (se_aload_n dL_areSteps_187 rfl rfl) (sa_ci (pcA := 190) (se_iload dL_areSteps_188 rfl) (sa_ci (pcA := 192) (se_iload dL_areSteps_190 rfl) sa_nil)))) T_L_areKin gL_areSteps_L_areKin rfl (by decide +kernel) (Nat.le_of_ble_eq_true rfl) (Nat.le_of_ble_eq_true rfl) (s_LenR (s_LenR (s_LenI (s_LenI s_Len0)))) (Nat.le_of_ble_eq_true rfl) dL_areSteps_192 rfl) dL_areSteps_195 rfl rfl) (se_iconst dL_areSteps_198 (by decide +kernel) rfl) dL_areSteps_199 rfl (se_iconst dL_areSteps_202 (by decide +kernel) rfl)) dL_areSteps_203 rfl) dL_areSteps_204 (Nat.le_of_ble_eq_true rfl) rfl)
    (ss_seq (pcA := 246) (ss_setI (pcA := 244) (se_add (pcA := 208) (pcB := 243) (se_iload dL_areSteps_206 rfl) (se_if (pcT := 238) (pcF := 242) (pcG := 239) (sc_and (pcA := 226) (sc_and (pcA := 215) (sc_Fgt (pcA := 210) (pcB := 212) (se_iload dL_areSteps_208 rfl) (se_iload dL_areSteps_210 rfl) dL_areSteps_212 rfl rfl) (sc_Fle (pcA := 217) (pcB := 223) (se_iload dL_areSteps_215 rfl) (se_add (pcA := 219) (pcB := 222) (se_iload dL_areSteps_217 rfl) (se_ald (pcA := 220) (pcB := 221) (se_aload_n dL_areSteps_219 rfl rfl) (se_iconst dL_areSteps_220 (by decide +kernel) rfl) dL_areSteps_221 rfl) dL_areSteps_222 rfl) dL_areSteps_223 rfl rfl)) (sc_Fne0 (pcB := 235) (se_callSI (pcA := 232) (index := 50) (sa_cr (pcA := 227) (se_aload_n dL_areSteps_226 rfl rfl) (sa_cr (pcA := 228) (se_aload_n dL_areSteps_227 rfl rfl) (sa_ci (pcA := 230) (se_iload dL_areSteps_228 rfl) (sa_ci (pcA := 232) (se_iload dL_areSteps_230 rfl) sa_nil)))) T_L_areKin gL_areSteps_L_areKin rfl (by decide +kernel) (Nat.le_of_ble_eq_true rfl) (Nat.le_of_ble_eq_true rfl) (s_LenR (s_LenR (s_LenI (s_LenI s_Len0)))) (Nat.le_of_ble_eq_true rfl) dL_areSteps_232 rfl) dL_areSteps_235 rfl rfl)) (se_iconst dL_areSteps_238 (by decide +kernel) rfl) dL_areSteps_239 rfl (se_iconst dL_areSteps_242 (by decide +kernel) rfl)) dL_areSteps_243 rfl) dL_areSteps_244 (Nat.le_of_ble_eq_true rfl) rfl)
    (ss_seq (pcA := 266) (ss_setI (pcA := 264) (se_if (pcT := 257) (pcF := 262) (pcG := 259) (sc_Feq (pcA := 253) (pcB := 254) (se_and (pcA := 251) (pcB := 252) (se_shr (pcA := 248) (pcB := 250) (se_iload dL_areSteps_246 rfl) (se_iload dL_areSteps_248 rfl) dL_areSteps_250 rfl) (se_iconst dL_areSteps_251 (by decide +kernel) rfl) dL_areSteps_252 rfl) (se_iconst dL_areSteps_253 (by decide +kernel) rfl) dL_areSteps_254 rfl rfl) (se_iload dL_areSteps_257 rfl) dL_areSteps_259 rfl (se_iload dL_areSteps_262 rfl)) dL_areSteps_264 (Nat.le_of_ble_eq_true rfl) rfl)
    (ss_setI (pcA := 276) (se_add (pcA := 268) (pcB := 275) (se_iload dL_areSteps_266 rfl) (se_and (pcA := 273) (pcB := 274) (se_shr (pcA := 270) (pcB := 272) (se_iload dL_areSteps_268 rfl) (se_iload dL_areSteps_270 rfl) dL_areSteps_272 rfl) (se_iconst dL_areSteps_273 (by decide +kernel) rfl) dL_areSteps_274 rfl) dL_areSteps_275 rfl) dL_areSteps_276 (Nat.le_of_ble_eq_true rfl) rfl))))
    (ss_goto (pcG := 281) (ss_inc dL_areSteps_278 (Nat.le_of_ble_eq_true rfl) (by decide +kernel) rfl) dL_areSteps_281 rfl)))))
    (ss_seq (pcA := 289) (ss_setI_n (pcA := 288) (se_add (pcA := 285) (pcB := 287) (se_iload_n dL_areSteps_284 rfl rfl) (se_iload dL_areSteps_285 rfl) dL_areSteps_287 rfl) dL_areSteps_288 rfl (Nat.le_of_ble_eq_true rfl) rfl)
    (ss_seq (pcA := 306) (ss_setI (pcA := 304) (se_add (pcA := 291) (pcB := 303) (se_iload dL_areSteps_289 rfl) (se_if (pcT := 298) (pcF := 302) (pcG := 299) (sc_Feq (pcA := 293) (pcB := 295) (se_iload dL_areSteps_291 rfl) (se_iload dL_areSteps_293 rfl) dL_areSteps_295 rfl rfl) (se_iconst dL_areSteps_298 (by decide +kernel) rfl) dL_areSteps_299 rfl (se_iconst dL_areSteps_302 (by decide +kernel) rfl)) dL_areSteps_303 rfl) dL_areSteps_304 (Nat.le_of_ble_eq_true rfl) rfl)
    (ss_seq (pcA := 322) (ss_setI (pcA := 320) (se_if (pcT := 313) (pcF := 318) (pcG := 315) (sc_Fgt (pcA := 308) (pcB := 310) (se_iload dL_areSteps_306 rfl) (se_iload dL_areSteps_308 rfl) dL_areSteps_310 rfl rfl) (se_iload dL_areSteps_313 rfl) dL_areSteps_315 rfl (se_iload dL_areSteps_318 rfl)) dL_areSteps_320 (Nat.le_of_ble_eq_true rfl) rfl)
    (ss_seq (pcA := 340) (ss_setI (pcA := 338) (se_add (pcA := 324) (pcB := 337) (se_iload dL_areSteps_322 rfl) (se_if (pcT := 332) (pcF := 336) (pcG := 333) (sc_Feq (pcA := 328) (pcB := 329) (se_ald (pcA := 325) (pcB := 327) (se_aload_n dL_areSteps_324 rfl rfl) (se_iload dL_areSteps_325 rfl) dL_areSteps_327 rfl) (se_iconst dL_areSteps_328 (by decide +kernel) rfl) dL_areSteps_329 rfl rfl) (se_iconst dL_areSteps_332 (by decide +kernel) rfl) dL_areSteps_333 rfl (se_iconst dL_areSteps_336 (by decide +kernel) rfl)) dL_areSteps_337 rfl) dL_areSteps_338 (Nat.le_of_ble_eq_true rfl) rfl)
    (ss_seq (pcA := 377) (ss_decI (pcA := 375) (se_if (pcT := 370) (pcF := 374) (pcG := 371) (sc_or (pcA := 352) (sc_or (pcA := 345) (sc_Tlt0 (pcB := 342) (se_iload dL_areSteps_340 rfl) dL_areSteps_342 rfl rfl) (sc_Tgt (pcA := 347) (pcB := 349) (se_iload dL_areSteps_345 rfl) (se_iload dL_areSteps_347 rfl) dL_areSteps_349 rfl rfl)) (sc_and (pcA := 359) (sc_Feq (pcA := 354) (pcB := 356) (se_iload dL_areSteps_352 rfl) (se_iload dL_areSteps_354 rfl) dL_areSteps_356 rfl rfl) (sc_Fgt (pcA := 363) (pcB := 367) (se_ald (pcA := 360) (pcB := 362) (se_aload_n dL_areSteps_359 rfl rfl) (se_iload dL_areSteps_360 rfl) dL_areSteps_362 rfl) (se_ald (pcA := 364) (pcB := 366) (se_aload_n dL_areSteps_363 rfl rfl) (se_iload dL_areSteps_364 rfl) dL_areSteps_366 rfl) dL_areSteps_367 rfl rfl))) (se_iconst dL_areSteps_370 (by decide +kernel) rfl) dL_areSteps_371 rfl (se_iconst dL_areSteps_374 (by decide +kernel) rfl)) dL_areSteps_375 (Nat.le_of_ble_eq_true rfl) rfl)
    (ss_seq (pcA := 391) (ss_setI (pcA := 389) (se_if (pcT := 382) (pcF := 387) (pcG := 384) (sc_Fne0 (pcB := 379) (se_iload dL_areSteps_377 rfl) dL_areSteps_379 rfl rfl) (se_iload dL_areSteps_382 rfl) dL_areSteps_384 rfl (se_iload dL_areSteps_387 rfl)) dL_areSteps_389 (Nat.le_of_ble_eq_true rfl) rfl)
    (ss_seq (pcA := 405) (ss_setI (pcA := 403) (se_if (pcT := 396) (pcF := 401) (pcG := 398) (sc_Fne0 (pcB := 393) (se_iload dL_areSteps_391 rfl) dL_areSteps_393 rfl rfl) (se_iload dL_areSteps_396 rfl) dL_areSteps_398 rfl (se_iload dL_areSteps_401 rfl)) dL_areSteps_403 (Nat.le_of_ble_eq_true rfl) rfl)
    (ss_setI (pcA := 473) (se_if (pcT := 468) (pcF := 472) (pcG := 469) (sc_and (pcA := 455) (sc_and (pcA := 443) (sc_and (pcA := 431) (sc_and (pcA := 419) (sc_Feq (pcA := 412) (pcB := 416) (se_callVI (pcA := 409) (ci := 6) (index := 45) (sa_cr (pcA := 406) (se_aload_n dL_areSteps_405 rfl rfl) (sa_ci (pcA := 408) (se_iload dL_areSteps_406 rfl) (sa_ci (pcA := 409) (se_iconst dL_areSteps_408 (by decide +kernel) rfl) sa_nil))) T_X8_step (s_Rcv_of 6 _ _) rfl gL_areSteps_X8_step rfl (by decide +kernel) (Nat.le_of_ble_eq_true rfl) (Nat.le_of_ble_eq_true rfl) (s_LenR (s_LenI (s_LenI s_Len0))) (Nat.le_of_ble_eq_true rfl) dL_areSteps_409 rfl) (se_ald (pcA := 413) (pcB := 415) (se_aload_n dL_areSteps_412 rfl rfl) (se_iload dL_areSteps_413 rfl) dL_areSteps_415 rfl) dL_areSteps_416 rfl rfl) (sc_Feq (pcA := 426) (pcB := 428) (se_callVI (pcA := 423) (ci := 6) (index := 45) (sa_cr (pcA := 420) (se_aload_n dL_areSteps_419 rfl rfl) (sa_ci (pcA := 422) (se_iload dL_areSteps_420 rfl) (sa_ci (pcA := 423) (se_iconst dL_areSteps_422 (by decide +kernel) rfl) sa_nil))) T_X8_step (s_Rcv_of 6 _ _) rfl gL_areSteps_X8_step rfl (by decide +kernel) (Nat.le_of_ble_eq_true rfl) (Nat.le_of_ble_eq_true rfl) (s_LenR (s_LenI (s_LenI s_Len0))) (Nat.le_of_ble_eq_true rfl) dL_areSteps_423 rfl) (se_iload dL_areSteps_426 rfl) dL_areSteps_428 rfl rfl)) (sc_Feq (pcA := 438) (pcB := 440) (se_callVI (pcA := 435) (ci := 6) (index := 45) (sa_cr (pcA := 432) (se_aload_n dL_areSteps_431 rfl rfl) (sa_ci (pcA := 434) (se_iload dL_areSteps_432 rfl) (sa_ci (pcA := 435) (se_iconst dL_areSteps_434 (by decide +kernel) rfl) sa_nil))) T_X8_step (s_Rcv_of 6 _ _) rfl gL_areSteps_X8_step rfl (by decide +kernel) (Nat.le_of_ble_eq_true rfl) (Nat.le_of_ble_eq_true rfl) (s_LenR (s_LenI (s_LenI s_Len0))) (Nat.le_of_ble_eq_true rfl) dL_areSteps_435 rfl) (se_iload dL_areSteps_438 rfl) dL_areSteps_440 rfl rfl)) (sc_Feq (pcA := 450) (pcB := 452) (se_callVI (pcA := 447) (ci := 6) (index := 45) (sa_cr (pcA := 444) (se_aload_n dL_areSteps_443 rfl rfl) (sa_ci (pcA := 446) (se_iload dL_areSteps_444 rfl) (sa_ci (pcA := 447) (se_iconst dL_areSteps_446 (by decide +kernel) rfl) sa_nil))) T_X8_step (s_Rcv_of 6 _ _) rfl gL_areSteps_X8_step rfl (by decide +kernel) (Nat.le_of_ble_eq_true rfl) (Nat.le_of_ble_eq_true rfl) (s_LenR (s_LenI (s_LenI s_Len0))) (Nat.le_of_ble_eq_true rfl) dL_areSteps_447 rfl) (se_iload dL_areSteps_450 rfl) dL_areSteps_452 rfl rfl)) (sc_Feq (pcA := 463) (pcB := 465) (se_callVI (pcA := 460) (ci := 6) (index := 45) (sa_cr (pcA := 456) (se_aload_n dL_areSteps_455 rfl rfl) (sa_ci (pcA := 458) (se_iload dL_areSteps_456 rfl) (sa_ci (pcA := 460) (se_bipush dL_areSteps_458 (by decide +kernel) rfl) sa_nil))) T_X8_step (s_Rcv_of 6 _ _) rfl gL_areSteps_X8_step rfl (by decide +kernel) (Nat.le_of_ble_eq_true rfl) (Nat.le_of_ble_eq_true rfl) (s_LenR (s_LenI (s_LenI s_Len0))) (Nat.le_of_ble_eq_true rfl) dL_areSteps_460 rfl) (se_iload dL_areSteps_463 rfl) dL_areSteps_465 rfl rfl)) (se_iconst dL_areSteps_468 (by decide +kernel) rfl) dL_areSteps_469 rfl (se_iconst dL_areSteps_472 (by decide +kernel) rfl)) dL_areSteps_473 (Nat.le_of_ble_eq_true rfl) rfl))))))))))))))))
    (ss_goto (pcG := 478) (ss_inc dL_areSteps_475 (Nat.le_of_ble_eq_true rfl) (by decide +kernel) rfl) dL_areSteps_478 rfl)))))
    (ss_retZ (pcA := 635) (se_if (pcT := 630) (pcF := 634) (pcG := 631) (sc_and (pcA := 605) (sc_and (pcA := 593) (sc_and (pcA := 581) (sc_and (pcA := 569) (sc_and (pcA := 548) (sc_and (pcA := 537) (sc_and (pcA := 528) (sc_and (pcA := 518) (sc_and (pcA := 508) (sc_and (pcA := 497) (sc_and (pcA := 486) (sc_Fne0 (pcB := 483) (se_iload dL_areSteps_481 rfl) dL_areSteps_483 rfl rfl) (sc_Feq (pcA := 491) (pcB := 494) (se_callVI (pcA := 488) (ci := 6) (index := 53) (sa_cr (pcA := 487) (se_aload_n dL_areSteps_486 rfl rfl) (sa_ci (pcA := 488) (se_iconst dL_areSteps_487 (by decide +kernel) rfl) sa_nil)) T_X8_count (s_Rcv_of 6 _ _) rfl gL_areSteps_X8_count rfl (by decide +kernel) (Nat.le_of_ble_eq_true rfl) (Nat.le_of_ble_eq_true rfl) (s_LenR (s_LenI s_Len0)) (Nat.le_of_ble_eq_true rfl) dL_areSteps_488 rfl) (se_ald (pcA := 492) (pcB := 493) (se_aload_n dL_areSteps_491 rfl rfl) (se_iconst dL_areSteps_492 (by decide +kernel) rfl) dL_areSteps_493 rfl) dL_areSteps_494 rfl rfl)) (sc_Feq (pcA := 502) (pcB := 505) (se_callVI (pcA := 499) (ci := 6) (index := 53) (sa_cr (pcA := 498) (se_aload_n dL_areSteps_497 rfl rfl) (sa_ci (pcA := 499) (se_iconst dL_areSteps_498 (by decide +kernel) rfl) sa_nil)) T_X8_count (s_Rcv_of 6 _ _) rfl gL_areSteps_X8_count rfl (by decide +kernel) (Nat.le_of_ble_eq_true rfl) (Nat.le_of_ble_eq_true rfl) (s_LenR (s_LenI s_Len0)) (Nat.le_of_ble_eq_true rfl) dL_areSteps_499 rfl) (se_div (pcA := 503) (pcB := 504) (se_iload_n dL_areSteps_502 rfl rfl) (se_iconst dL_areSteps_503 (by decide +kernel) rfl) dL_areSteps_504 rfl) dL_areSteps_505 rfl rfl)) (sc_Feq (pcA := 513) (pcB := 515) (se_callVI (pcA := 510) (ci := 6) (index := 53) (sa_cr (pcA := 509) (se_aload_n dL_areSteps_508 rfl rfl) (sa_ci (pcA := 510) (se_iconst dL_areSteps_509 (by decide +kernel) rfl) sa_nil)) T_X8_count (s_Rcv_of 6 _ _) rfl gL_areSteps_X8_count rfl (by decide +kernel) (Nat.le_of_ble_eq_true rfl) (Nat.le_of_ble_eq_true rfl) (s_LenR (s_LenI s_Len0)) (Nat.le_of_ble_eq_true rfl) dL_areSteps_510 rfl) (se_iload dL_areSteps_513 rfl) dL_areSteps_515 rfl rfl)) (sc_Feq (pcA := 523) (pcB := 525) (se_callVI (pcA := 520) (ci := 6) (index := 53) (sa_cr (pcA := 519) (se_aload_n dL_areSteps_518 rfl rfl) (sa_ci (pcA := 520) (se_iconst dL_areSteps_519 (by decide +kernel) rfl) sa_nil)) T_X8_count (s_Rcv_of 6 _ _) rfl gL_areSteps_X8_count rfl (by decide +kernel) (Nat.le_of_ble_eq_true rfl) (Nat.le_of_ble_eq_true rfl) (s_LenR (s_LenI s_Len0)) (Nat.le_of_ble_eq_true rfl) dL_areSteps_520 rfl) (se_iload dL_areSteps_523 rfl) dL_areSteps_525 rfl rfl)) (sc_Feq (pcA := 532) (pcB := 534) (se_callVI (pcA := 529) (ci := 6) (index := 57) (sa_cr (pcA := 529) (se_aload_n dL_areSteps_528 rfl rfl) sa_nil) T_X8_crown (s_Rcv_of 6 _ _) rfl gL_areSteps_X8_crown rfl (by decide +kernel) (Nat.le_of_ble_eq_true rfl) (Nat.le_of_ble_eq_true rfl) (s_LenR s_Len0) (Nat.le_of_ble_eq_true rfl) dL_areSteps_529 rfl) (se_iload dL_areSteps_532 rfl) dL_areSteps_534 rfl rfl)) (sc_Feq (pcA := 543) (pcB := 545) (se_callVI (pcA := 540) (ci := 6) (index := 53) (sa_cr (pcA := 538) (se_aload_n dL_areSteps_537 rfl rfl) (sa_ci (pcA := 540) (se_bipush dL_areSteps_538 (by decide +kernel) rfl) sa_nil)) T_X8_count (s_Rcv_of 6 _ _) rfl gL_areSteps_X8_count rfl (by decide +kernel) (Nat.le_of_ble_eq_true rfl) (Nat.le_of_ble_eq_true rfl) (s_LenR (s_LenI s_Len0)) (Nat.le_of_ble_eq_true rfl) dL_areSteps_540 rfl) (se_iload dL_areSteps_543 rfl) dL_areSteps_545 rfl rfl)) (sc_Feq (pcA := 553) (pcB := 566) (se_callVI (pcA := 550) (ci := 6) (index := 53) (sa_cr (pcA := 549) (se_aload_n dL_areSteps_548 rfl rfl) (sa_ci (pcA := 550) (se_iconst dL_areSteps_549 (by decide +kernel) rfl) sa_nil)) T_X8_count (s_Rcv_of 6 _ _) rfl gL_areSteps_X8_count rfl (by decide +kernel) (Nat.le_of_ble_eq_true rfl) (Nat.le_of_ble_eq_true rfl) (s_LenR (s_LenI s_Len0)) (Nat.le_of_ble_eq_true rfl) dL_areSteps_550 rfl) (se_if (pcT := 561) (pcF := 565) (pcG := 562) (sc_Fne0 (pcB := 558) (se_callSI (pcA := 555) (index := 37) (sa_cr (pcA := 554) (se_aload_n dL_areSteps_553 rfl rfl) (sa_cr (pcA := 555) (se_aload_n dL_areSteps_554 rfl rfl) sa_nil)) T_L_isSettled gL_areSteps_L_isSettled rfl (by decide +kernel) (Nat.le_of_ble_eq_true rfl) (Nat.le_of_ble_eq_true rfl) (s_LenR (s_LenR s_Len0)) (Nat.le_of_ble_eq_true rfl) dL_areSteps_555 rfl) dL_areSteps_558 rfl rfl) (se_iconst dL_areSteps_561 (by decide +kernel) rfl) dL_areSteps_562 rfl (se_iconst dL_areSteps_565 (by decide +kernel) rfl)) dL_areSteps_566 rfl rfl)) (sc_Feq (pcA := 575) (pcB := 578) (se_callVI (pcA := 572) (ci := 6) (index := 53) (sa_cr (pcA := 570) (se_aload_n dL_areSteps_569 rfl rfl) (sa_ci (pcA := 572) (se_bipush dL_areSteps_570 (by decide +kernel) rfl) sa_nil)) T_X8_count (s_Rcv_of 6 _ _) rfl gL_areSteps_X8_count rfl (by decide +kernel) (Nat.le_of_ble_eq_true rfl) (Nat.le_of_ble_eq_true rfl) (s_LenR (s_LenI s_Len0)) (Nat.le_of_ble_eq_true rfl) dL_areSteps_572 rfl) (se_ald (pcA := 576) (pcB := 577) (se_aload_n dL_areSteps_575 rfl rfl) (se_iconst dL_areSteps_576 (by decide +kernel) rfl) dL_areSteps_577 rfl) dL_areSteps_578 rfl rfl)) (sc_Feq (pcA := 587) (pcB := 590) (se_callVI (pcA := 584) (ci := 6) (index := 53) (sa_cr (pcA := 582) (se_aload_n dL_areSteps_581 rfl rfl) (sa_ci (pcA := 584) (se_bipush dL_areSteps_582 (by decide +kernel) rfl) sa_nil)) T_X8_count (s_Rcv_of 6 _ _) rfl gL_areSteps_X8_count rfl (by decide +kernel) (Nat.le_of_ble_eq_true rfl) (Nat.le_of_ble_eq_true rfl) (s_LenR (s_LenI s_Len0)) (Nat.le_of_ble_eq_true rfl) dL_areSteps_584 rfl) (se_ald (pcA := 588) (pcB := 589) (se_aload_n dL_areSteps_587 rfl rfl) (se_iconst dL_areSteps_588 (by decide +kernel) rfl) dL_areSteps_589 rfl) dL_areSteps_590 rfl rfl)) (sc_Feq (pcA := 599) (pcB := 602) (se_callVI (pcA := 596) (ci := 6) (index := 53) (sa_cr (pcA := 594) (se_aload_n dL_areSteps_593 rfl rfl) (sa_ci (pcA := 596) (se_bipush dL_areSteps_594 (by decide +kernel) rfl) sa_nil)) T_X8_count (s_Rcv_of 6 _ _) rfl gL_areSteps_X8_count rfl (by decide +kernel) (Nat.le_of_ble_eq_true rfl) (Nat.le_of_ble_eq_true rfl) (s_LenR (s_LenI s_Len0)) (Nat.le_of_ble_eq_true rfl) dL_areSteps_596 rfl) (se_ald (pcA := 600) (pcB := 601) (se_aload_n dL_areSteps_599 rfl rfl) (se_iconst dL_areSteps_600 (by decide +kernel) rfl) dL_areSteps_601 rfl) dL_areSteps_602 rfl rfl)) (sc_Fdeq (pcA := 609) (pcB := 626) (pcC := 627) (se_callVD (pcA := 606) (ci := 6) (index := 61) (sa_cr (pcA := 606) (se_aload_n dL_areSteps_605 rfl rfl) sa_nil) T_X8_mean (s_Rcv_of 6 _ _) rfl gL_areSteps_X8_mean rfl (by decide +kernel) (Nat.le_of_ble_eq_true rfl) (Nat.le_of_ble_eq_true rfl) (s_LenR s_Len0) (Nat.le_of_ble_eq_true rfl) dL_areSteps_606 rfl) (se_if (pcT := 615) (pcF := 619) (pcG := 616) (sc_Feq0 (pcB := 612) (se_ald (pcA := 610) (pcB := 611) (se_aload_n dL_areSteps_609 rfl rfl) (se_iconst dL_areSteps_610 (by decide +kernel) rfl) dL_areSteps_611 rfl) dL_areSteps_612 rfl rfl) (se_d0 dL_areSteps_615 rfl) dL_areSteps_616 rfl (se_ddiv (pcA := 621) (pcB := 625) (se_i2d (pcA := 620) (se_iload_n dL_areSteps_619 rfl rfl) dL_areSteps_620 rfl) (se_i2d (pcA := 624) (se_ald (pcA := 622) (pcB := 623) (se_aload_n dL_areSteps_621 rfl rfl) (se_iconst dL_areSteps_622 (by decide +kernel) rfl) dL_areSteps_623 rfl) dL_areSteps_624 rfl) dL_areSteps_625 rfl)) dL_areSteps_626 rfl dL_areSteps_627 rfl rfl)) (se_iconst dL_areSteps_630 (by decide +kernel) rfl) dL_areSteps_631 rfl (se_iconst dL_areSteps_634 (by decide +kernel) rfl)) dL_areSteps_635 rfl)))))))))
theorem T_L_areSteps : sMet vwCl RX6 yL_areSteps wsL_areSteps 6 139 M_L_areSteps := sMet_of rfl (by decide +kernel) rfl rfl (fun h => by cases h) (m_of_run _ _) S_L_areSteps (m_of_cat _ _ (Nat.le_of_ble_eq_true rfl))
abbrev C_L_areFactors_1 : sCd := (c_cmp i_lt (e_i 11) (e_i 10))
abbrev W_L_areFactors_1 : sStm :=
  (s_seq (s_seq (s_setI 4 (e_if (c_and (c_cmp0 i_ne (e_i 4)) (c_cmp i_eq (e_callI M_X8_factor (a_cr (e_r 0) (a_ci (e_i 5) (a_ci (e_i 6) a_nil)))) (e_ald (e_r 3) (e_i 9)))) (e_k (nI 1)) (e_k (nI 0))))
    (s_seq (s_setI 8 (e_ald (e_r 3) (e_i 9)))
    (s_inc 6 (nI 1))))
    (s_inc 11 (nI 1)))
abbrev C_L_areFactors_2 : sCd := (c_cmp i_lt (e_i 9) (e_k (nI 25)))
abbrev W_L_areFactors_2 : sStm :=
  (s_seq (s_blk 10 (s_seq (s_decI 10 (e_callI M_L_exponent (a_ci (e_ald (e_r 1) (e_i 5)) (a_ci (e_ald (e_r 3) (e_i 9)) a_nil))))
    (s_seq (s_setI 7 (e_add (e_i 7) (e_if (c_cmp0 i_gt (e_i 10)) (e_k (nI 1)) (e_k (nI 0)))))
    (s_blk 11 (s_seq (s_decI 11 (e_k (nI 0)))
    (s_while C_L_areFactors_1 W_L_areFactors_1))))))
    (s_inc 9 (nI 1)))
abbrev C_L_areFactors_3 : sCd := (c_and (c_cmp i_lt (e_i 9) (e_ald (e_r 2) (e_k (nI 0)))) (c_cmp0 i_ne (e_i 4)))
abbrev W_L_areFactors_3 : sStm :=
  (s_seq (s_setI 4 (e_if (c_and (c_cmp i_eq (e_callI M_X8_common (a_cr (e_r 0) (a_ci (e_i 5) (a_ci (e_i 9) (a_ci (e_k (nI 0)) a_nil))))) (e_callI M_L_common (a_ci (e_ald (e_r 1) (e_i 5)) (a_ci (e_ald (e_r 1) (e_i 9)) a_nil)))) (c_cmp i_eq (e_callI M_X8_common (a_cr (e_r 0) (a_ci (e_i 5) (a_ci (e_i 9) (a_ci (e_k (nI 1)) a_nil))))) (e_callI M_L_common (a_ci (e_ald (e_r 1) (e_i 5)) (a_ci (e_ald (e_r 1) (e_i 9)) a_nil))))) (e_k (nI 1)) (e_k (nI 0))))
    (s_inc 9 (nI 1)))
abbrev C_L_areFactors_4 : sCd := (c_and (c_cmp i_lt (e_i 5) (e_ald (e_r 2) (e_k (nI 0)))) (c_cmp0 i_ne (e_i 4)))
abbrev W_L_areFactors_4 : sStm :=
  (s_seq (s_blk 6 (s_seq (s_decI 6 (e_k (nI 0)))
    (s_seq (s_decI 7 (e_k (nI 0)))
    (s_seq (s_decI 8 (e_k (-4)))
    (s_seq (s_blk 9 (s_seq (s_decI 9 (e_k (nI 0)))
    (s_while C_L_areFactors_2 W_L_areFactors_2)))
    (s_seq (s_setI 4 (e_if (c_and (c_and (c_and (c_and (c_and (c_cmp0 i_ne (e_i 4)) (c_cmp i_eq (e_callI M_X8_factor (a_cr (e_r 0) (a_ci (e_i 5) (a_ci (e_i 6) a_nil)))) (e_k (-4)))) (c_cmp i_eq (e_callI M_X8_factor (a_cr (e_r 0) (a_ci (e_i 5) (a_ci (e_k (-1)) a_nil)))) (e_k (-1)))) (c_cmp i_eq (e_callI M_X8_step (a_cr (e_r 0) (a_ci (e_i 5) (a_ci (e_k (nI 4)) a_nil)))) (e_i 6))) (c_cmp i_eq (e_callI M_X8_step (a_cr (e_r 0) (a_ci (e_i 5) (a_ci (e_k (nI 5)) a_nil)))) (e_i 7))) (c_cmp i_eq (e_callI M_X8_step (a_cr (e_r 0) (a_ci (e_i 5) (a_ci (e_k (nI 6)) a_nil)))) (e_i 8))) (e_k (nI 1)) (e_k (nI 0))))
    (s_blk 9 (s_seq (s_decI 9 (e_k (nI 0)))
    (s_while C_L_areFactors_3 W_L_areFactors_3)))))))))
    (s_inc 5 (nI 1)))
def B_L_areFactors : sStm :=
  (s_seq (s_decI 4 (e_k (nI 1)))
    (s_seq (s_blk 5 (s_seq (s_decI 5 (e_k (nI 0)))
    (s_while C_L_areFactors_4 W_L_areFactors_4)))
    (s_retZ (e_i 4))))
def M_L_areFactors : sSem := m_of 4 B_L_areFactors
set_option maxRecDepth 100000 in
set_option maxHeartbeats 4000000 in
theorem S_L_areFactors : sSS (cL_areFactors, wsL_areFactors, RL, (some .boolean), 6, 139, 12, vwCl, RX6, false) 0 0 B_L_areFactors :=
  (ss_seq (pcA := 3) (ss_decI (pcA := 1) (se_iconst dL_areFactors_0 (by decide +kernel) rfl) dL_areFactors_1 (Nat.le_of_ble_eq_true rfl) rfl)
    (ss_seq (pcA := 279) (ss_blk (ss_seq (pcA := 6) (ss_decI (pcA := 4) (se_iconst dL_areFactors_3 (by decide +kernel) rfl) dL_areFactors_4 (Nat.le_of_ble_eq_true rfl) rfl)
    (ss_while (pcB := 19) (sc_and (pcA := 14) (sc_Flt (pcA := 8) (pcB := 11) (se_iload dL_areFactors_6 rfl) (se_ald (pcA := 9) (pcB := 10) (se_aload_n dL_areFactors_8 rfl rfl) (se_iconst dL_areFactors_9 (by decide +kernel) rfl) dL_areFactors_10 rfl) dL_areFactors_11 rfl rfl) (sc_Fne0 (pcB := 16) (se_iload dL_areFactors_14 rfl) dL_areFactors_16 rfl rfl))
    (ss_seq (pcA := 273) (ss_blk (ss_seq (pcA := 22) (ss_decI (pcA := 20) (se_iconst dL_areFactors_19 (by decide +kernel) rfl) dL_areFactors_20 (Nat.le_of_ble_eq_true rfl) rfl)
    (ss_seq (pcA := 25) (ss_decI (pcA := 23) (se_iconst dL_areFactors_22 (by decide +kernel) rfl) dL_areFactors_23 (Nat.le_of_ble_eq_true rfl) rfl)
    (ss_seq (pcA := 29) (ss_decI (pcA := 27) (se_bipush dL_areFactors_25 (by decide +kernel) rfl) dL_areFactors_27 (Nat.le_of_ble_eq_true rfl) rfl)
    (ss_seq (pcA := 125) (ss_blk (ss_seq (pcA := 32) (ss_decI (pcA := 30) (se_iconst dL_areFactors_29 (by decide +kernel) rfl) dL_areFactors_30 (Nat.le_of_ble_eq_true rfl) rfl)
    (ss_while (pcB := 39) (sc_Flt (pcA := 34) (pcB := 36) (se_iload dL_areFactors_32 rfl) (se_bipush dL_areFactors_34 (by decide +kernel) rfl) dL_areFactors_36 rfl rfl)
    (ss_seq (pcA := 119) (ss_blk (ss_seq (pcA := 52) (ss_decI (pcA := 50) (se_callSI (pcA := 47) (index := 23) (sa_ci (pcA := 43) (se_ald (pcA := 40) (pcB := 42) (se_aload_n dL_areFactors_39 rfl rfl) (se_iload dL_areFactors_40 rfl) dL_areFactors_42 rfl) (sa_ci (pcA := 47) (se_ald (pcA := 44) (pcB := 46) (se_aload_n dL_areFactors_43 rfl rfl) (se_iload dL_areFactors_44 rfl) dL_areFactors_46 rfl) sa_nil)) T_L_exponent gL_areFactors_L_exponent rfl (by decide +kernel) (Nat.le_of_ble_eq_true rfl) (Nat.le_of_ble_eq_true rfl) (s_LenI (s_LenI s_Len0)) (Nat.le_of_ble_eq_true rfl) dL_areFactors_47 rfl) dL_areFactors_50 (Nat.le_of_ble_eq_true rfl) rfl)
    (ss_seq (pcA := 67) (ss_setI (pcA := 65) (se_add (pcA := 54) (pcB := 64) (se_iload dL_areFactors_52 rfl) (se_if (pcT := 59) (pcF := 63) (pcG := 60) (sc_Fgt0 (pcB := 56) (se_iload dL_areFactors_54 rfl) dL_areFactors_56 rfl rfl) (se_iconst dL_areFactors_59 (by decide +kernel) rfl) dL_areFactors_60 rfl (se_iconst dL_areFactors_63 (by decide +kernel) rfl)) dL_areFactors_64 rfl) dL_areFactors_65 (Nat.le_of_ble_eq_true rfl) rfl)
    (ss_blk (ss_seq (pcA := 70) (ss_decI (pcA := 68) (se_iconst dL_areFactors_67 (by decide +kernel) rfl) dL_areFactors_68 (Nat.le_of_ble_eq_true rfl) rfl)
    (ss_while (pcB := 77) (sc_Flt (pcA := 72) (pcB := 74) (se_iload dL_areFactors_70 rfl) (se_iload dL_areFactors_72 rfl) dL_areFactors_74 rfl rfl)
    (ss_seq (pcA := 113) (ss_seq (pcA := 104) (ss_setI (pcA := 102) (se_if (pcT := 97) (pcF := 101) (pcG := 98) (sc_and (pcA := 82) (sc_Fne0 (pcB := 79) (se_iload dL_areFactors_77 rfl) dL_areFactors_79 rfl rfl) (sc_Feq (pcA := 90) (pcB := 94) (se_callVI (pcA := 87) (ci := 6) (index := 65) (sa_cr (pcA := 83) (se_aload_n dL_areFactors_82 rfl rfl) (sa_ci (pcA := 85) (se_iload dL_areFactors_83 rfl) (sa_ci (pcA := 87) (se_iload dL_areFactors_85 rfl) sa_nil))) T_X8_factor (s_Rcv_of 6 _ _) rfl gL_areFactors_X8_factor rfl (by decide +kernel) (Nat.le_of_ble_eq_true rfl) (Nat.le_of_ble_eq_true rfl) (s_LenR (s_LenI (s_LenI s_Len0))) (Nat.le_of_ble_eq_true rfl) dL_areFactors_87 rfl) (se_ald (pcA := 91) (pcB := 93) (se_aload_n dL_areFactors_90 rfl rfl) (se_iload dL_areFactors_91 rfl) dL_areFactors_93 rfl) dL_areFactors_94 rfl rfl)) (se_iconst dL_areFactors_97 (by decide +kernel) rfl) dL_areFactors_98 rfl (se_iconst dL_areFactors_101 (by decide +kernel) rfl)) dL_areFactors_102 (Nat.le_of_ble_eq_true rfl) rfl)
    (ss_seq (pcA := 110) (ss_setI (pcA := 108) (se_ald (pcA := 105) (pcB := 107) (se_aload_n dL_areFactors_104 rfl rfl) (se_iload dL_areFactors_105 rfl) dL_areFactors_107 rfl) dL_areFactors_108 (Nat.le_of_ble_eq_true rfl) rfl)
    (ss_inc dL_areFactors_110 (Nat.le_of_ble_eq_true rfl) (by decide +kernel) rfl)))
    (ss_goto (pcG := 116) (ss_inc dL_areFactors_113 (Nat.le_of_ble_eq_true rfl) (by decide +kernel) rfl) dL_areFactors_116 rfl))))))))
    (ss_goto (pcG := 122) (ss_inc dL_areFactors_119 (Nat.le_of_ble_eq_true rfl) (by decide +kernel) rfl) dL_areFactors_122 rfl)))))
    (ss_seq (pcA := 198) (ss_setI (pcA := 196) (se_if (pcT := 191) (pcF := 195) (pcG := 192) (sc_and (pcA := 178) (sc_and (pcA := 166) (sc_and (pcA := 154) (sc_and (pcA := 143) (sc_and (pcA := 130) (sc_Fne0 (pcB := 127) (se_iload dL_areFactors_125 rfl) dL_areFactors_127 rfl rfl) (sc_Feq (pcA := 138) (pcB := 140) (se_callVI (pcA := 135) (ci := 6) (index := 65) (sa_cr (pcA := 131) (se_aload_n dL_areFactors_130 rfl rfl) (sa_ci (pcA := 133) (se_iload dL_areFactors_131 rfl) (sa_ci (pcA := 135) (se_iload dL_areFactors_133 rfl) sa_nil))) T_X8_factor (s_Rcv_of 6 _ _) rfl gL_areFactors_X8_factor rfl (by decide +kernel) (Nat.le_of_ble_eq_true rfl) (Nat.le_of_ble_eq_true rfl) (s_LenR (s_LenI (s_LenI s_Len0))) (Nat.le_of_ble_eq_true rfl) dL_areFactors_135 rfl) (se_bipush dL_areFactors_138 (by decide +kernel) rfl) dL_areFactors_140 rfl rfl)) (sc_Feq (pcA := 150) (pcB := 151) (se_callVI (pcA := 147) (ci := 6) (index := 65) (sa_cr (pcA := 144) (se_aload_n dL_areFactors_143 rfl rfl) (sa_ci (pcA := 146) (se_iload dL_areFactors_144 rfl) (sa_ci (pcA := 147) (se_iconst dL_areFactors_146 (by decide +kernel) rfl) sa_nil))) T_X8_factor (s_Rcv_of 6 _ _) rfl gL_areFactors_X8_factor rfl (by decide +kernel) (Nat.le_of_ble_eq_true rfl) (Nat.le_of_ble_eq_true rfl) (s_LenR (s_LenI (s_LenI s_Len0))) (Nat.le_of_ble_eq_true rfl) dL_areFactors_147 rfl) (se_iconst dL_areFactors_150 (by decide +kernel) rfl) dL_areFactors_151 rfl rfl)) (sc_Feq (pcA := 161) (pcB := 163) (se_callVI (pcA := 158) (ci := 6) (index := 45) (sa_cr (pcA := 155) (se_aload_n dL_areFactors_154 rfl rfl) (sa_ci (pcA := 157) (se_iload dL_areFactors_155 rfl) (sa_ci (pcA := 158) (se_iconst dL_areFactors_157 (by decide +kernel) rfl) sa_nil))) T_X8_step (s_Rcv_of 6 _ _) rfl gL_areFactors_X8_step rfl (by decide +kernel) (Nat.le_of_ble_eq_true rfl) (Nat.le_of_ble_eq_true rfl) (s_LenR (s_LenI (s_LenI s_Len0))) (Nat.le_of_ble_eq_true rfl) dL_areFactors_158 rfl) (se_iload dL_areFactors_161 rfl) dL_areFactors_163 rfl rfl)) (sc_Feq (pcA := 173) (pcB := 175) (se_callVI (pcA := 170) (ci := 6) (index := 45) (sa_cr (pcA := 167) (se_aload_n dL_areFactors_166 rfl rfl) (sa_ci (pcA := 169) (se_iload dL_areFactors_167 rfl) (sa_ci (pcA := 170) (se_iconst dL_areFactors_169 (by decide +kernel) rfl) sa_nil))) T_X8_step (s_Rcv_of 6 _ _) rfl gL_areFactors_X8_step rfl (by decide +kernel) (Nat.le_of_ble_eq_true rfl) (Nat.le_of_ble_eq_true rfl) (s_LenR (s_LenI (s_LenI s_Len0))) (Nat.le_of_ble_eq_true rfl) dL_areFactors_170 rfl) (se_iload dL_areFactors_173 rfl) dL_areFactors_175 rfl rfl)) (sc_Feq (pcA := 186) (pcB := 188) (se_callVI (pcA := 183) (ci := 6) (index := 45) (sa_cr (pcA := 179) (se_aload_n dL_areFactors_178 rfl rfl) (sa_ci (pcA := 181) (se_iload dL_areFactors_179 rfl) (sa_ci (pcA := 183) (se_bipush dL_areFactors_181 (by decide +kernel) rfl) sa_nil))) T_X8_step (s_Rcv_of 6 _ _) rfl gL_areFactors_X8_step rfl (by decide +kernel) (Nat.le_of_ble_eq_true rfl) (Nat.le_of_ble_eq_true rfl) (s_LenR (s_LenI (s_LenI s_Len0))) (Nat.le_of_ble_eq_true rfl) dL_areFactors_183 rfl) (se_iload dL_areFactors_186 rfl) dL_areFactors_188 rfl rfl)) (se_iconst dL_areFactors_191 (by decide +kernel) rfl) dL_areFactors_192 rfl (se_iconst dL_areFactors_195 (by decide +kernel) rfl)) dL_areFactors_196 (Nat.le_of_ble_eq_true rfl) rfl)
    (ss_blk (ss_seq (pcA := 201) (ss_decI (pcA := 199) (se_iconst dL_areFactors_198 (by decide +kernel) rfl) dL_areFactors_199 (Nat.le_of_ble_eq_true rfl) rfl)
    (ss_while (pcB := 214) (sc_and (pcA := 209) (sc_Flt (pcA := 203) (pcB := 206) (se_iload dL_areFactors_201 rfl) (se_ald (pcA := 204) (pcB := 205) (se_aload_n dL_areFactors_203 rfl rfl) (se_iconst dL_areFactors_204 (by decide +kernel) rfl) dL_areFactors_205 rfl) dL_areFactors_206 rfl rfl) (sc_Fne0 (pcB := 211) (se_iload dL_areFactors_209 rfl) dL_areFactors_211 rfl rfl))
    (ss_seq (pcA := 267) (ss_setI (pcA := 265) (se_if (pcT := 260) (pcF := 264) (pcG := 261) (sc_and (pcA := 237) (sc_Feq (pcA := 223) (pcB := 234) (se_callVI (pcA := 220) (ci := 6) (index := 68) (sa_cr (pcA := 215) (se_aload_n dL_areFactors_214 rfl rfl) (sa_ci (pcA := 217) (se_iload dL_areFactors_215 rfl) (sa_ci (pcA := 219) (se_iload dL_areFactors_217 rfl) (sa_ci (pcA := 220) (se_iconst dL_areFactors_219 (by decide +kernel) rfl) sa_nil)))) T_X8_common (s_Rcv_of 6 _ _) rfl gL_areFactors_X8_common rfl (by decide +kernel) (Nat.le_of_ble_eq_true rfl) (Nat.le_of_ble_eq_true rfl) (s_LenR (s_LenI (s_LenI (s_LenI s_Len0)))) (Nat.le_of_ble_eq_true rfl) dL_areFactors_220 rfl) (se_callSI (pcA := 231) (index := 15) (sa_ci (pcA := 227) (se_ald (pcA := 224) (pcB := 226) (se_aload_n dL_areFactors_223 rfl rfl) (se_iload dL_areFactors_224 rfl) dL_areFactors_226 rfl) (sa_ci (pcA := 231) (se_ald (pcA := 228) (pcB := 230) (se_aload_n dL_areFactors_227 rfl rfl) (se_iload dL_areFactors_228 rfl) dL_areFactors_230 rfl) sa_nil)) T_L_common gL_areFactors_L_common rfl (by decide +kernel) (Nat.le_of_ble_eq_true rfl) (Nat.le_of_ble_eq_true rfl) (s_LenI (s_LenI s_Len0)) (Nat.le_of_ble_eq_true rfl) dL_areFactors_231 rfl) dL_areFactors_234 rfl rfl) (sc_Feq (pcA := 246) (pcB := 257) (se_callVI (pcA := 243) (ci := 6) (index := 68) (sa_cr (pcA := 238) (se_aload_n dL_areFactors_237 rfl rfl) (sa_ci (pcA := 240) (se_iload dL_areFactors_238 rfl) (sa_ci (pcA := 242) (se_iload dL_areFactors_240 rfl) (sa_ci (pcA := 243) (se_iconst dL_areFactors_242 (by decide +kernel) rfl) sa_nil)))) T_X8_common (s_Rcv_of 6 _ _) rfl gL_areFactors_X8_common rfl (by decide +kernel) (Nat.le_of_ble_eq_true rfl) (Nat.le_of_ble_eq_true rfl) (s_LenR (s_LenI (s_LenI (s_LenI s_Len0)))) (Nat.le_of_ble_eq_true rfl) dL_areFactors_243 rfl) (se_callSI (pcA := 254) (index := 15) (sa_ci (pcA := 250) (se_ald (pcA := 247) (pcB := 249) (se_aload_n dL_areFactors_246 rfl rfl) (se_iload dL_areFactors_247 rfl) dL_areFactors_249 rfl) (sa_ci (pcA := 254) (se_ald (pcA := 251) (pcB := 253) (se_aload_n dL_areFactors_250 rfl rfl) (se_iload dL_areFactors_251 rfl) dL_areFactors_253 rfl) sa_nil)) T_L_common gL_areFactors_L_common rfl (by decide +kernel) (Nat.le_of_ble_eq_true rfl) (Nat.le_of_ble_eq_true rfl) (s_LenI (s_LenI s_Len0)) (Nat.le_of_ble_eq_true rfl) dL_areFactors_254 rfl) dL_areFactors_257 rfl rfl)) (se_iconst dL_areFactors_260 (by decide +kernel) rfl) dL_areFactors_261 rfl (se_iconst dL_areFactors_264 (by decide +kernel) rfl)) dL_areFactors_265 (Nat.le_of_ble_eq_true rfl) rfl)
    (ss_goto (pcG := 270) (ss_inc dL_areFactors_267 (Nat.le_of_ble_eq_true rfl) (by decide +kernel) rfl) dL_areFactors_270 rfl)))))))))))
    (ss_goto (pcG := 276) (ss_inc dL_areFactors_273 (Nat.le_of_ble_eq_true rfl) (by decide +kernel) rfl) dL_areFactors_276 rfl)))))
    (ss_retZ (pcA := 281) (se_iload dL_areFactors_279 rfl) dL_areFactors_281 rfl)))
theorem T_L_areFactors : sMet vwCl RX6 yL_areFactors wsL_areFactors 6 139 M_L_areFactors := sMet_of rfl (by decide +kernel) rfl rfl (fun h => by cases h) (m_of_run _ _) S_L_areFactors (m_of_cat _ _ (Nat.le_of_ble_eq_true rfl))
abbrev C_L_areAccounts_1 : sCd := (c_cmp i_lt (e_i 14) (e_ald (e_r 2) (e_k (nI 0))))
abbrev W_L_areAccounts_1 : sStm :=
  (s_seq (s_blk 15 (s_seq (s_decI 15 (e_callI M_L_exponent (a_ci (e_ald (e_r 1) (e_i 14)) (a_ci (e_ald (e_r 5) (e_i 10)) a_nil))))
    (s_seq (s_setI 11 (e_add (e_i 11) (e_i 15)))
    (s_seq (s_setI 12 (e_if (c_cmp i_gt (e_i 15) (e_i 12)) (e_i 15) (e_i 12)))
    (s_setI 13 (e_add (e_i 13) (e_if (c_cmp0 i_gt (e_i 15)) (e_k (nI 1)) (e_k (nI 0)))))))))
    (s_inc 14 (nI 1)))
abbrev C_L_areAccounts_2 : sCd := (c_and (c_cmp i_lt (e_i 10) (e_k (nI 25))) (c_cmp0 i_ne (e_i 9)))
abbrev W_L_areAccounts_2 : sStm :=
  (s_seq (s_blk 11 (s_seq (s_decI 11 (e_k (nI 0)))
    (s_seq (s_decI 12 (e_k (nI 0)))
    (s_seq (s_decI 13 (e_k (nI 0)))
    (s_seq (s_blk 14 (s_seq (s_decI 14 (e_k (nI 0)))
    (s_while C_L_areAccounts_1 W_L_areAccounts_1)))
    (s_seq (s_setI 6 (e_add (e_i 6) (e_ald (e_r 3) (e_i 10))))
    (s_seq (s_setI 7 (e_add (e_i 7) (e_if (c_cmp0 i_gt (e_ald (e_r 3) (e_i 10))) (e_k (nI 1)) (e_k (nI 0)))))
    (s_seq (s_setI 8 (e_add (e_i 8) (e_if (c_cmp0 i_gt (e_i 13)) (e_k (nI 1)) (e_k (nI 0)))))
    (s_setI 9 (e_if (c_and (c_and (c_and (c_and (c_and (c_cmp i_eq (e_ald (e_r 4) (e_i 10)) (e_add (e_ald (e_r 3) (e_i 10)) (e_i 11))) (c_cmp i_eq (e_callI M_X8_prime (a_cr (e_r 0) (a_ci (e_ald (e_r 5) (e_i 10)) (a_ci (e_k (nI 0)) a_nil)))) (e_ald (e_r 3) (e_i 10)))) (c_cmp i_eq (e_callI M_X8_prime (a_cr (e_r 0) (a_ci (e_ald (e_r 5) (e_i 10)) (a_ci (e_k (nI 1)) a_nil)))) (e_ald (e_r 4) (e_i 10)))) (c_cmp i_eq (e_callI M_X8_prime (a_cr (e_r 0) (a_ci (e_ald (e_r 5) (e_i 10)) (a_ci (e_k (nI 2)) a_nil)))) (e_i 11))) (c_cmp i_eq (e_callI M_X8_prime (a_cr (e_r 0) (a_ci (e_ald (e_r 5) (e_i 10)) (a_ci (e_k (nI 3)) a_nil)))) (e_i 12))) (c_cmp i_eq (e_callI M_X8_prime (a_cr (e_r 0) (a_ci (e_ald (e_r 5) (e_i 10)) (a_ci (e_k (nI 4)) a_nil)))) (e_i 13))) (e_k (nI 1)) (e_k (nI 0))))))))))))
    (s_inc 10 (nI 1)))
def B_L_areAccounts : sStm :=
  (s_seq (s_decI 6 (e_k (nI 0)))
    (s_seq (s_decI 7 (e_k (nI 0)))
    (s_seq (s_decI 8 (e_k (nI 0)))
    (s_seq (s_decI 9 (e_if (c_and (c_and (c_cmp i_eq (e_callI M_X8_prime (a_cr (e_r 0) (a_ci (e_k (nI 1)) (a_ci (e_k (nI 0)) a_nil)))) (e_k (-1))) (c_cmp i_eq (e_callI M_X8_prime (a_cr (e_r 0) (a_ci (e_k (nI 91)) (a_ci (e_k (nI 0)) a_nil)))) (e_k (-1)))) (c_cmp i_eq (e_callI M_X8_prime (a_cr (e_r 0) (a_ci (e_k (nI 101)) (a_ci (e_k (nI 5)) a_nil)))) (e_k (-1)))) (e_k (nI 1)) (e_k (nI 0))))
    (s_seq (s_blk 10 (s_seq (s_decI 10 (e_k (nI 0)))
    (s_while C_L_areAccounts_2 W_L_areAccounts_2)))
    (s_retZ (e_if (c_and (c_and (c_and (c_cmp0 i_ne (e_i 9)) (c_cmp i_eq (e_callI M_X8_count (a_cr (e_r 0) (a_ci (e_k (nI 5)) a_nil))) (e_i 6))) (c_cmp i_eq (e_callI M_X8_count (a_cr (e_r 0) (a_ci (e_k (nI 6)) a_nil))) (e_i 7))) (c_cmp i_eq (e_callI M_X8_count (a_cr (e_r 0) (a_ci (e_k (nI 8)) a_nil))) (e_i 8))) (e_k (nI 1)) (e_k (nI 0)))))))))
def M_L_areAccounts : sSem := m_of 6 B_L_areAccounts
set_option maxRecDepth 100000 in
set_option maxHeartbeats 4000000 in
theorem S_L_areAccounts : sSS (cL_areAccounts, wsL_areAccounts, RL, (some .boolean), 5, 114, 16, vwCl, RX6, false) 0 0 B_L_areAccounts :=
  (ss_seq (pcA := 3) (ss_decI (pcA := 1) (se_iconst dL_areAccounts_0 (by decide +kernel) rfl) dL_areAccounts_1 (Nat.le_of_ble_eq_true rfl) rfl)
    (ss_seq (pcA := 6) (ss_decI (pcA := 4) (se_iconst dL_areAccounts_3 (by decide +kernel) rfl) dL_areAccounts_4 (Nat.le_of_ble_eq_true rfl) rfl)
    (ss_seq (pcA := 9) (ss_decI (pcA := 7) (se_iconst dL_areAccounts_6 (by decide +kernel) rfl) dL_areAccounts_7 (Nat.le_of_ble_eq_true rfl) rfl)
    (ss_seq (pcA := 48) (ss_decI (pcA := 46) (se_if (pcT := 41) (pcF := 45) (pcG := 42) (sc_and (pcA := 30) (sc_and (pcA := 19) (sc_Feq (pcA := 15) (pcB := 16) (se_callVI (pcA := 12) (ci := 6) (index := 71) (sa_cr (pcA := 10) (se_aload_n dL_areAccounts_9 rfl rfl) (sa_ci (pcA := 11) (se_iconst dL_areAccounts_10 (by decide +kernel) rfl) (sa_ci (pcA := 12) (se_iconst dL_areAccounts_11 (by decide +kernel) rfl) sa_nil))) T_X8_prime (s_Rcv_of 6 _ _) rfl gL_areAccounts_X8_prime rfl (by decide +kernel) (Nat.le_of_ble_eq_true rfl) (Nat.le_of_ble_eq_true rfl) (s_LenR (s_LenI (s_LenI s_Len0))) (Nat.le_of_ble_eq_true rfl) dL_areAccounts_12 rfl) (se_iconst dL_areAccounts_15 (by decide +kernel) rfl) dL_areAccounts_16 rfl rfl) (sc_Feq (pcA := 26) (pcB := 27) (se_callVI (pcA := 23) (ci := 6) (index := 71) (sa_cr (pcA := 20) (se_aload_n dL_areAccounts_19 rfl rfl) (sa_ci (pcA := 22) (se_bipush dL_areAccounts_20 (by decide +kernel) rfl) (sa_ci (pcA := 23) (se_iconst dL_areAccounts_22 (by decide +kernel) rfl) sa_nil))) T_X8_prime (s_Rcv_of 6 _ _) rfl gL_areAccounts_X8_prime rfl (by decide +kernel) (Nat.le_of_ble_eq_true rfl) (Nat.le_of_ble_eq_true rfl) (s_LenR (s_LenI (s_LenI s_Len0))) (Nat.le_of_ble_eq_true rfl) dL_areAccounts_23 rfl) (se_iconst dL_areAccounts_26 (by decide +kernel) rfl) dL_areAccounts_27 rfl rfl)) (sc_Feq (pcA := 37) (pcB := 38) (se_callVI (pcA := 34) (ci := 6) (index := 71) (sa_cr (pcA := 31) (se_aload_n dL_areAccounts_30 rfl rfl) (sa_ci (pcA := 33) (se_bipush dL_areAccounts_31 (by decide +kernel) rfl) (sa_ci (pcA := 34) (se_iconst dL_areAccounts_33 (by decide +kernel) rfl) sa_nil))) T_X8_prime (s_Rcv_of 6 _ _) rfl gL_areAccounts_X8_prime rfl (by decide +kernel) (Nat.le_of_ble_eq_true rfl) (Nat.le_of_ble_eq_true rfl) (s_LenR (s_LenI (s_LenI s_Len0))) (Nat.le_of_ble_eq_true rfl) dL_areAccounts_34 rfl) (se_iconst dL_areAccounts_37 (by decide +kernel) rfl) dL_areAccounts_38 rfl rfl)) (se_iconst dL_areAccounts_41 (by decide +kernel) rfl) dL_areAccounts_42 rfl (se_iconst dL_areAccounts_45 (by decide +kernel) rfl)) dL_areAccounts_46 (Nat.le_of_ble_eq_true rfl) rfl)
    (ss_seq (pcA := 290) (ss_blk (ss_seq (pcA := 51) (ss_decI (pcA := 49) (se_iconst dL_areAccounts_48 (by decide +kernel) rfl) dL_areAccounts_49 (Nat.le_of_ble_eq_true rfl) rfl)
    (ss_while (pcB := 63) (sc_and (pcA := 58) (sc_Flt (pcA := 53) (pcB := 55) (se_iload dL_areAccounts_51 rfl) (se_bipush dL_areAccounts_53 (by decide +kernel) rfl) dL_areAccounts_55 rfl rfl) (sc_Fne0 (pcB := 60) (se_iload dL_areAccounts_58 rfl) dL_areAccounts_60 rfl rfl))
    (ss_seq (pcA := 284) (ss_blk (ss_seq (pcA := 66) (ss_decI (pcA := 64) (se_iconst dL_areAccounts_63 (by decide +kernel) rfl) dL_areAccounts_64 (Nat.le_of_ble_eq_true rfl) rfl)
    (ss_seq (pcA := 69) (ss_decI (pcA := 67) (se_iconst dL_areAccounts_66 (by decide +kernel) rfl) dL_areAccounts_67 (Nat.le_of_ble_eq_true rfl) rfl)
    (ss_seq (pcA := 72) (ss_decI (pcA := 70) (se_iconst dL_areAccounts_69 (by decide +kernel) rfl) dL_areAccounts_70 (Nat.le_of_ble_eq_true rfl) rfl)
    (ss_seq (pcA := 141) (ss_blk (ss_seq (pcA := 75) (ss_decI (pcA := 73) (se_iconst dL_areAccounts_72 (by decide +kernel) rfl) dL_areAccounts_73 (Nat.le_of_ble_eq_true rfl) rfl)
    (ss_while (pcB := 83) (sc_Flt (pcA := 77) (pcB := 80) (se_iload dL_areAccounts_75 rfl) (se_ald (pcA := 78) (pcB := 79) (se_aload_n dL_areAccounts_77 rfl rfl) (se_iconst dL_areAccounts_78 (by decide +kernel) rfl) dL_areAccounts_79 rfl) dL_areAccounts_80 rfl rfl)
    (ss_seq (pcA := 135) (ss_blk (ss_seq (pcA := 97) (ss_decI (pcA := 95) (se_callSI (pcA := 92) (index := 23) (sa_ci (pcA := 87) (se_ald (pcA := 84) (pcB := 86) (se_aload_n dL_areAccounts_83 rfl rfl) (se_iload dL_areAccounts_84 rfl) dL_areAccounts_86 rfl) (sa_ci (pcA := 92) (se_ald (pcA := 89) (pcB := 91) (se_aload dL_areAccounts_87 rfl) (se_iload dL_areAccounts_89 rfl) dL_areAccounts_91 rfl) sa_nil)) T_L_exponent gL_areAccounts_L_exponent rfl (by decide +kernel) (Nat.le_of_ble_eq_true rfl) (Nat.le_of_ble_eq_true rfl) (s_LenI (s_LenI s_Len0)) (Nat.le_of_ble_eq_true rfl) dL_areAccounts_92 rfl) dL_areAccounts_95 (Nat.le_of_ble_eq_true rfl) rfl)
    (ss_seq (pcA := 104) (ss_setI (pcA := 102) (se_add (pcA := 99) (pcB := 101) (se_iload dL_areAccounts_97 rfl) (se_iload dL_areAccounts_99 rfl) dL_areAccounts_101 rfl) dL_areAccounts_102 (Nat.le_of_ble_eq_true rfl) rfl)
    (ss_seq (pcA := 120) (ss_setI (pcA := 118) (se_if (pcT := 111) (pcF := 116) (pcG := 113) (sc_Fgt (pcA := 106) (pcB := 108) (se_iload dL_areAccounts_104 rfl) (se_iload dL_areAccounts_106 rfl) dL_areAccounts_108 rfl rfl) (se_iload dL_areAccounts_111 rfl) dL_areAccounts_113 rfl (se_iload dL_areAccounts_116 rfl)) dL_areAccounts_118 (Nat.le_of_ble_eq_true rfl) rfl)
    (ss_setI (pcA := 133) (se_add (pcA := 122) (pcB := 132) (se_iload dL_areAccounts_120 rfl) (se_if (pcT := 127) (pcF := 131) (pcG := 128) (sc_Fgt0 (pcB := 124) (se_iload dL_areAccounts_122 rfl) dL_areAccounts_124 rfl rfl) (se_iconst dL_areAccounts_127 (by decide +kernel) rfl) dL_areAccounts_128 rfl (se_iconst dL_areAccounts_131 (by decide +kernel) rfl)) dL_areAccounts_132 rfl) dL_areAccounts_133 (Nat.le_of_ble_eq_true rfl) rfl)))))
    (ss_goto (pcG := 138) (ss_inc dL_areAccounts_135 (Nat.le_of_ble_eq_true rfl) (by decide +kernel) rfl) dL_areAccounts_138 rfl)))))
    (ss_seq (pcA := 150) (ss_setI (pcA := 148) (se_add (pcA := 143) (pcB := 147) (se_iload dL_areAccounts_141 rfl) (se_ald (pcA := 144) (pcB := 146) (se_aload_n dL_areAccounts_143 rfl rfl) (se_iload dL_areAccounts_144 rfl) dL_areAccounts_146 rfl) dL_areAccounts_147 rfl) dL_areAccounts_148 (Nat.le_of_ble_eq_true rfl) rfl)
    (ss_seq (pcA := 167) (ss_setI (pcA := 165) (se_add (pcA := 152) (pcB := 164) (se_iload dL_areAccounts_150 rfl) (se_if (pcT := 159) (pcF := 163) (pcG := 160) (sc_Fgt0 (pcB := 156) (se_ald (pcA := 153) (pcB := 155) (se_aload_n dL_areAccounts_152 rfl rfl) (se_iload dL_areAccounts_153 rfl) dL_areAccounts_155 rfl) dL_areAccounts_156 rfl rfl) (se_iconst dL_areAccounts_159 (by decide +kernel) rfl) dL_areAccounts_160 rfl (se_iconst dL_areAccounts_163 (by decide +kernel) rfl)) dL_areAccounts_164 rfl) dL_areAccounts_165 (Nat.le_of_ble_eq_true rfl) rfl)
    (ss_seq (pcA := 182) (ss_setI (pcA := 180) (se_add (pcA := 169) (pcB := 179) (se_iload dL_areAccounts_167 rfl) (se_if (pcT := 174) (pcF := 178) (pcG := 175) (sc_Fgt0 (pcB := 171) (se_iload dL_areAccounts_169 rfl) dL_areAccounts_171 rfl rfl) (se_iconst dL_areAccounts_174 (by decide +kernel) rfl) dL_areAccounts_175 rfl (se_iconst dL_areAccounts_178 (by decide +kernel) rfl)) dL_areAccounts_179 rfl) dL_areAccounts_180 (Nat.le_of_ble_eq_true rfl) rfl)
    (ss_setI (pcA := 282) (se_if (pcT := 277) (pcF := 281) (pcG := 278) (sc_and (pcA := 262) (sc_and (pcA := 247) (sc_and (pcA := 232) (sc_and (pcA := 214) (sc_and (pcA := 197) (sc_Feq (pcA := 187) (pcB := 194) (se_ald (pcA := 184) (pcB := 186) (se_aload dL_areAccounts_182 rfl) (se_iload dL_areAccounts_184 rfl) dL_areAccounts_186 rfl) (se_add (pcA := 191) (pcB := 193) (se_ald (pcA := 188) (pcB := 190) (se_aload_n dL_areAccounts_187 rfl rfl) (se_iload dL_areAccounts_188 rfl) dL_areAccounts_190 rfl) (se_iload dL_areAccounts_191 rfl) dL_areAccounts_193 rfl) dL_areAccounts_194 rfl rfl) (sc_Feq (pcA := 207) (pcB := 211) (se_callVI (pcA := 204) (ci := 6) (index := 71) (sa_cr (pcA := 198) (se_aload_n dL_areAccounts_197 rfl rfl) (sa_ci (pcA := 203) (se_ald (pcA := 200) (pcB := 202) (se_aload dL_areAccounts_198 rfl) (se_iload dL_areAccounts_200 rfl) dL_areAccounts_202 rfl) (sa_ci (pcA := 204) (se_iconst dL_areAccounts_203 (by decide +kernel) rfl) sa_nil))) T_X8_prime (s_Rcv_of 6 _ _) rfl gL_areAccounts_X8_prime rfl (by decide +kernel) (Nat.le_of_ble_eq_true rfl) (Nat.le_of_ble_eq_true rfl) (s_LenR (s_LenI (s_LenI s_Len0))) (Nat.le_of_ble_eq_true rfl) dL_areAccounts_204 rfl) (se_ald (pcA := 208) (pcB := 210) (se_aload_n dL_areAccounts_207 rfl rfl) (se_iload dL_areAccounts_208 rfl) dL_areAccounts_210 rfl) dL_areAccounts_211 rfl rfl)) (sc_Feq (pcA := 224) (pcB := 229) (se_callVI (pcA := 221) (ci := 6) (index := 71) (sa_cr (pcA := 215) (se_aload_n dL_areAccounts_214 rfl rfl) (sa_ci (pcA := 220) (se_ald (pcA := 217) (pcB := 219) (se_aload dL_areAccounts_215 rfl) (se_iload dL_areAccounts_217 rfl) dL_areAccounts_219 rfl) (sa_ci (pcA := 221) (se_iconst dL_areAccounts_220 (by decide +kernel) rfl) sa_nil))) T_X8_prime (s_Rcv_of 6 _ _) rfl gL_areAccounts_X8_prime rfl (by decide +kernel) (Nat.le_of_ble_eq_true rfl) (Nat.le_of_ble_eq_true rfl) (s_LenR (s_LenI (s_LenI s_Len0))) (Nat.le_of_ble_eq_true rfl) dL_areAccounts_221 rfl) (se_ald (pcA := 226) (pcB := 228) (se_aload dL_areAccounts_224 rfl) (se_iload dL_areAccounts_226 rfl) dL_areAccounts_228 rfl) dL_areAccounts_229 rfl rfl)) (sc_Feq (pcA := 242) (pcB := 244) (se_callVI (pcA := 239) (ci := 6) (index := 71) (sa_cr (pcA := 233) (se_aload_n dL_areAccounts_232 rfl rfl) (sa_ci (pcA := 238) (se_ald (pcA := 235) (pcB := 237) (se_aload dL_areAccounts_233 rfl) (se_iload dL_areAccounts_235 rfl) dL_areAccounts_237 rfl) (sa_ci (pcA := 239) (se_iconst dL_areAccounts_238 (by decide +kernel) rfl) sa_nil))) T_X8_prime (s_Rcv_of 6 _ _) rfl gL_areAccounts_X8_prime rfl (by decide +kernel) (Nat.le_of_ble_eq_true rfl) (Nat.le_of_ble_eq_true rfl) (s_LenR (s_LenI (s_LenI s_Len0))) (Nat.le_of_ble_eq_true rfl) dL_areAccounts_239 rfl) (se_iload dL_areAccounts_242 rfl) dL_areAccounts_244 rfl rfl)) (sc_Feq (pcA := 257) (pcB := 259) (se_callVI (pcA := 254) (ci := 6) (index := 71) (sa_cr (pcA := 248) (se_aload_n dL_areAccounts_247 rfl rfl) (sa_ci (pcA := 253) (se_ald (pcA := 250) (pcB := 252) (se_aload dL_areAccounts_248 rfl) (se_iload dL_areAccounts_250 rfl) dL_areAccounts_252 rfl) (sa_ci (pcA := 254) (se_iconst dL_areAccounts_253 (by decide +kernel) rfl) sa_nil))) T_X8_prime (s_Rcv_of 6 _ _) rfl gL_areAccounts_X8_prime rfl (by decide +kernel) (Nat.le_of_ble_eq_true rfl) (Nat.le_of_ble_eq_true rfl) (s_LenR (s_LenI (s_LenI s_Len0))) (Nat.le_of_ble_eq_true rfl) dL_areAccounts_254 rfl) (se_iload dL_areAccounts_257 rfl) dL_areAccounts_259 rfl rfl)) (sc_Feq (pcA := 272) (pcB := 274) (se_callVI (pcA := 269) (ci := 6) (index := 71) (sa_cr (pcA := 263) (se_aload_n dL_areAccounts_262 rfl rfl) (sa_ci (pcA := 268) (se_ald (pcA := 265) (pcB := 267) (se_aload dL_areAccounts_263 rfl) (se_iload dL_areAccounts_265 rfl) dL_areAccounts_267 rfl) (sa_ci (pcA := 269) (se_iconst dL_areAccounts_268 (by decide +kernel) rfl) sa_nil))) T_X8_prime (s_Rcv_of 6 _ _) rfl gL_areAccounts_X8_prime rfl (by decide +kernel) (Nat.le_of_ble_eq_true rfl) (Nat.le_of_ble_eq_true rfl) (s_LenR (s_LenI (s_LenI s_Len0))) (Nat.le_of_ble_eq_true rfl) dL_areAccounts_269 rfl) (se_iload dL_areAccounts_272 rfl) dL_areAccounts_274 rfl rfl)) (se_iconst dL_areAccounts_277 (by decide +kernel) rfl) dL_areAccounts_278 rfl (se_iconst dL_areAccounts_281 (by decide +kernel) rfl)) dL_areAccounts_282 (Nat.le_of_ble_eq_true rfl) rfl)))))))))
    (ss_goto (pcG := 287) (ss_inc dL_areAccounts_284 (Nat.le_of_ble_eq_true rfl) (by decide +kernel) rfl) dL_areAccounts_287 rfl)))))
    (ss_retZ (pcA := 332) (se_if (pcT := 327) (pcF := 331) (pcG := 328) (sc_and (pcA := 316) (sc_and (pcA := 305) (sc_and (pcA := 295) (sc_Fne0 (pcB := 292) (se_iload dL_areAccounts_290 rfl) dL_areAccounts_292 rfl rfl) (sc_Feq (pcA := 300) (pcB := 302) (se_callVI (pcA := 297) (ci := 6) (index := 53) (sa_cr (pcA := 296) (se_aload_n dL_areAccounts_295 rfl rfl) (sa_ci (pcA := 297) (se_iconst dL_areAccounts_296 (by decide +kernel) rfl) sa_nil)) T_X8_count (s_Rcv_of 6 _ _) rfl gL_areAccounts_X8_count rfl (by decide +kernel) (Nat.le_of_ble_eq_true rfl) (Nat.le_of_ble_eq_true rfl) (s_LenR (s_LenI s_Len0)) (Nat.le_of_ble_eq_true rfl) dL_areAccounts_297 rfl) (se_iload dL_areAccounts_300 rfl) dL_areAccounts_302 rfl rfl)) (sc_Feq (pcA := 311) (pcB := 313) (se_callVI (pcA := 308) (ci := 6) (index := 53) (sa_cr (pcA := 306) (se_aload_n dL_areAccounts_305 rfl rfl) (sa_ci (pcA := 308) (se_bipush dL_areAccounts_306 (by decide +kernel) rfl) sa_nil)) T_X8_count (s_Rcv_of 6 _ _) rfl gL_areAccounts_X8_count rfl (by decide +kernel) (Nat.le_of_ble_eq_true rfl) (Nat.le_of_ble_eq_true rfl) (s_LenR (s_LenI s_Len0)) (Nat.le_of_ble_eq_true rfl) dL_areAccounts_308 rfl) (se_iload dL_areAccounts_311 rfl) dL_areAccounts_313 rfl rfl)) (sc_Feq (pcA := 322) (pcB := 324) (se_callVI (pcA := 319) (ci := 6) (index := 53) (sa_cr (pcA := 317) (se_aload_n dL_areAccounts_316 rfl rfl) (sa_ci (pcA := 319) (se_bipush dL_areAccounts_317 (by decide +kernel) rfl) sa_nil)) T_X8_count (s_Rcv_of 6 _ _) rfl gL_areAccounts_X8_count rfl (by decide +kernel) (Nat.le_of_ble_eq_true rfl) (Nat.le_of_ble_eq_true rfl) (s_LenR (s_LenI s_Len0)) (Nat.le_of_ble_eq_true rfl) dL_areAccounts_319 rfl) (se_iload dL_areAccounts_322 rfl) dL_areAccounts_324 rfl rfl)) (se_iconst dL_areAccounts_327 (by decide +kernel) rfl) dL_areAccounts_328 rfl (se_iconst dL_areAccounts_331 (by decide +kernel) rfl)) dL_areAccounts_332 rfl))))))
theorem T_L_areAccounts : sMet vwCl RX6 yL_areAccounts wsL_areAccounts 5 114 M_L_areAccounts := sMet_of rfl (by decide +kernel) rfl rfl (fun h => by cases h) (m_of_run _ _) S_L_areAccounts (m_of_cat _ _ (Nat.le_of_ble_eq_true rfl))
def B_L_isActed : sStm :=
  (s_seq (s_decI 8 (e_rem (e_i 7) (e_k (nI 12))))
    (s_seq (s_decI 9 (e_div (e_i 7) (e_k (nI 12))))
    (s_seq (s_if (c_cmp i_lt (e_i 6) (e_k (nI 6)))
    (s_blk 10 (s_seq (s_decI 10 (e_rem (e_i 7) (e_add (e_ald (e_r 2) (e_k (nI 0))) (e_k (nI 1)))))
    (s_seq (s_decI 11 (e_callI M_L_number (a_ci (e_div (e_i 7) (e_add (e_ald (e_r 2) (e_k (nI 0))) (e_k (nI 1)))) (a_cr (e_r 5) a_nil))))
    (s_seq (s_decI 12 (e_if (c_cmp i_eq (e_ald (e_r 2) (e_k (nI 0))) (e_k (nI 12))) (e_k (nI 1)) (e_k (nI 0))))
    (s_seq (s_if (c_not (c_cmp0 i_ne (e_i 12)))
    (s_seq (s_callV M_L_put (a_cr (e_r 1) (a_cr (e_r 2) (a_ci (e_i 10) (a_ci (e_i 11) a_nil)))))
    (s_callV M_L_account (a_cr (e_r 4) (a_cr (e_r 5) (a_ci (e_i 11) (a_ci (e_k (nI 1)) a_nil)))))) s_skip)
    (s_retZ (e_if (c_cmp i_eq (e_callI M_X8_add (a_cr (e_r 0) (a_ci (e_i 10) (a_ci (e_i 11) a_nil)))) (e_if (c_cmp0 i_ne (e_i 12)) (e_k (-3)) (e_ald (e_r 2) (e_k (nI 0))))) (e_k (nI 1)) (e_k (nI 0))))))))) s_skip)
    (s_seq (s_if (c_cmp i_eq (e_i 6) (e_k (nI 6)))
    (s_blk 10 (s_seq (s_decI 10 (e_if (c_cmp i_lt (e_i 8) (e_ald (e_r 2) (e_k (nI 0)))) (e_ald (e_r 1) (e_i 8)) (e_k (-1))))
    (s_seq (s_if (c_cmp i_lt (e_i 8) (e_ald (e_r 2) (e_k (nI 0))))
    (s_seq (s_callV M_L_out (a_cr (e_r 1) (a_cr (e_r 2) (a_ci (e_i 8) a_nil))))
    (s_callV M_L_account (a_cr (e_r 4) (a_cr (e_r 5) (a_ci (e_i 10) (a_ci (e_k (-1)) a_nil)))))) s_skip)
    (s_retZ (e_if (c_cmp i_eq (e_callI M_X8_take (a_cr (e_r 0) (a_ci (e_i 8) a_nil))) (e_i 10)) (e_k (nI 1)) (e_k (nI 0))))))) s_skip)
    (s_seq (s_if (c_cmp i_lt (e_i 6) (e_k (nI 10)))
    (s_blk 10 (s_seq (s_decI 10 (e_callI M_L_share (a_cr (e_r 1) (a_cr (e_r 2) (a_ci (e_i 8) a_nil)))))
    (s_retZ (e_if (c_cmp i_eq (e_callI M_X8_share (a_cr (e_r 0) (a_ci (e_i 8) a_nil))) (e_i 10)) (e_k (nI 1)) (e_k (nI 0)))))) s_skip)
    (s_seq (s_if (c_cmp i_lt (e_i 6) (e_k (nI 13)))
    (s_blk 10 (s_seq (s_decI 10 (e_callI M_L_divide (a_cr (e_r 1) (a_cr (e_r 2) (a_cr (e_r 3) (a_cr (e_r 5) (a_ci (e_i 8) a_nil)))))))
    (s_retZ (e_if (c_cmp i_eq (e_callI M_X8_divide (a_cr (e_r 0) (a_ci (e_i 8) a_nil))) (e_i 10)) (e_k (nI 1)) (e_k (nI 0)))))) s_skip)
    (s_seq (s_if (c_cmp i_lt (e_i 6) (e_k (nI 16)))
    (s_blk 10 (s_seq (s_decI 10 (e_if (c_cmp0 i_eq (e_rem (e_i 9) (e_k (nI 3)))) (e_rem (e_div (e_i 9) (e_k (nI 3))) (e_k (nI 25))) (e_rem (e_div (e_i 9) (e_k (nI 3))) (e_k (nI 4)))))
    (s_seq (s_decI 11 (e_callI M_L_strike (a_cr (e_r 1) (a_cr (e_r 2) (a_cr (e_r 3) (a_cr (e_r 5) (a_ci (e_i 8) (a_ci (e_i 10) a_nil))))))))
    (s_retZ (e_if (c_cmp i_eq (e_callI M_X8_strike (a_cr (e_r 0) (a_ci (e_i 8) (a_ci (e_ald (e_r 5) (e_i 10)) a_nil)))) (e_i 11)) (e_k (nI 1)) (e_k (nI 0))))))) s_skip)
    (s_seq (s_if (c_cmp i_eq (e_i 6) (e_k (nI 16)))
    (s_blk 10 (s_seq (s_decI 10 (e_callI M_L_settle (a_cr (e_r 1) (a_cr (e_r 2) a_nil))))
    (s_retZ (e_if (c_cmp i_eq (e_callI M_X8_settle (a_cr (e_r 0) a_nil)) (e_i 10)) (e_k (nI 1)) (e_k (nI 0)))))) s_skip)
    (s_seq (s_decI 10 (e_rem (e_i 7) (e_k (nI 2))))
    (s_seq (s_decI 11 (e_ald (e_r 2) (e_add (e_k (nI 1)) (e_i 10))))
    (s_seq (s_ast (e_r 2) (e_add (e_k (nI 1)) (e_i 10)) (e_if (c_cmp0 i_eq (e_i 10)) (e_rem (e_i 9) (e_k (nI 3))) (e_add (e_k (nI 1)) (e_rem (e_i 9) (e_k (nI 4))))))
    (s_retZ (e_if (c_cmp i_eq (e_callI M_X8_set (a_cr (e_r 0) (a_ci (e_i 10) (a_ci (e_ald (e_r 2) (e_add (e_k (nI 1)) (e_i 10))) a_nil)))) (e_i 11)) (e_k (nI 1)) (e_k (nI 0)))))))))))))))
def M_L_isActed : sSem := m_of 8 B_L_isActed
set_option maxRecDepth 100000 in
set_option maxHeartbeats 4000000 in
theorem S_L_isActed : sSS (cL_isActed, wsL_isActed, RL, (some .boolean), 6, 140, 13, vwCl, RX6, false) 0 0 B_L_isActed :=
  (ss_seq (pcA := 7) (ss_decI (pcA := 5) (se_rem (pcA := 2) (pcB := 4) (se_iload dL_isActed_0 rfl) (se_bipush dL_isActed_2 (by decide +kernel) rfl) dL_isActed_4 rfl) dL_isActed_5 (Nat.le_of_ble_eq_true rfl) rfl)
    (ss_seq (pcA := 14) (ss_decI (pcA := 12) (se_div (pcA := 9) (pcB := 11) (se_iload dL_isActed_7 rfl) (se_bipush dL_isActed_9 (by decide +kernel) rfl) dL_isActed_11 rfl) dL_isActed_12 (Nat.le_of_ble_eq_true rfl) rfl)
    (ss_seq (pcA := 115) (ss_if (pcT := 21) (pcF := 115) (sc_Flt (pcA := 16) (pcB := 18) (se_iload dL_isActed_14 rfl) (se_bipush dL_isActed_16 (by decide +kernel) rfl) dL_isActed_18 rfl rfl)
    (ss_blk (ss_seq (pcA := 31) (ss_decI (pcA := 29) (se_rem (pcA := 23) (pcB := 28) (se_iload dL_isActed_21 rfl) (se_add (pcA := 26) (pcB := 27) (se_ald (pcA := 24) (pcB := 25) (se_aload_n dL_isActed_23 rfl rfl) (se_iconst dL_isActed_24 (by decide +kernel) rfl) dL_isActed_25 rfl) (se_iconst dL_isActed_26 (by decide +kernel) rfl) dL_isActed_27 rfl) dL_isActed_28 rfl) dL_isActed_29 (Nat.le_of_ble_eq_true rfl) rfl)
    (ss_seq (pcA := 46) (ss_decI (pcA := 44) (se_callSI (pcA := 41) (index := 74) (sa_ci (pcA := 39) (se_div (pcA := 33) (pcB := 38) (se_iload dL_isActed_31 rfl) (se_add (pcA := 36) (pcB := 37) (se_ald (pcA := 34) (pcB := 35) (se_aload_n dL_isActed_33 rfl rfl) (se_iconst dL_isActed_34 (by decide +kernel) rfl) dL_isActed_35 rfl) (se_iconst dL_isActed_36 (by decide +kernel) rfl) dL_isActed_37 rfl) dL_isActed_38 rfl) (sa_cr (pcA := 41) (se_aload dL_isActed_39 rfl) sa_nil)) T_L_number gL_isActed_L_number rfl (by decide +kernel) (Nat.le_of_ble_eq_true rfl) (Nat.le_of_ble_eq_true rfl) (s_LenI (s_LenR s_Len0)) (Nat.le_of_ble_eq_true rfl) dL_isActed_41 rfl) dL_isActed_44 (Nat.le_of_ble_eq_true rfl) rfl)
    (ss_seq (pcA := 61) (ss_decI (pcA := 59) (se_if (pcT := 54) (pcF := 58) (pcG := 55) (sc_Feq (pcA := 49) (pcB := 51) (se_ald (pcA := 47) (pcB := 48) (se_aload_n dL_isActed_46 rfl rfl) (se_iconst dL_isActed_47 (by decide +kernel) rfl) dL_isActed_48 rfl) (se_bipush dL_isActed_49 (by decide +kernel) rfl) dL_isActed_51 rfl rfl) (se_iconst dL_isActed_54 (by decide +kernel) rfl) dL_isActed_55 rfl (se_iconst dL_isActed_58 (by decide +kernel) rfl)) dL_isActed_59 (Nat.le_of_ble_eq_true rfl) rfl)
    (ss_seq (pcA := 85) (ss_if (pcT := 66) (pcF := 85) (sc_not (sc_Tne0 (pcB := 63) (se_iload dL_isActed_61 rfl) dL_isActed_63 rfl rfl))
    (ss_seq (pcA := 75) (ss_callVS (pcA := 72) (index := 78) (sa_cr (pcA := 67) (se_aload_n dL_isActed_66 rfl rfl) (sa_cr (pcA := 68) (se_aload_n dL_isActed_67 rfl rfl) (sa_ci (pcA := 70) (se_iload dL_isActed_68 rfl) (sa_ci (pcA := 72) (se_iload dL_isActed_70 rfl) sa_nil)))) T_L_put gL_isActed_L_put rfl (by decide +kernel) (Nat.le_of_ble_eq_true rfl) (Nat.le_of_ble_eq_true rfl) (s_LenR (s_LenR (s_LenI (s_LenI s_Len0)))) dL_isActed_72 rfl)
    (ss_callVS (pcA := 82) (index := 30) (sa_cr (pcA := 77) (se_aload dL_isActed_75 rfl) (sa_cr (pcA := 79) (se_aload dL_isActed_77 rfl) (sa_ci (pcA := 81) (se_iload dL_isActed_79 rfl) (sa_ci (pcA := 82) (se_iconst dL_isActed_81 (by decide +kernel) rfl) sa_nil)))) T_L_account gL_isActed_L_account rfl (by decide +kernel) (Nat.le_of_ble_eq_true rfl) (Nat.le_of_ble_eq_true rfl) (s_LenR (s_LenR (s_LenI (s_LenI s_Len0)))) dL_isActed_82 rfl)) ss_skip)
    (ss_retZ (pcA := 114) (se_if (pcT := 109) (pcF := 113) (pcG := 110) (sc_Feq (pcA := 93) (pcB := 106) (se_callVI (pcA := 90) (ci := 6) (index := 81) (sa_cr (pcA := 86) (se_aload_n dL_isActed_85 rfl rfl) (sa_ci (pcA := 88) (se_iload dL_isActed_86 rfl) (sa_ci (pcA := 90) (se_iload dL_isActed_88 rfl) sa_nil))) T_X8_add (s_Rcv_of 6 _ _) rfl gL_isActed_X8_add rfl (by decide +kernel) (Nat.le_of_ble_eq_true rfl) (Nat.le_of_ble_eq_true rfl) (s_LenR (s_LenI (s_LenI s_Len0))) (Nat.le_of_ble_eq_true rfl) dL_isActed_90 rfl) (se_if (pcT := 98) (pcF := 103) (pcG := 100) (sc_Fne0 (pcB := 95) (se_iload dL_isActed_93 rfl) dL_isActed_95 rfl rfl) (se_bipush dL_isActed_98 (by decide +kernel) rfl) dL_isActed_100 rfl (se_ald (pcA := 104) (pcB := 105) (se_aload_n dL_isActed_103 rfl rfl) (se_iconst dL_isActed_104 (by decide +kernel) rfl) dL_isActed_105 rfl)) dL_isActed_106 rfl rfl) (se_iconst dL_isActed_109 (by decide +kernel) rfl) dL_isActed_110 rfl (se_iconst dL_isActed_113 (by decide +kernel) rfl)) dL_isActed_114 rfl)))))) ss_skip)
    (ss_seq (pcA := 182) (ss_if (pcT := 122) (pcF := 182) (sc_Feq (pcA := 117) (pcB := 119) (se_iload dL_isActed_115 rfl) (se_bipush dL_isActed_117 (by decide +kernel) rfl) dL_isActed_119 rfl rfl)
    (ss_blk (ss_seq (pcA := 140) (ss_decI (pcA := 138) (se_if (pcT := 130) (pcF := 137) (pcG := 134) (sc_Flt (pcA := 124) (pcB := 127) (se_iload dL_isActed_122 rfl) (se_ald (pcA := 125) (pcB := 126) (se_aload_n dL_isActed_124 rfl rfl) (se_iconst dL_isActed_125 (by decide +kernel) rfl) dL_isActed_126 rfl) dL_isActed_127 rfl rfl) (se_ald (pcA := 131) (pcB := 133) (se_aload_n dL_isActed_130 rfl rfl) (se_iload dL_isActed_131 rfl) dL_isActed_133 rfl) dL_isActed_134 rfl (se_iconst dL_isActed_137 (by decide +kernel) rfl)) dL_isActed_138 (Nat.le_of_ble_eq_true rfl) rfl)
    (ss_seq (pcA := 165) (ss_if (pcT := 148) (pcF := 165) (sc_Flt (pcA := 142) (pcB := 145) (se_iload dL_isActed_140 rfl) (se_ald (pcA := 143) (pcB := 144) (se_aload_n dL_isActed_142 rfl rfl) (se_iconst dL_isActed_143 (by decide +kernel) rfl) dL_isActed_144 rfl) dL_isActed_145 rfl rfl)
    (ss_seq (pcA := 155) (ss_callVS (pcA := 152) (index := 26) (sa_cr (pcA := 149) (se_aload_n dL_isActed_148 rfl rfl) (sa_cr (pcA := 150) (se_aload_n dL_isActed_149 rfl rfl) (sa_ci (pcA := 152) (se_iload dL_isActed_150 rfl) sa_nil))) T_L_out gL_isActed_L_out rfl (by decide +kernel) (Nat.le_of_ble_eq_true rfl) (Nat.le_of_ble_eq_true rfl) (s_LenR (s_LenR (s_LenI s_Len0))) dL_isActed_152 rfl)
    (ss_callVS (pcA := 162) (index := 30) (sa_cr (pcA := 157) (se_aload dL_isActed_155 rfl) (sa_cr (pcA := 159) (se_aload dL_isActed_157 rfl) (sa_ci (pcA := 161) (se_iload dL_isActed_159 rfl) (sa_ci (pcA := 162) (se_iconst dL_isActed_161 (by decide +kernel) rfl) sa_nil)))) T_L_account gL_isActed_L_account rfl (by decide +kernel) (Nat.le_of_ble_eq_true rfl) (Nat.le_of_ble_eq_true rfl) (s_LenR (s_LenR (s_LenI (s_LenI s_Len0)))) dL_isActed_162 rfl)) ss_skip)
    (ss_retZ (pcA := 181) (se_if (pcT := 176) (pcF := 180) (pcG := 177) (sc_Feq (pcA := 171) (pcB := 173) (se_callVI (pcA := 168) (ci := 6) (index := 84) (sa_cr (pcA := 166) (se_aload_n dL_isActed_165 rfl rfl) (sa_ci (pcA := 168) (se_iload dL_isActed_166 rfl) sa_nil)) T_X8_take (s_Rcv_of 6 _ _) rfl gL_isActed_X8_take rfl (by decide +kernel) (Nat.le_of_ble_eq_true rfl) (Nat.le_of_ble_eq_true rfl) (s_LenR (s_LenI s_Len0)) (Nat.le_of_ble_eq_true rfl) dL_isActed_168 rfl) (se_iload dL_isActed_171 rfl) dL_isActed_173 rfl rfl) (se_iconst dL_isActed_176 (by decide +kernel) rfl) dL_isActed_177 rfl (se_iconst dL_isActed_180 (by decide +kernel) rfl)) dL_isActed_181 rfl)))) ss_skip)
    (ss_seq (pcA := 215) (ss_if (pcT := 189) (pcF := 215) (sc_Flt (pcA := 184) (pcB := 186) (se_iload dL_isActed_182 rfl) (se_bipush dL_isActed_184 (by decide +kernel) rfl) dL_isActed_186 rfl rfl)
    (ss_blk (ss_seq (pcA := 198) (ss_decI (pcA := 196) (se_callSI (pcA := 193) (index := 41) (sa_cr (pcA := 190) (se_aload_n dL_isActed_189 rfl rfl) (sa_cr (pcA := 191) (se_aload_n dL_isActed_190 rfl rfl) (sa_ci (pcA := 193) (se_iload dL_isActed_191 rfl) sa_nil))) T_L_share gL_isActed_L_share rfl (by decide +kernel) (Nat.le_of_ble_eq_true rfl) (Nat.le_of_ble_eq_true rfl) (s_LenR (s_LenR (s_LenI s_Len0))) (Nat.le_of_ble_eq_true rfl) dL_isActed_193 rfl) dL_isActed_196 (Nat.le_of_ble_eq_true rfl) rfl)
    (ss_retZ (pcA := 214) (se_if (pcT := 209) (pcF := 213) (pcG := 210) (sc_Feq (pcA := 204) (pcB := 206) (se_callVI (pcA := 201) (ci := 6) (index := 87) (sa_cr (pcA := 199) (se_aload_n dL_isActed_198 rfl rfl) (sa_ci (pcA := 201) (se_iload dL_isActed_199 rfl) sa_nil)) T_X8_share (s_Rcv_of 6 _ _) rfl gL_isActed_X8_share rfl (by decide +kernel) (Nat.le_of_ble_eq_true rfl) (Nat.le_of_ble_eq_true rfl) (s_LenR (s_LenI s_Len0)) (Nat.le_of_ble_eq_true rfl) dL_isActed_201 rfl) (se_iload dL_isActed_204 rfl) dL_isActed_206 rfl rfl) (se_iconst dL_isActed_209 (by decide +kernel) rfl) dL_isActed_210 rfl (se_iconst dL_isActed_213 (by decide +kernel) rfl)) dL_isActed_214 rfl))) ss_skip)
    (ss_seq (pcA := 251) (ss_if (pcT := 222) (pcF := 251) (sc_Flt (pcA := 217) (pcB := 219) (se_iload dL_isActed_215 rfl) (se_bipush dL_isActed_217 (by decide +kernel) rfl) dL_isActed_219 rfl rfl)
    (ss_blk (ss_seq (pcA := 234) (ss_decI (pcA := 232) (se_callSI (pcA := 229) (index := 89) (sa_cr (pcA := 223) (se_aload_n dL_isActed_222 rfl rfl) (sa_cr (pcA := 224) (se_aload_n dL_isActed_223 rfl rfl) (sa_cr (pcA := 225) (se_aload_n dL_isActed_224 rfl rfl) (sa_cr (pcA := 227) (se_aload dL_isActed_225 rfl) (sa_ci (pcA := 229) (se_iload dL_isActed_227 rfl) sa_nil))))) T_L_divide gL_isActed_L_divide rfl (by decide +kernel) (Nat.le_of_ble_eq_true rfl) (Nat.le_of_ble_eq_true rfl) (s_LenR (s_LenR (s_LenR (s_LenR (s_LenI s_Len0))))) (Nat.le_of_ble_eq_true rfl) dL_isActed_229 rfl) dL_isActed_232 (Nat.le_of_ble_eq_true rfl) rfl)
    (ss_retZ (pcA := 250) (se_if (pcT := 245) (pcF := 249) (pcG := 246) (sc_Feq (pcA := 240) (pcB := 242) (se_callVI (pcA := 237) (ci := 6) (index := 93) (sa_cr (pcA := 235) (se_aload_n dL_isActed_234 rfl rfl) (sa_ci (pcA := 237) (se_iload dL_isActed_235 rfl) sa_nil)) T_X8_divide (s_Rcv_of 6 _ _) rfl gL_isActed_X8_divide rfl (by decide +kernel) (Nat.le_of_ble_eq_true rfl) (Nat.le_of_ble_eq_true rfl) (s_LenR (s_LenI s_Len0)) (Nat.le_of_ble_eq_true rfl) dL_isActed_237 rfl) (se_iload dL_isActed_240 rfl) dL_isActed_242 rfl rfl) (se_iconst dL_isActed_245 (by decide +kernel) rfl) dL_isActed_246 rfl (se_iconst dL_isActed_249 (by decide +kernel) rfl)) dL_isActed_250 rfl))) ss_skip)
    (ss_seq (pcA := 319) (ss_if (pcT := 258) (pcF := 319) (sc_Flt (pcA := 253) (pcB := 255) (se_iload dL_isActed_251 rfl) (se_bipush dL_isActed_253 (by decide +kernel) rfl) dL_isActed_255 rfl rfl)
    (ss_blk (ss_seq (pcA := 283) (ss_decI (pcA := 281) (se_if (pcT := 265) (pcF := 275) (pcG := 272) (sc_Feq0 (pcB := 262) (se_rem (pcA := 260) (pcB := 261) (se_iload dL_isActed_258 rfl) (se_iconst dL_isActed_260 (by decide +kernel) rfl) dL_isActed_261 rfl) dL_isActed_262 rfl rfl) (se_rem (pcA := 269) (pcB := 271) (se_div (pcA := 267) (pcB := 268) (se_iload dL_isActed_265 rfl) (se_iconst dL_isActed_267 (by decide +kernel) rfl) dL_isActed_268 rfl) (se_bipush dL_isActed_269 (by decide +kernel) rfl) dL_isActed_271 rfl) dL_isActed_272 rfl (se_rem (pcA := 279) (pcB := 280) (se_div (pcA := 277) (pcB := 278) (se_iload dL_isActed_275 rfl) (se_iconst dL_isActed_277 (by decide +kernel) rfl) dL_isActed_278 rfl) (se_iconst dL_isActed_279 (by decide +kernel) rfl) dL_isActed_280 rfl)) dL_isActed_281 (Nat.le_of_ble_eq_true rfl) rfl)
    (ss_seq (pcA := 297) (ss_decI (pcA := 295) (se_callSI (pcA := 292) (index := 95) (sa_cr (pcA := 284) (se_aload_n dL_isActed_283 rfl rfl) (sa_cr (pcA := 285) (se_aload_n dL_isActed_284 rfl rfl) (sa_cr (pcA := 286) (se_aload_n dL_isActed_285 rfl rfl) (sa_cr (pcA := 288) (se_aload dL_isActed_286 rfl) (sa_ci (pcA := 290) (se_iload dL_isActed_288 rfl) (sa_ci (pcA := 292) (se_iload dL_isActed_290 rfl) sa_nil)))))) T_L_strike gL_isActed_L_strike rfl (by decide +kernel) (Nat.le_of_ble_eq_true rfl) (Nat.le_of_ble_eq_true rfl) (s_LenR (s_LenR (s_LenR (s_LenR (s_LenI (s_LenI s_Len0)))))) (Nat.le_of_ble_eq_true rfl) dL_isActed_292 rfl) dL_isActed_295 (Nat.le_of_ble_eq_true rfl) rfl)
    (ss_retZ (pcA := 318) (se_if (pcT := 313) (pcF := 317) (pcG := 314) (sc_Feq (pcA := 308) (pcB := 310) (se_callVI (pcA := 305) (ci := 6) (index := 99) (sa_cr (pcA := 298) (se_aload_n dL_isActed_297 rfl rfl) (sa_ci (pcA := 300) (se_iload dL_isActed_298 rfl) (sa_ci (pcA := 305) (se_ald (pcA := 302) (pcB := 304) (se_aload dL_isActed_300 rfl) (se_iload dL_isActed_302 rfl) dL_isActed_304 rfl) sa_nil))) T_X8_strike (s_Rcv_of 6 _ _) rfl gL_isActed_X8_strike rfl (by decide +kernel) (Nat.le_of_ble_eq_true rfl) (Nat.le_of_ble_eq_true rfl) (s_LenR (s_LenI (s_LenI s_Len0))) (Nat.le_of_ble_eq_true rfl) dL_isActed_305 rfl) (se_iload dL_isActed_308 rfl) dL_isActed_310 rfl rfl) (se_iconst dL_isActed_313 (by decide +kernel) rfl) dL_isActed_314 rfl (se_iconst dL_isActed_317 (by decide +kernel) rfl)) dL_isActed_318 rfl)))) ss_skip)
    (ss_seq (pcA := 348) (ss_if (pcT := 326) (pcF := 348) (sc_Feq (pcA := 321) (pcB := 323) (se_iload dL_isActed_319 rfl) (se_bipush dL_isActed_321 (by decide +kernel) rfl) dL_isActed_323 rfl rfl)
    (ss_blk (ss_seq (pcA := 333) (ss_decI (pcA := 331) (se_callSI (pcA := 328) (index := 101) (sa_cr (pcA := 327) (se_aload_n dL_isActed_326 rfl rfl) (sa_cr (pcA := 328) (se_aload_n dL_isActed_327 rfl rfl) sa_nil)) T_L_settle gL_isActed_L_settle rfl (by decide +kernel) (Nat.le_of_ble_eq_true rfl) (Nat.le_of_ble_eq_true rfl) (s_LenR (s_LenR s_Len0)) (Nat.le_of_ble_eq_true rfl) dL_isActed_328 rfl) dL_isActed_331 (Nat.le_of_ble_eq_true rfl) rfl)
    (ss_retZ (pcA := 347) (se_if (pcT := 342) (pcF := 346) (pcG := 343) (sc_Feq (pcA := 337) (pcB := 339) (se_callVI (pcA := 334) (ci := 6) (index := 105) (sa_cr (pcA := 334) (se_aload_n dL_isActed_333 rfl rfl) sa_nil) T_X8_settle (s_Rcv_of 6 _ _) rfl gL_isActed_X8_settle rfl (by decide +kernel) (Nat.le_of_ble_eq_true rfl) (Nat.le_of_ble_eq_true rfl) (s_LenR s_Len0) (Nat.le_of_ble_eq_true rfl) dL_isActed_334 rfl) (se_iload dL_isActed_337 rfl) dL_isActed_339 rfl rfl) (se_iconst dL_isActed_342 (by decide +kernel) rfl) dL_isActed_343 rfl (se_iconst dL_isActed_346 (by decide +kernel) rfl)) dL_isActed_347 rfl))) ss_skip)
    (ss_seq (pcA := 354) (ss_decI (pcA := 352) (se_rem (pcA := 350) (pcB := 351) (se_iload dL_isActed_348 rfl) (se_iconst dL_isActed_350 (by decide +kernel) rfl) dL_isActed_351 rfl) dL_isActed_352 (Nat.le_of_ble_eq_true rfl) rfl)
    (ss_seq (pcA := 362) (ss_decI (pcA := 360) (se_ald (pcA := 355) (pcB := 359) (se_aload_n dL_isActed_354 rfl rfl) (se_add (pcA := 356) (pcB := 358) (se_iconst dL_isActed_355 (by decide +kernel) rfl) (se_iload dL_isActed_356 rfl) dL_isActed_358 rfl) dL_isActed_359 rfl) dL_isActed_360 (Nat.le_of_ble_eq_true rfl) rfl)
    (ss_seq (pcA := 386) (ss_ast (pcA := 363) (pcI := 367) (pcB := 385) (se_aload_n dL_isActed_362 rfl rfl) (se_add (pcA := 364) (pcB := 366) (se_iconst dL_isActed_363 (by decide +kernel) rfl) (se_iload dL_isActed_364 rfl) dL_isActed_366 rfl) (se_if (pcT := 372) (pcF := 379) (pcG := 376) (sc_Feq0 (pcB := 369) (se_iload dL_isActed_367 rfl) dL_isActed_369 rfl rfl) (se_rem (pcA := 374) (pcB := 375) (se_iload dL_isActed_372 rfl) (se_iconst dL_isActed_374 (by decide +kernel) rfl) dL_isActed_375 rfl) dL_isActed_376 rfl (se_add (pcA := 380) (pcB := 384) (se_iconst dL_isActed_379 (by decide +kernel) rfl) (se_rem (pcA := 382) (pcB := 383) (se_iload dL_isActed_380 rfl) (se_iconst dL_isActed_382 (by decide +kernel) rfl) dL_isActed_383 rfl) dL_isActed_384 rfl)) dL_isActed_385 rfl)
    (ss_retZ (pcA := 408) (se_if (pcT := 403) (pcF := 407) (pcG := 404) (sc_Feq (pcA := 398) (pcB := 400) (se_callVI (pcA := 395) (ci := 6) (index := 107) (sa_cr (pcA := 387) (se_aload_n dL_isActed_386 rfl rfl) (sa_ci (pcA := 389) (se_iload dL_isActed_387 rfl) (sa_ci (pcA := 395) (se_ald (pcA := 390) (pcB := 394) (se_aload_n dL_isActed_389 rfl rfl) (se_add (pcA := 391) (pcB := 393) (se_iconst dL_isActed_390 (by decide +kernel) rfl) (se_iload dL_isActed_391 rfl) dL_isActed_393 rfl) dL_isActed_394 rfl) sa_nil))) T_X8_set (s_Rcv_of 6 _ _) rfl gL_isActed_X8_set rfl (by decide +kernel) (Nat.le_of_ble_eq_true rfl) (Nat.le_of_ble_eq_true rfl) (s_LenR (s_LenI (s_LenI s_Len0))) (Nat.le_of_ble_eq_true rfl) dL_isActed_395 rfl) (se_iload dL_isActed_398 rfl) dL_isActed_400 rfl rfl) (se_iconst dL_isActed_403 (by decide +kernel) rfl) dL_isActed_404 rfl (se_iconst dL_isActed_407 (by decide +kernel) rfl)) dL_isActed_408 rfl))))))))))))
theorem T_L_isActed : sMet vwCl RX6 yL_isActed wsL_isActed 6 140 M_L_isActed := sMet_of rfl (by decide +kernel) rfl rfl (fun h => by cases h) (m_of_run _ _) S_L_isActed (m_of_cat _ _ (Nat.le_of_ble_eq_true rfl))
