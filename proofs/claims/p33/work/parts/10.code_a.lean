/-! printed by wip/p33/j2p.py out of the Java texts and the listing -/
def B_X5_at : sStm :=
  (s_retI (e_if (c_and (c_and (c_nn (e_r 0)) (c_cmp0 i_ge (e_i 1))) (c_cmp i_lt (e_i 1) (e_len (e_r 0)))) (e_ald (e_r 0) (e_i 1)) (e_k (nI 0))))
def M_X5_at : sSem := m_of 2 B_X5_at
set_option maxRecDepth 100000 in
set_option maxHeartbeats 4000000 in
theorem S_X5_at : sSS (cX5_at, wsX5_at, RX5, (some .int), 0, 0, 2, vwCl, RX6, false) 0 0 B_X5_at :=
  (ss_retI (pcA := 21) (se_if (pcT := 14) (pcF := 20) (pcG := 17) (sc_and (pcA := 8) (sc_and (pcA := 4) (sc_Fnn (pcB := 1) (se_aload_n dX5_at_0 rfl rfl) dX5_at_1 rfl rfl) (sc_Fge0 (pcB := 5) (se_iload_n dX5_at_4 rfl rfl) dX5_at_5 rfl rfl)) (sc_Flt (pcA := 9) (pcB := 11) (se_iload_n dX5_at_8 rfl rfl) (se_len (pcA := 10) (se_aload_n dX5_at_9 rfl rfl) dX5_at_10 rfl) dX5_at_11 rfl rfl)) (se_ald (pcA := 15) (pcB := 16) (se_aload_n dX5_at_14 rfl rfl) (se_iload_n dX5_at_15 rfl rfl) dX5_at_16 rfl) dX5_at_17 rfl (se_iconst dX5_at_20 (by decide +kernel) rfl)) dX5_at_21 rfl)
theorem T_X5_at : sMet vwCl RX6 yX5_at wsX5_at 0 0 M_X5_at := sMet_of rfl (by decide +kernel) rfl rfl (fun h => by cases h) (m_of_run _ _) S_X5_at (m_of_cat _ _ (Nat.le_of_ble_eq_true rfl))
def B_X5_put : sStm :=
  (s_seq (s_if (c_and (c_and (c_nn (e_r 0)) (c_cmp0 i_ge (e_i 1))) (c_cmp i_lt (e_i 1) (e_len (e_r 0))))
    (s_ast (e_r 0) (e_i 1) (e_i 2)) s_skip)
    s_ret0)
def M_X5_put : sSem := m_of 3 B_X5_put
set_option maxRecDepth 100000 in
set_option maxHeartbeats 4000000 in
theorem S_X5_put : sSS (cX5_put, wsX5_put, RX5, none, 0, 0, 3, vwCl, RX6, false) 0 0 B_X5_put :=
  (ss_seq (pcA := 18) (ss_if (pcT := 14) (pcF := 18) (sc_and (pcA := 8) (sc_and (pcA := 4) (sc_Fnn (pcB := 1) (se_aload_n dX5_put_0 rfl rfl) dX5_put_1 rfl rfl) (sc_Fge0 (pcB := 5) (se_iload_n dX5_put_4 rfl rfl) dX5_put_5 rfl rfl)) (sc_Flt (pcA := 9) (pcB := 11) (se_iload_n dX5_put_8 rfl rfl) (se_len (pcA := 10) (se_aload_n dX5_put_9 rfl rfl) dX5_put_10 rfl) dX5_put_11 rfl rfl))
    (ss_ast (pcA := 15) (pcI := 16) (pcB := 17) (se_aload_n dX5_put_14 rfl rfl) (se_iload_n dX5_put_15 rfl rfl) (se_iload_n dX5_put_16 rfl rfl) dX5_put_17 rfl) ss_skip)
    (ss_ret0 dX5_put_18 rfl))
theorem T_X5_put : sMet vwCl RX6 yX5_put wsX5_put 0 0 M_X5_put := sMet_of rfl (by decide +kernel) rfl rfl (fun h => by cases h) (m_of_run _ _) S_X5_put (m_of_cat _ _ (Nat.le_of_ble_eq_true rfl))
abbrev C_X5_copy_1 : sCd := (c_cmp i_lt (e_i 3) (e_i 2))
abbrev W_X5_copy_1 : sStm :=
  (s_seq (s_callV M_X5_put (a_cr (e_r 1) (a_ci (e_i 3) (a_ci (e_callI M_X5_at (a_cr (e_r 0) (a_ci (e_i 3) a_nil))) a_nil))))
    (s_inc 3 (nI 1)))
def B_X5_copy : sStm :=
  (s_seq (s_blk 3 (s_seq (s_decI 3 (e_k (nI 0)))
    (s_while C_X5_copy_1 W_X5_copy_1)))
    s_ret0)
def M_X5_copy : sSem := m_of 3 B_X5_copy
set_option maxRecDepth 100000 in
set_option maxHeartbeats 4000000 in
theorem S_X5_copy : sSS (cX5_copy, wsX5_copy, RX5, none, 1, 22, 4, vwCl, RX6, false) 0 0 B_X5_copy :=
  (ss_seq (pcA := 23) (ss_blk (ss_seq (pcA := 2) (ss_decI_n (pcA := 1) (se_iconst dX5_copy_0 (by decide +kernel) rfl) dX5_copy_1 rfl (Nat.le_of_ble_eq_true rfl) rfl)
    (ss_while (pcB := 7) (sc_Flt (pcA := 3) (pcB := 4) (se_iload_n dX5_copy_2 rfl rfl) (se_iload_n dX5_copy_3 rfl rfl) dX5_copy_4 rfl rfl)
    (ss_seq (pcA := 17) (ss_callVS (pcA := 14) (index := 13) (sa_cr (pcA := 8) (se_aload_n dX5_copy_7 rfl rfl) (sa_ci (pcA := 9) (se_iload_n dX5_copy_8 rfl rfl) (sa_ci (pcA := 14) (se_callSI (pcA := 11) (index := 7) (sa_cr (pcA := 10) (se_aload_n dX5_copy_9 rfl rfl) (sa_ci (pcA := 11) (se_iload_n dX5_copy_10 rfl rfl) sa_nil)) T_X5_at gX5_copy_X5_at rfl (by decide +kernel) (Nat.le_of_ble_eq_true rfl) (Nat.le_of_ble_eq_true rfl) (s_LenR (s_LenI s_Len0)) (Nat.le_of_ble_eq_true rfl) dX5_copy_11 rfl) sa_nil))) T_X5_put gX5_copy_X5_put rfl (by decide +kernel) (Nat.le_of_ble_eq_true rfl) (Nat.le_of_ble_eq_true rfl) (s_LenR (s_LenI (s_LenI s_Len0))) dX5_copy_14 rfl)
    (ss_goto (pcG := 20) (ss_inc dX5_copy_17 (Nat.le_of_ble_eq_true rfl) (by decide +kernel) rfl) dX5_copy_20 rfl)))))
    (ss_ret0 dX5_copy_23 rfl))
theorem T_X5_copy : sMet vwCl RX6 yX5_copy wsX5_copy 1 22 M_X5_copy := sMet_of rfl (by decide +kernel) rfl rfl (fun h => by cases h) (m_of_run _ _) S_X5_copy (m_of_cat _ _ (Nat.le_of_ble_eq_true rfl))
theorem na_X5_longer : Cond.arrayClass .int ∈ wsX5_longer := by decide +kernel
abbrev C_X5_longer_1 : sCd := (c_and (c_and (c_nn (e_r 0)) (c_cmp i_lt (e_i 4) (e_len (e_r 0)))) (c_cmp i_lt (e_i 4) (e_len (e_r 3))))
abbrev W_X5_longer_1 : sStm :=
  (s_seq (s_ast (e_r 3) (e_i 4) (e_ald (e_r 0) (e_i 4)))
    (s_inc 4 (nI 1)))
def B_X5_longer : sStm :=
  (s_seq (s_decI 2 (e_if (c_null (e_r 0)) (e_k (nI 0)) (e_len (e_r 0))))
    (s_seq (s_decR 3 (e_newa (e_if (c_cmp i_gt (e_i 1) (e_i 2)) (e_i 1) (e_i 2))))
    (s_seq (s_blk 4 (s_seq (s_decI 4 (e_k (nI 0)))
    (s_while C_X5_longer_1 W_X5_longer_1)))
    (s_retR (e_r 3)))))
def M_X5_longer : sSem := m_of 2 B_X5_longer
set_option maxRecDepth 100000 in
set_option maxHeartbeats 4000000 in
theorem S_X5_longer : sSS (cX5_longer, wsX5_longer, RX5, (some (.array .int)), 0, 0, 5, vwCl, RX6, false) 0 0 B_X5_longer :=
  (ss_seq (pcA := 11) (ss_decI_n (pcA := 10) (se_if (pcT := 4) (pcF := 8) (pcG := 5) (sc_Fnull (pcB := 1) (se_aload_n dX5_longer_0 rfl rfl) dX5_longer_1 rfl rfl) (se_iconst dX5_longer_4 (by decide +kernel) rfl) dX5_longer_5 rfl (se_len (pcA := 9) (se_aload_n dX5_longer_8 rfl rfl) dX5_longer_9 rfl)) dX5_longer_10 rfl (Nat.le_of_ble_eq_true rfl) rfl)
    (ss_seq (pcA := 24) (ss_decR_n (pcA := 23) (se_newa (pcA := 21) (se_if (pcT := 16) (pcF := 20) (pcG := 17) (sc_Fgt (pcA := 12) (pcB := 13) (se_iload_n dX5_longer_11 rfl rfl) (se_iload_n dX5_longer_12 rfl rfl) dX5_longer_13 rfl rfl) (se_iload_n dX5_longer_16 rfl rfl) dX5_longer_17 rfl (se_iload_n dX5_longer_20 rfl rfl)) na_X5_longer dX5_longer_21 rfl) dX5_longer_23 rfl (Nat.le_of_ble_eq_true rfl) rfl)
    (ss_seq (pcA := 59) (ss_blk (ss_seq (pcA := 27) (ss_decI (pcA := 25) (se_iconst dX5_longer_24 (by decide +kernel) rfl) dX5_longer_25 (Nat.le_of_ble_eq_true rfl) rfl)
    (ss_while (pcB := 45) (sc_and (pcA := 38) (sc_and (pcA := 31) (sc_Fnn (pcB := 28) (se_aload_n dX5_longer_27 rfl rfl) dX5_longer_28 rfl rfl) (sc_Flt (pcA := 33) (pcB := 35) (se_iload dX5_longer_31 rfl) (se_len (pcA := 34) (se_aload_n dX5_longer_33 rfl rfl) dX5_longer_34 rfl) dX5_longer_35 rfl rfl)) (sc_Flt (pcA := 40) (pcB := 42) (se_iload dX5_longer_38 rfl) (se_len (pcA := 41) (se_aload_n dX5_longer_40 rfl rfl) dX5_longer_41 rfl) dX5_longer_42 rfl rfl))
    (ss_seq (pcA := 53) (ss_ast (pcA := 46) (pcI := 48) (pcB := 52) (se_aload_n dX5_longer_45 rfl rfl) (se_iload dX5_longer_46 rfl) (se_ald (pcA := 49) (pcB := 51) (se_aload_n dX5_longer_48 rfl rfl) (se_iload dX5_longer_49 rfl) dX5_longer_51 rfl) dX5_longer_52 rfl)
    (ss_goto (pcG := 56) (ss_inc dX5_longer_53 (Nat.le_of_ble_eq_true rfl) (by decide +kernel) rfl) dX5_longer_56 rfl)))))
    (ss_retR (pcA := 60) (se_aload_n dX5_longer_59 rfl rfl) dX5_longer_60 rfl (Or.inr ⟨_, rfl⟩)))))
theorem T_X5_longer : sMet vwCl RX6 yX5_longer wsX5_longer 0 0 M_X5_longer := sMet_of rfl (by decide +kernel) rfl rfl (fun h => by cases h) (m_of_run _ _) S_X5_longer (m_of_cat _ _ (Nat.le_of_ble_eq_true rfl))
def B_X7_isNumber : sStm :=
  (s_retZ (e_if (c_and (c_cmp i_ge (e_i 0) (e_k (nI 1))) (c_cmp i_le (e_i 0) (e_k (nI 9999)))) (e_k (nI 1)) (e_k (nI 0))))
def M_X7_isNumber : sSem := m_of 1 B_X7_isNumber
set_option maxRecDepth 100000 in
set_option maxHeartbeats 4000000 in
theorem S_X7_isNumber : sSS (cX7_isNumber, wsX7_isNumber, RX7, (some .boolean), 0, 0, 1, vwCl, RX6, false) 0 0 B_X7_isNumber :=
  (ss_retZ (pcA := 17) (se_if (pcT := 12) (pcF := 16) (pcG := 13) (sc_and (pcA := 5) (sc_Fge (pcA := 1) (pcB := 2) (se_iload_n dX7_isNumber_0 rfl rfl) (se_iconst dX7_isNumber_1 (by decide +kernel) rfl) dX7_isNumber_2 rfl rfl) (sc_Fle (pcA := 6) (pcB := 9) (se_iload_n dX7_isNumber_5 rfl rfl) (se_sipush dX7_isNumber_6 (by decide +kernel) rfl) dX7_isNumber_9 rfl rfl)) (se_iconst dX7_isNumber_12 (by decide +kernel) rfl) dX7_isNumber_13 rfl (se_iconst dX7_isNumber_16 (by decide +kernel) rfl)) dX7_isNumber_17 rfl)
theorem T_X7_isNumber : sMet vwCl RX6 yX7_isNumber wsX7_isNumber 0 0 M_X7_isNumber := sMet_of rfl (by decide +kernel) rfl rfl (fun h => by cases h) (m_of_run _ _) S_X7_isNumber (m_of_cat _ _ (Nat.le_of_ble_eq_true rfl))
def B_X7_divides : sStm :=
  (s_retZ (e_if (c_and (c_cmp0 i_gt (e_i 0)) (c_cmp0 i_eq (e_rem (e_i 1) (e_i 0)))) (e_k (nI 1)) (e_k (nI 0))))
def M_X7_divides : sSem := m_of 2 B_X7_divides
set_option maxRecDepth 100000 in
set_option maxHeartbeats 4000000 in
theorem S_X7_divides : sSS (cX7_divides, wsX7_divides, RX7, (some .boolean), 0, 0, 2, vwCl, RX6, false) 0 0 B_X7_divides :=
  (ss_retZ (pcA := 15) (se_if (pcT := 10) (pcF := 14) (pcG := 11) (sc_and (pcA := 4) (sc_Fgt0 (pcB := 1) (se_iload_n dX7_divides_0 rfl rfl) dX7_divides_1 rfl rfl) (sc_Feq0 (pcB := 7) (se_rem (pcA := 5) (pcB := 6) (se_iload_n dX7_divides_4 rfl rfl) (se_iload_n dX7_divides_5 rfl rfl) dX7_divides_6 rfl) dX7_divides_7 rfl rfl)) (se_iconst dX7_divides_10 (by decide +kernel) rfl) dX7_divides_11 rfl (se_iconst dX7_divides_14 (by decide +kernel) rfl)) dX7_divides_15 rfl)
theorem T_X7_divides : sMet vwCl RX6 yX7_divides wsX7_divides 0 0 M_X7_divides := sMet_of rfl (by decide +kernel) rfl rfl (fun h => by cases h) (m_of_run _ _) S_X7_divides (m_of_cat _ _ (Nat.le_of_ble_eq_true rfl))
abbrev C_X7_leastPrime_1 : sCd := (c_and (c_cmp i_lt (e_i 1) (e_k (nI 100))) (c_cmp i_le (e_mul (e_i 1) (e_i 1)) (e_i 0)))
abbrev W_X7_leastPrime_1 : sStm :=
  (s_seq (s_if (c_cmp0 i_ne (e_callI M_X7_divides (a_ci (e_i 1) (a_ci (e_i 0) a_nil))))
    (s_retI (e_i 1)) s_skip)
    (s_inc 1 (nI 1)))
def B_X7_leastPrime : sStm :=
  (s_seq (s_blk 1 (s_seq (s_decI 1 (e_k (nI 2)))
    (s_while C_X7_leastPrime_1 W_X7_leastPrime_1)))
    (s_retI (e_i 0)))
def M_X7_leastPrime : sSem := m_of 1 B_X7_leastPrime
set_option maxRecDepth 100000 in
set_option maxHeartbeats 4000000 in
theorem S_X7_leastPrime : sSS (cX7_leastPrime, wsX7_leastPrime, RX7, (some .int), 1, 21, 2, vwCl, RX6, false) 0 0 B_X7_leastPrime :=
  (ss_seq (pcA := 31) (ss_blk (ss_seq (pcA := 2) (ss_decI_n (pcA := 1) (se_iconst dX7_leastPrime_0 (by decide +kernel) rfl) dX7_leastPrime_1 rfl (Nat.le_of_ble_eq_true rfl) rfl)
    (ss_while (pcB := 15) (sc_and (pcA := 8) (sc_Flt (pcA := 3) (pcB := 5) (se_iload_n dX7_leastPrime_2 rfl rfl) (se_bipush dX7_leastPrime_3 (by decide +kernel) rfl) dX7_leastPrime_5 rfl rfl) (sc_Fle (pcA := 11) (pcB := 12) (se_mul (pcA := 9) (pcB := 10) (se_iload_n dX7_leastPrime_8 rfl rfl) (se_iload_n dX7_leastPrime_9 rfl rfl) dX7_leastPrime_10 rfl) (se_iload_n dX7_leastPrime_11 rfl rfl) dX7_leastPrime_12 rfl rfl))
    (ss_seq (pcA := 25) (ss_if (pcT := 23) (pcF := 25) (sc_Fne0 (pcB := 20) (se_callSI (pcA := 17) (index := 15) (sa_ci (pcA := 16) (se_iload_n dX7_leastPrime_15 rfl rfl) (sa_ci (pcA := 17) (se_iload_n dX7_leastPrime_16 rfl rfl) sa_nil)) T_X7_divides gX7_leastPrime_X7_divides rfl (by decide +kernel) (Nat.le_of_ble_eq_true rfl) (Nat.le_of_ble_eq_true rfl) (s_LenI (s_LenI s_Len0)) (Nat.le_of_ble_eq_true rfl) dX7_leastPrime_17 rfl) dX7_leastPrime_20 rfl rfl)
    (ss_retI (pcA := 24) (se_iload_n dX7_leastPrime_23 rfl rfl) dX7_leastPrime_24 rfl) ss_skip)
    (ss_goto (pcG := 28) (ss_inc dX7_leastPrime_25 (Nat.le_of_ble_eq_true rfl) (by decide +kernel) rfl) dX7_leastPrime_28 rfl)))))
    (ss_retI (pcA := 32) (se_iload_n dX7_leastPrime_31 rfl rfl) dX7_leastPrime_32 rfl))
theorem T_X7_leastPrime : sMet vwCl RX6 yX7_leastPrime wsX7_leastPrime 1 21 M_X7_leastPrime := sMet_of rfl (by decide +kernel) rfl rfl (fun h => by cases h) (m_of_run _ _) S_X7_leastPrime (m_of_cat _ _ (Nat.le_of_ble_eq_true rfl))
def B_X7_isPrime : sStm :=
  (s_retZ (e_if (c_and (c_and (c_cmp i_ge (e_i 0) (e_k (nI 2))) (c_cmp i_le (e_i 0) (e_k (nI 9999)))) (c_cmp i_eq (e_callI M_X7_leastPrime (a_ci (e_i 0) a_nil)) (e_i 0))) (e_k (nI 1)) (e_k (nI 0))))
def M_X7_isPrime : sSem := m_of 1 B_X7_isPrime
set_option maxRecDepth 100000 in
set_option maxHeartbeats 4000000 in
theorem S_X7_isPrime : sSS (cX7_isPrime, wsX7_isPrime, RX7, (some .boolean), 2, 42, 1, vwCl, RX6, false) 0 0 B_X7_isPrime :=
  (ss_retZ (pcA := 25) (se_if (pcT := 20) (pcF := 24) (pcG := 21) (sc_and (pcA := 12) (sc_and (pcA := 5) (sc_Fge (pcA := 1) (pcB := 2) (se_iload_n dX7_isPrime_0 rfl rfl) (se_iconst dX7_isPrime_1 (by decide +kernel) rfl) dX7_isPrime_2 rfl rfl) (sc_Fle (pcA := 6) (pcB := 9) (se_iload_n dX7_isPrime_5 rfl rfl) (se_sipush dX7_isPrime_6 (by decide +kernel) rfl) dX7_isPrime_9 rfl rfl)) (sc_Feq (pcA := 16) (pcB := 17) (se_callSI (pcA := 13) (index := 9) (sa_ci (pcA := 13) (se_iload_n dX7_isPrime_12 rfl rfl) sa_nil) T_X7_leastPrime gX7_isPrime_X7_leastPrime rfl (by decide +kernel) (Nat.le_of_ble_eq_true rfl) (Nat.le_of_ble_eq_true rfl) (s_LenI s_Len0) (Nat.le_of_ble_eq_true rfl) dX7_isPrime_13 rfl) (se_iload_n dX7_isPrime_16 rfl rfl) dX7_isPrime_17 rfl rfl)) (se_iconst dX7_isPrime_20 (by decide +kernel) rfl) dX7_isPrime_21 rfl (se_iconst dX7_isPrime_24 (by decide +kernel) rfl)) dX7_isPrime_25 rfl)
theorem T_X7_isPrime : sMet vwCl RX6 yX7_isPrime wsX7_isPrime 2 42 M_X7_isPrime := sMet_of rfl (by decide +kernel) rfl rfl (fun h => by cases h) (m_of_run _ _) S_X7_isPrime (m_of_cat _ _ (Nat.le_of_ble_eq_true rfl))
def B_X7_quotient : sStm :=
  (s_retI (e_if (c_cmp0 i_gt (e_i 1)) (e_div (e_i 0) (e_i 1)) (e_i 0)))
def M_X7_quotient : sSem := m_of 2 B_X7_quotient
set_option maxRecDepth 100000 in
set_option maxHeartbeats 4000000 in
theorem S_X7_quotient : sSS (cX7_quotient, wsX7_quotient, RX7, (some .int), 0, 0, 2, vwCl, RX6, false) 0 0 B_X7_quotient :=
  (ss_retI (pcA := 11) (se_if (pcT := 4) (pcF := 10) (pcG := 7) (sc_Fgt0 (pcB := 1) (se_iload_n dX7_quotient_0 rfl rfl) dX7_quotient_1 rfl rfl) (se_div (pcA := 5) (pcB := 6) (se_iload_n dX7_quotient_4 rfl rfl) (se_iload_n dX7_quotient_5 rfl rfl) dX7_quotient_6 rfl) dX7_quotient_7 rfl (se_iload_n dX7_quotient_10 rfl rfl)) dX7_quotient_11 rfl)
theorem T_X7_quotient : sMet vwCl RX6 yX7_quotient wsX7_quotient 0 0 M_X7_quotient := sMet_of rfl (by decide +kernel) rfl rfl (fun h => by cases h) (m_of_run _ _) S_X7_quotient (m_of_cat _ _ (Nat.le_of_ble_eq_true rfl))
abbrev C_X7_exponent_1 : sCd := (c_and (c_and (c_cmp i_lt (e_i 4) (e_k (nI 13))) (c_cmp i_gt (e_i 1) (e_k (nI 1)))) (c_cmp0 i_ne (e_callI M_X7_divides (a_ci (e_i 1) (a_ci (e_i 2) a_nil)))))
abbrev W_X7_exponent_1 : sStm :=
  (s_seq (s_seq (s_setI 2 (e_callI M_X7_quotient (a_ci (e_i 2) (a_ci (e_i 1) a_nil))))
    (s_inc 3 (nI 1)))
    (s_inc 4 (nI 1)))
def B_X7_exponent : sStm :=
  (s_seq (s_decI 2 (e_i 0))
    (s_seq (s_decI 3 (e_k (nI 0)))
    (s_seq (s_blk 4 (s_seq (s_decI 4 (e_k (nI 0)))
    (s_while C_X7_exponent_1 W_X7_exponent_1)))
    (s_retI (e_i 3)))))
def M_X7_exponent : sSem := m_of 2 B_X7_exponent
set_option maxRecDepth 100000 in
set_option maxHeartbeats 4000000 in
theorem S_X7_exponent : sSS (cX7_exponent, wsX7_exponent, RX7, (some .int), 1, 21, 5, vwCl, RX6, false) 0 0 B_X7_exponent :=
  (ss_seq (pcA := 2) (ss_decI_n (pcA := 1) (se_iload_n dX7_exponent_0 rfl rfl) dX7_exponent_1 rfl (Nat.le_of_ble_eq_true rfl) rfl)
    (ss_seq (pcA := 4) (ss_decI_n (pcA := 3) (se_iconst dX7_exponent_2 (by decide +kernel) rfl) dX7_exponent_3 rfl (Nat.le_of_ble_eq_true rfl) rfl)
    (ss_seq (pcA := 42) (ss_blk (ss_seq (pcA := 7) (ss_decI (pcA := 5) (se_iconst dX7_exponent_4 (by decide +kernel) rfl) dX7_exponent_5 (Nat.le_of_ble_eq_true rfl) rfl)
    (ss_while (pcB := 27) (sc_and (pcA := 19) (sc_and (pcA := 14) (sc_Flt (pcA := 9) (pcB := 11) (se_iload dX7_exponent_7 rfl) (se_bipush dX7_exponent_9 (by decide +kernel) rfl) dX7_exponent_11 rfl rfl) (sc_Fgt (pcA := 15) (pcB := 16) (se_iload_n dX7_exponent_14 rfl rfl) (se_iconst dX7_exponent_15 (by decide +kernel) rfl) dX7_exponent_16 rfl rfl)) (sc_Fne0 (pcB := 24) (se_callSI (pcA := 21) (index := 15) (sa_ci (pcA := 20) (se_iload_n dX7_exponent_19 rfl rfl) (sa_ci (pcA := 21) (se_iload_n dX7_exponent_20 rfl rfl) sa_nil)) T_X7_divides gX7_exponent_X7_divides rfl (by decide +kernel) (Nat.le_of_ble_eq_true rfl) (Nat.le_of_ble_eq_true rfl) (s_LenI (s_LenI s_Len0)) (Nat.le_of_ble_eq_true rfl) dX7_exponent_21 rfl) dX7_exponent_24 rfl rfl))
    (ss_seq (pcA := 36) (ss_seq (pcA := 33) (ss_setI_n (pcA := 32) (se_callSI (pcA := 29) (index := 23) (sa_ci (pcA := 28) (se_iload_n dX7_exponent_27 rfl rfl) (sa_ci (pcA := 29) (se_iload_n dX7_exponent_28 rfl rfl) sa_nil)) T_X7_quotient gX7_exponent_X7_quotient rfl (by decide +kernel) (Nat.le_of_ble_eq_true rfl) (Nat.le_of_ble_eq_true rfl) (s_LenI (s_LenI s_Len0)) (Nat.le_of_ble_eq_true rfl) dX7_exponent_29 rfl) dX7_exponent_32 rfl (Nat.le_of_ble_eq_true rfl) rfl)
    (ss_inc dX7_exponent_33 (Nat.le_of_ble_eq_true rfl) (by decide +kernel) rfl))
    (ss_goto (pcG := 39) (ss_inc dX7_exponent_36 (Nat.le_of_ble_eq_true rfl) (by decide +kernel) rfl) dX7_exponent_39 rfl)))))
    (ss_retI (pcA := 43) (se_iload_n dX7_exponent_42 rfl rfl) dX7_exponent_43 rfl))))
theorem T_X7_exponent : sMet vwCl RX6 yX7_exponent wsX7_exponent 1 21 M_X7_exponent := sMet_of rfl (by decide +kernel) rfl rfl (fun h => by cases h) (m_of_run _ _) S_X7_exponent (m_of_cat _ _ (Nat.le_of_ble_eq_true rfl))
abbrev C_X7_withoutPrime_1 : sCd := (c_cmp0 i_gt (e_i 3))
abbrev W_X7_withoutPrime_1 : sStm :=
  (s_seq (s_setI 2 (e_callI M_X7_quotient (a_ci (e_i 2) (a_ci (e_i 1) a_nil))))
    (s_inc 3 (-1)))
def B_X7_withoutPrime : sStm :=
  (s_seq (s_decI 2 (e_i 0))
    (s_seq (s_blk 3 (s_seq (s_decI 3 (e_callI M_X7_exponent (a_ci (e_i 0) (a_ci (e_i 1) a_nil))))
    (s_while C_X7_withoutPrime_1 W_X7_withoutPrime_1)))
    (s_retI (e_i 2))))
def M_X7_withoutPrime : sSem := m_of 2 B_X7_withoutPrime
set_option maxRecDepth 100000 in
set_option maxHeartbeats 4000000 in
theorem S_X7_withoutPrime : sSS (cX7_withoutPrime, wsX7_withoutPrime, RX7, (some .int), 2, 45, 4, vwCl, RX6, false) 0 0 B_X7_withoutPrime :=
  (ss_seq (pcA := 2) (ss_decI_n (pcA := 1) (se_iload_n dX7_withoutPrime_0 rfl rfl) dX7_withoutPrime_1 rfl (Nat.le_of_ble_eq_true rfl) rfl)
    (ss_seq (pcA := 24) (ss_blk (ss_seq (pcA := 8) (ss_decI_n (pcA := 7) (se_callSI (pcA := 4) (index := 26) (sa_ci (pcA := 3) (se_iload_n dX7_withoutPrime_2 rfl rfl) (sa_ci (pcA := 4) (se_iload_n dX7_withoutPrime_3 rfl rfl) sa_nil)) T_X7_exponent gX7_withoutPrime_X7_exponent rfl (by decide +kernel) (Nat.le_of_ble_eq_true rfl) (Nat.le_of_ble_eq_true rfl) (s_LenI (s_LenI s_Len0)) (Nat.le_of_ble_eq_true rfl) dX7_withoutPrime_4 rfl) dX7_withoutPrime_7 rfl (Nat.le_of_ble_eq_true rfl) rfl)
    (ss_while (pcB := 12) (sc_Fgt0 (pcB := 9) (se_iload_n dX7_withoutPrime_8 rfl rfl) dX7_withoutPrime_9 rfl rfl)
    (ss_seq (pcA := 18) (ss_setI_n (pcA := 17) (se_callSI (pcA := 14) (index := 23) (sa_ci (pcA := 13) (se_iload_n dX7_withoutPrime_12 rfl rfl) (sa_ci (pcA := 14) (se_iload_n dX7_withoutPrime_13 rfl rfl) sa_nil)) T_X7_quotient gX7_withoutPrime_X7_quotient rfl (by decide +kernel) (Nat.le_of_ble_eq_true rfl) (Nat.le_of_ble_eq_true rfl) (s_LenI (s_LenI s_Len0)) (Nat.le_of_ble_eq_true rfl) dX7_withoutPrime_14 rfl) dX7_withoutPrime_17 rfl (Nat.le_of_ble_eq_true rfl) rfl)
    (ss_goto (pcG := 21) (ss_inc dX7_withoutPrime_18 (Nat.le_of_ble_eq_true rfl) (by decide +kernel) rfl) dX7_withoutPrime_21 rfl)))))
    (ss_retI (pcA := 25) (se_iload_n dX7_withoutPrime_24 rfl rfl) dX7_withoutPrime_25 rfl)))
theorem T_X7_withoutPrime : sMet vwCl RX6 yX7_withoutPrime wsX7_withoutPrime 2 45 M_X7_withoutPrime := sMet_of rfl (by decide +kernel) rfl rfl (fun h => by cases h) (m_of_run _ _) S_X7_withoutPrime (m_of_cat _ _ (Nat.le_of_ble_eq_true rfl))
abbrev C_X7_greatestPrime_1 : sCd := (c_and (c_cmp i_lt (e_i 3) (e_k (nI 13))) (c_cmp i_gt (e_i 1) (e_k (nI 1))))
abbrev W_X7_greatestPrime_1 : sStm :=
  (s_seq (s_seq (s_setI 2 (e_callI M_X7_leastPrime (a_ci (e_i 1) a_nil)))
    (s_setI 1 (e_callI M_X7_withoutPrime (a_ci (e_i 1) (a_ci (e_i 2) a_nil)))))
    (s_inc 3 (nI 1)))
def B_X7_greatestPrime : sStm :=
  (s_seq (s_decI 1 (e_i 0))
    (s_seq (s_decI 2 (e_k (nI 1)))
    (s_seq (s_blk 3 (s_seq (s_decI 3 (e_k (nI 0)))
    (s_while C_X7_greatestPrime_1 W_X7_greatestPrime_1)))
    (s_retI (e_i 2)))))
def M_X7_greatestPrime : sSem := m_of 1 B_X7_greatestPrime
set_option maxRecDepth 100000 in
set_option maxHeartbeats 4000000 in
theorem S_X7_greatestPrime : sSS (cX7_greatestPrime, wsX7_greatestPrime, RX7, (some .int), 3, 68, 4, vwCl, RX6, false) 0 0 B_X7_greatestPrime :=
  (ss_seq (pcA := 2) (ss_decI_n (pcA := 1) (se_iload_n dX7_greatestPrime_0 rfl rfl) dX7_greatestPrime_1 rfl (Nat.le_of_ble_eq_true rfl) rfl)
    (ss_seq (pcA := 4) (ss_decI_n (pcA := 3) (se_iconst dX7_greatestPrime_2 (by decide +kernel) rfl) dX7_greatestPrime_3 rfl (Nat.le_of_ble_eq_true rfl) rfl)
    (ss_seq (pcA := 34) (ss_blk (ss_seq (pcA := 6) (ss_decI_n (pcA := 5) (se_iconst dX7_greatestPrime_4 (by decide +kernel) rfl) dX7_greatestPrime_5 rfl (Nat.le_of_ble_eq_true rfl) rfl)
    (ss_while (pcB := 17) (sc_and (pcA := 12) (sc_Flt (pcA := 7) (pcB := 9) (se_iload_n dX7_greatestPrime_6 rfl rfl) (se_bipush dX7_greatestPrime_7 (by decide +kernel) rfl) dX7_greatestPrime_9 rfl rfl) (sc_Fgt (pcA := 13) (pcB := 14) (se_iload_n dX7_greatestPrime_12 rfl rfl) (se_iconst dX7_greatestPrime_13 (by decide +kernel) rfl) dX7_greatestPrime_14 rfl rfl))
    (ss_seq (pcA := 28) (ss_seq (pcA := 22) (ss_setI_n (pcA := 21) (se_callSI (pcA := 18) (index := 9) (sa_ci (pcA := 18) (se_iload_n dX7_greatestPrime_17 rfl rfl) sa_nil) T_X7_leastPrime gX7_greatestPrime_X7_leastPrime rfl (by decide +kernel) (Nat.le_of_ble_eq_true rfl) (Nat.le_of_ble_eq_true rfl) (s_LenI s_Len0) (Nat.le_of_ble_eq_true rfl) dX7_greatestPrime_18 rfl) dX7_greatestPrime_21 rfl (Nat.le_of_ble_eq_true rfl) rfl)
    (ss_setI_n (pcA := 27) (se_callSI (pcA := 24) (index := 19) (sa_ci (pcA := 23) (se_iload_n dX7_greatestPrime_22 rfl rfl) (sa_ci (pcA := 24) (se_iload_n dX7_greatestPrime_23 rfl rfl) sa_nil)) T_X7_withoutPrime gX7_greatestPrime_X7_withoutPrime rfl (by decide +kernel) (Nat.le_of_ble_eq_true rfl) (Nat.le_of_ble_eq_true rfl) (s_LenI (s_LenI s_Len0)) (Nat.le_of_ble_eq_true rfl) dX7_greatestPrime_24 rfl) dX7_greatestPrime_27 rfl (Nat.le_of_ble_eq_true rfl) rfl))
    (ss_goto (pcG := 31) (ss_inc dX7_greatestPrime_28 (Nat.le_of_ble_eq_true rfl) (by decide +kernel) rfl) dX7_greatestPrime_31 rfl)))))
    (ss_retI (pcA := 35) (se_iload_n dX7_greatestPrime_34 rfl rfl) dX7_greatestPrime_35 rfl))))
theorem T_X7_greatestPrime : sMet vwCl RX6 yX7_greatestPrime wsX7_greatestPrime 3 68 M_X7_greatestPrime := sMet_of rfl (by decide +kernel) rfl rfl (fun h => by cases h) (m_of_run _ _) S_X7_greatestPrime (m_of_cat _ _ (Nat.le_of_ble_eq_true rfl))
abbrev C_X7_factors_1 : sCd := (c_and (c_cmp i_lt (e_i 3) (e_k (nI 13))) (c_cmp i_gt (e_i 1) (e_k (nI 1))))
abbrev W_X7_factors_1 : sStm :=
  (s_seq (s_seq (s_setI 1 (e_callI M_X7_quotient (a_ci (e_i 1) (a_ci (e_callI M_X7_leastPrime (a_ci (e_i 1) a_nil)) a_nil))))
    (s_inc 2 (nI 1)))
    (s_inc 3 (nI 1)))
def B_X7_factors : sStm :=
  (s_seq (s_decI 1 (e_i 0))
    (s_seq (s_decI 2 (e_k (nI 0)))
    (s_seq (s_blk 3 (s_seq (s_decI 3 (e_k (nI 0)))
    (s_while C_X7_factors_1 W_X7_factors_1)))
    (s_retI (e_i 2)))))
def M_X7_factors : sSem := m_of 1 B_X7_factors
set_option maxRecDepth 100000 in
set_option maxHeartbeats 4000000 in
theorem S_X7_factors : sSS (cX7_factors, wsX7_factors, RX7, (some .int), 2, 42, 4, vwCl, RX6, false) 0 0 B_X7_factors :=
  (ss_seq (pcA := 2) (ss_decI_n (pcA := 1) (se_iload_n dX7_factors_0 rfl rfl) dX7_factors_1 rfl (Nat.le_of_ble_eq_true rfl) rfl)
    (ss_seq (pcA := 4) (ss_decI_n (pcA := 3) (se_iconst dX7_factors_2 (by decide +kernel) rfl) dX7_factors_3 rfl (Nat.le_of_ble_eq_true rfl) rfl)
    (ss_seq (pcA := 35) (ss_blk (ss_seq (pcA := 6) (ss_decI_n (pcA := 5) (se_iconst dX7_factors_4 (by decide +kernel) rfl) dX7_factors_5 rfl (Nat.le_of_ble_eq_true rfl) rfl)
    (ss_while (pcB := 17) (sc_and (pcA := 12) (sc_Flt (pcA := 7) (pcB := 9) (se_iload_n dX7_factors_6 rfl rfl) (se_bipush dX7_factors_7 (by decide +kernel) rfl) dX7_factors_9 rfl rfl) (sc_Fgt (pcA := 13) (pcB := 14) (se_iload_n dX7_factors_12 rfl rfl) (se_iconst dX7_factors_13 (by decide +kernel) rfl) dX7_factors_14 rfl rfl))
    (ss_seq (pcA := 29) (ss_seq (pcA := 26) (ss_setI_n (pcA := 25) (se_callSI (pcA := 22) (index := 23) (sa_ci (pcA := 18) (se_iload_n dX7_factors_17 rfl rfl) (sa_ci (pcA := 22) (se_callSI (pcA := 19) (index := 9) (sa_ci (pcA := 19) (se_iload_n dX7_factors_18 rfl rfl) sa_nil) T_X7_leastPrime gX7_factors_X7_leastPrime rfl (by decide +kernel) (Nat.le_of_ble_eq_true rfl) (Nat.le_of_ble_eq_true rfl) (s_LenI s_Len0) (Nat.le_of_ble_eq_true rfl) dX7_factors_19 rfl) sa_nil)) T_X7_quotient gX7_factors_X7_quotient rfl (by decide +kernel) (Nat.le_of_ble_eq_true rfl) (Nat.le_of_ble_eq_true rfl) (s_LenI (s_LenI s_Len0)) (Nat.le_of_ble_eq_true rfl) dX7_factors_22 rfl) dX7_factors_25 rfl (Nat.le_of_ble_eq_true rfl) rfl)
    (ss_inc dX7_factors_26 (Nat.le_of_ble_eq_true rfl) (by decide +kernel) rfl))
    (ss_goto (pcG := 32) (ss_inc dX7_factors_29 (Nat.le_of_ble_eq_true rfl) (by decide +kernel) rfl) dX7_factors_32 rfl)))))
    (ss_retI (pcA := 36) (se_iload_n dX7_factors_35 rfl rfl) dX7_factors_36 rfl))))
theorem T_X7_factors : sMet vwCl RX6 yX7_factors wsX7_factors 2 42 M_X7_factors := sMet_of rfl (by decide +kernel) rfl rfl (fun h => by cases h) (m_of_run _ _) S_X7_factors (m_of_cat _ _ (Nat.le_of_ble_eq_true rfl))
abbrev C_X7_differentFactors_1 : sCd := (c_and (c_cmp i_lt (e_i 3) (e_k (nI 13))) (c_cmp i_gt (e_i 1) (e_k (nI 1))))
abbrev W_X7_differentFactors_1 : sStm :=
  (s_seq (s_seq (s_setI 1 (e_callI M_X7_withoutPrime (a_ci (e_i 1) (a_ci (e_callI M_X7_leastPrime (a_ci (e_i 1) a_nil)) a_nil))))
    (s_inc 2 (nI 1)))
    (s_inc 3 (nI 1)))
def B_X7_differentFactors : sStm :=
  (s_seq (s_decI 1 (e_i 0))
    (s_seq (s_decI 2 (e_k (nI 0)))
    (s_seq (s_blk 3 (s_seq (s_decI 3 (e_k (nI 0)))
    (s_while C_X7_differentFactors_1 W_X7_differentFactors_1)))
    (s_retI (e_i 2)))))
def M_X7_differentFactors : sSem := m_of 1 B_X7_differentFactors
set_option maxRecDepth 100000 in
set_option maxHeartbeats 4000000 in
theorem S_X7_differentFactors : sSS (cX7_differentFactors, wsX7_differentFactors, RX7, (some .int), 3, 68, 4, vwCl, RX6, false) 0 0 B_X7_differentFactors :=
  (ss_seq (pcA := 2) (ss_decI_n (pcA := 1) (se_iload_n dX7_differentFactors_0 rfl rfl) dX7_differentFactors_1 rfl (Nat.le_of_ble_eq_true rfl) rfl)
    (ss_seq (pcA := 4) (ss_decI_n (pcA := 3) (se_iconst dX7_differentFactors_2 (by decide +kernel) rfl) dX7_differentFactors_3 rfl (Nat.le_of_ble_eq_true rfl) rfl)
    (ss_seq (pcA := 35) (ss_blk (ss_seq (pcA := 6) (ss_decI_n (pcA := 5) (se_iconst dX7_differentFactors_4 (by decide +kernel) rfl) dX7_differentFactors_5 rfl (Nat.le_of_ble_eq_true rfl) rfl)
    (ss_while (pcB := 17) (sc_and (pcA := 12) (sc_Flt (pcA := 7) (pcB := 9) (se_iload_n dX7_differentFactors_6 rfl rfl) (se_bipush dX7_differentFactors_7 (by decide +kernel) rfl) dX7_differentFactors_9 rfl rfl) (sc_Fgt (pcA := 13) (pcB := 14) (se_iload_n dX7_differentFactors_12 rfl rfl) (se_iconst dX7_differentFactors_13 (by decide +kernel) rfl) dX7_differentFactors_14 rfl rfl))
    (ss_seq (pcA := 29) (ss_seq (pcA := 26) (ss_setI_n (pcA := 25) (se_callSI (pcA := 22) (index := 19) (sa_ci (pcA := 18) (se_iload_n dX7_differentFactors_17 rfl rfl) (sa_ci (pcA := 22) (se_callSI (pcA := 19) (index := 9) (sa_ci (pcA := 19) (se_iload_n dX7_differentFactors_18 rfl rfl) sa_nil) T_X7_leastPrime gX7_differentFactors_X7_leastPrime rfl (by decide +kernel) (Nat.le_of_ble_eq_true rfl) (Nat.le_of_ble_eq_true rfl) (s_LenI s_Len0) (Nat.le_of_ble_eq_true rfl) dX7_differentFactors_19 rfl) sa_nil)) T_X7_withoutPrime gX7_differentFactors_X7_withoutPrime rfl (by decide +kernel) (Nat.le_of_ble_eq_true rfl) (Nat.le_of_ble_eq_true rfl) (s_LenI (s_LenI s_Len0)) (Nat.le_of_ble_eq_true rfl) dX7_differentFactors_22 rfl) dX7_differentFactors_25 rfl (Nat.le_of_ble_eq_true rfl) rfl)
    (ss_inc dX7_differentFactors_26 (Nat.le_of_ble_eq_true rfl) (by decide +kernel) rfl))
    (ss_goto (pcG := 32) (ss_inc dX7_differentFactors_29 (Nat.le_of_ble_eq_true rfl) (by decide +kernel) rfl) dX7_differentFactors_32 rfl)))))
    (ss_retI (pcA := 36) (se_iload_n dX7_differentFactors_35 rfl rfl) dX7_differentFactors_36 rfl))))
theorem T_X7_differentFactors : sMet vwCl RX6 yX7_differentFactors wsX7_differentFactors 3 68 M_X7_differentFactors := sMet_of rfl (by decide +kernel) rfl rfl (fun h => by cases h) (m_of_run _ _) S_X7_differentFactors (m_of_cat _ _ (Nat.le_of_ble_eq_true rfl))
abbrev C_X7_factorAt_1 : sCd := (c_and (c_cmp i_lt (e_i 3) (e_k (nI 13))) (c_cmp i_gt (e_i 2) (e_k (nI 1))))
abbrev W_X7_factorAt_1 : sStm :=
  (s_seq (s_blk 4 (s_seq (s_decI 4 (e_callI M_X7_leastPrime (a_ci (e_i 2) a_nil)))
    (s_seq (s_if (c_cmp i_eq (e_i 3) (e_i 1))
    (s_retI (e_i 4)) s_skip)
    (s_setI 2 (e_callI M_X7_quotient (a_ci (e_i 2) (a_ci (e_i 4) a_nil)))))))
    (s_inc 3 (nI 1)))
def B_X7_factorAt : sStm :=
  (s_seq (s_decI 2 (e_i 0))
    (s_seq (s_blk 3 (s_seq (s_decI 3 (e_k (nI 0)))
    (s_while C_X7_factorAt_1 W_X7_factorAt_1)))
    (s_retI (e_k (-1)))))
def M_X7_factorAt : sSem := m_of 2 B_X7_factorAt
set_option maxRecDepth 100000 in
set_option maxHeartbeats 4000000 in
theorem S_X7_factorAt : sSS (cX7_factorAt, wsX7_factorAt, RX7, (some .int), 2, 42, 5, vwCl, RX6, false) 0 0 B_X7_factorAt :=
  (ss_seq (pcA := 2) (ss_decI_n (pcA := 1) (se_iload_n dX7_factorAt_0 rfl rfl) dX7_factorAt_1 rfl (Nat.le_of_ble_eq_true rfl) rfl)
    (ss_seq (pcA := 42) (ss_blk (ss_seq (pcA := 4) (ss_decI_n (pcA := 3) (se_iconst dX7_factorAt_2 (by decide +kernel) rfl) dX7_factorAt_3 rfl (Nat.le_of_ble_eq_true rfl) rfl)
    (ss_while (pcB := 15) (sc_and (pcA := 10) (sc_Flt (pcA := 5) (pcB := 7) (se_iload_n dX7_factorAt_4 rfl rfl) (se_bipush dX7_factorAt_5 (by decide +kernel) rfl) dX7_factorAt_7 rfl rfl) (sc_Fgt (pcA := 11) (pcB := 12) (se_iload_n dX7_factorAt_10 rfl rfl) (se_iconst dX7_factorAt_11 (by decide +kernel) rfl) dX7_factorAt_12 rfl rfl))
    (ss_seq (pcA := 36) (ss_blk (ss_seq (pcA := 21) (ss_decI (pcA := 19) (se_callSI (pcA := 16) (index := 9) (sa_ci (pcA := 16) (se_iload_n dX7_factorAt_15 rfl rfl) sa_nil) T_X7_leastPrime gX7_factorAt_X7_leastPrime rfl (by decide +kernel) (Nat.le_of_ble_eq_true rfl) (Nat.le_of_ble_eq_true rfl) (s_LenI s_Len0) (Nat.le_of_ble_eq_true rfl) dX7_factorAt_16 rfl) dX7_factorAt_19 (Nat.le_of_ble_eq_true rfl) rfl)
    (ss_seq (pcA := 29) (ss_if (pcT := 26) (pcF := 29) (sc_Feq (pcA := 22) (pcB := 23) (se_iload_n dX7_factorAt_21 rfl rfl) (se_iload_n dX7_factorAt_22 rfl rfl) dX7_factorAt_23 rfl rfl)
    (ss_retI (pcA := 28) (se_iload dX7_factorAt_26 rfl) dX7_factorAt_28 rfl) ss_skip)
    (ss_setI_n (pcA := 35) (se_callSI (pcA := 32) (index := 23) (sa_ci (pcA := 30) (se_iload_n dX7_factorAt_29 rfl rfl) (sa_ci (pcA := 32) (se_iload dX7_factorAt_30 rfl) sa_nil)) T_X7_quotient gX7_factorAt_X7_quotient rfl (by decide +kernel) (Nat.le_of_ble_eq_true rfl) (Nat.le_of_ble_eq_true rfl) (s_LenI (s_LenI s_Len0)) (Nat.le_of_ble_eq_true rfl) dX7_factorAt_32 rfl) dX7_factorAt_35 rfl (Nat.le_of_ble_eq_true rfl) rfl))))
    (ss_goto (pcG := 39) (ss_inc dX7_factorAt_36 (Nat.le_of_ble_eq_true rfl) (by decide +kernel) rfl) dX7_factorAt_39 rfl)))))
    (ss_retI (pcA := 43) (se_iconst dX7_factorAt_42 (by decide +kernel) rfl) dX7_factorAt_43 rfl)))
theorem T_X7_factorAt : sMet vwCl RX6 yX7_factorAt wsX7_factorAt 2 42 M_X7_factorAt := sMet_of rfl (by decide +kernel) rfl rfl (fun h => by cases h) (m_of_run _ _) S_X7_factorAt (m_of_cat _ _ (Nat.le_of_ble_eq_true rfl))
abbrev C_X7_divisorByRemainders_1 : sCd := (c_and (c_cmp i_lt (e_i 4) (e_k (nI 64))) (c_cmp0 i_ne (e_i 3)))
abbrev W_X7_divisorByRemainders_1 : sStm :=
  (s_seq (s_blk 5 (s_seq (s_decI 5 (e_rem (e_i 2) (e_i 3)))
    (s_seq (s_setI 2 (e_i 3))
    (s_setI 3 (e_i 5)))))
    (s_inc 4 (nI 1)))
def B_X7_divisorByRemainders : sStm :=
  (s_seq (s_decI 2 (e_i 0))
    (s_seq (s_decI 3 (e_i 1))
    (s_seq (s_blk 4 (s_seq (s_decI 4 (e_k (nI 0)))
    (s_while C_X7_divisorByRemainders_1 W_X7_divisorByRemainders_1)))
    (s_retI (e_i 2)))))
def M_X7_divisorByRemainders : sSem := m_of 2 B_X7_divisorByRemainders
set_option maxRecDepth 100000 in
set_option maxHeartbeats 4000000 in
theorem S_X7_divisorByRemainders : sSS (cX7_divisorByRemainders, wsX7_divisorByRemainders, RX7, (some .int), 0, 0, 6, vwCl, RX6, false) 0 0 B_X7_divisorByRemainders :=
  (ss_seq (pcA := 2) (ss_decI_n (pcA := 1) (se_iload_n dX7_divisorByRemainders_0 rfl rfl) dX7_divisorByRemainders_1 rfl (Nat.le_of_ble_eq_true rfl) rfl)
    (ss_seq (pcA := 4) (ss_decI_n (pcA := 3) (se_iload_n dX7_divisorByRemainders_2 rfl rfl) dX7_divisorByRemainders_3 rfl (Nat.le_of_ble_eq_true rfl) rfl)
    (ss_seq (pcA := 34) (ss_blk (ss_seq (pcA := 7) (ss_decI (pcA := 5) (se_iconst dX7_divisorByRemainders_4 (by decide +kernel) rfl) dX7_divisorByRemainders_5 (Nat.le_of_ble_eq_true rfl) rfl)
    (ss_while (pcB := 18) (sc_and (pcA := 14) (sc_Flt (pcA := 9) (pcB := 11) (se_iload dX7_divisorByRemainders_7 rfl) (se_bipush dX7_divisorByRemainders_9 (by decide +kernel) rfl) dX7_divisorByRemainders_11 rfl rfl) (sc_Fne0 (pcB := 15) (se_iload_n dX7_divisorByRemainders_14 rfl rfl) dX7_divisorByRemainders_15 rfl rfl))
    (ss_seq (pcA := 28) (ss_blk (ss_seq (pcA := 23) (ss_decI (pcA := 21) (se_rem (pcA := 19) (pcB := 20) (se_iload_n dX7_divisorByRemainders_18 rfl rfl) (se_iload_n dX7_divisorByRemainders_19 rfl rfl) dX7_divisorByRemainders_20 rfl) dX7_divisorByRemainders_21 (Nat.le_of_ble_eq_true rfl) rfl)
    (ss_seq (pcA := 25) (ss_setI_n (pcA := 24) (se_iload_n dX7_divisorByRemainders_23 rfl rfl) dX7_divisorByRemainders_24 rfl (Nat.le_of_ble_eq_true rfl) rfl)
    (ss_setI_n (pcA := 27) (se_iload dX7_divisorByRemainders_25 rfl) dX7_divisorByRemainders_27 rfl (Nat.le_of_ble_eq_true rfl) rfl))))
    (ss_goto (pcG := 31) (ss_inc dX7_divisorByRemainders_28 (Nat.le_of_ble_eq_true rfl) (by decide +kernel) rfl) dX7_divisorByRemainders_31 rfl)))))
    (ss_retI (pcA := 35) (se_iload_n dX7_divisorByRemainders_34 rfl rfl) dX7_divisorByRemainders_35 rfl))))
theorem T_X7_divisorByRemainders : sMet vwCl RX6 yX7_divisorByRemainders wsX7_divisorByRemainders 0 0 M_X7_divisorByRemainders := sMet_of rfl (by decide +kernel) rfl rfl (fun h => by cases h) (m_of_run _ _) S_X7_divisorByRemainders (m_of_cat _ _ (Nat.le_of_ble_eq_true rfl))
abbrev C_X7_divisorByFactors_1 : sCd := (c_and (c_cmp i_lt (e_i 5) (e_k (nI 13))) (c_cmp i_gt (e_i 2) (e_k (nI 1))))
abbrev W_X7_divisorByFactors_1 : sStm :=
  (s_seq (s_blk 6 (s_seq (s_decI 6 (e_callI M_X7_leastPrime (a_ci (e_i 2) a_nil)))
    (s_seq (s_setI 2 (e_callI M_X7_quotient (a_ci (e_i 2) (a_ci (e_i 6) a_nil))))
    (s_if (c_cmp0 i_ne (e_callI M_X7_divides (a_ci (e_i 6) (a_ci (e_i 3) a_nil))))
    (s_seq (s_setI 3 (e_callI M_X7_quotient (a_ci (e_i 3) (a_ci (e_i 6) a_nil))))
    (s_setI 4 (e_mul (e_i 4) (e_i 6)))) s_skip))))
    (s_inc 5 (nI 1)))
def B_X7_divisorByFactors : sStm :=
  (s_seq (s_decI 2 (e_i 0))
    (s_seq (s_decI 3 (e_i 1))
    (s_seq (s_decI 4 (e_k (nI 1)))
    (s_seq (s_blk 5 (s_seq (s_decI 5 (e_k (nI 0)))
    (s_while C_X7_divisorByFactors_1 W_X7_divisorByFactors_1)))
    (s_retI (e_i 4))))))
def M_X7_divisorByFactors : sSem := m_of 2 B_X7_divisorByFactors
set_option maxRecDepth 100000 in
set_option maxHeartbeats 4000000 in
theorem S_X7_divisorByFactors : sSS (cX7_divisorByFactors, wsX7_divisorByFactors, RX7, (some .int), 2, 42, 7, vwCl, RX6, false) 0 0 B_X7_divisorByFactors :=
  (ss_seq (pcA := 2) (ss_decI_n (pcA := 1) (se_iload_n dX7_divisorByFactors_0 rfl rfl) dX7_divisorByFactors_1 rfl (Nat.le_of_ble_eq_true rfl) rfl)
    (ss_seq (pcA := 4) (ss_decI_n (pcA := 3) (se_iload_n dX7_divisorByFactors_2 rfl rfl) dX7_divisorByFactors_3 rfl (Nat.le_of_ble_eq_true rfl) rfl)
    (ss_seq (pcA := 7) (ss_decI (pcA := 5) (se_iconst dX7_divisorByFactors_4 (by decide +kernel) rfl) dX7_divisorByFactors_5 (Nat.le_of_ble_eq_true rfl) rfl)
    (ss_seq (pcA := 64) (ss_blk (ss_seq (pcA := 10) (ss_decI (pcA := 8) (se_iconst dX7_divisorByFactors_7 (by decide +kernel) rfl) dX7_divisorByFactors_8 (Nat.le_of_ble_eq_true rfl) rfl)
    (ss_while (pcB := 22) (sc_and (pcA := 17) (sc_Flt (pcA := 12) (pcB := 14) (se_iload dX7_divisorByFactors_10 rfl) (se_bipush dX7_divisorByFactors_12 (by decide +kernel) rfl) dX7_divisorByFactors_14 rfl rfl) (sc_Fgt (pcA := 18) (pcB := 19) (se_iload_n dX7_divisorByFactors_17 rfl rfl) (se_iconst dX7_divisorByFactors_18 (by decide +kernel) rfl) dX7_divisorByFactors_19 rfl rfl))
    (ss_seq (pcA := 58) (ss_blk (ss_seq (pcA := 28) (ss_decI (pcA := 26) (se_callSI (pcA := 23) (index := 9) (sa_ci (pcA := 23) (se_iload_n dX7_divisorByFactors_22 rfl rfl) sa_nil) T_X7_leastPrime gX7_divisorByFactors_X7_leastPrime rfl (by decide +kernel) (Nat.le_of_ble_eq_true rfl) (Nat.le_of_ble_eq_true rfl) (s_LenI s_Len0) (Nat.le_of_ble_eq_true rfl) dX7_divisorByFactors_23 rfl) dX7_divisorByFactors_26 (Nat.le_of_ble_eq_true rfl) rfl)
    (ss_seq (pcA := 35) (ss_setI_n (pcA := 34) (se_callSI (pcA := 31) (index := 23) (sa_ci (pcA := 29) (se_iload_n dX7_divisorByFactors_28 rfl rfl) (sa_ci (pcA := 31) (se_iload dX7_divisorByFactors_29 rfl) sa_nil)) T_X7_quotient gX7_divisorByFactors_X7_quotient rfl (by decide +kernel) (Nat.le_of_ble_eq_true rfl) (Nat.le_of_ble_eq_true rfl) (s_LenI (s_LenI s_Len0)) (Nat.le_of_ble_eq_true rfl) dX7_divisorByFactors_31 rfl) dX7_divisorByFactors_34 rfl (Nat.le_of_ble_eq_true rfl) rfl)
    (ss_if (pcT := 44) (pcF := 58) (sc_Fne0 (pcB := 41) (se_callSI (pcA := 38) (index := 15) (sa_ci (pcA := 37) (se_iload dX7_divisorByFactors_35 rfl) (sa_ci (pcA := 38) (se_iload_n dX7_divisorByFactors_37 rfl rfl) sa_nil)) T_X7_divides gX7_divisorByFactors_X7_divides rfl (by decide +kernel) (Nat.le_of_ble_eq_true rfl) (Nat.le_of_ble_eq_true rfl) (s_LenI (s_LenI s_Len0)) (Nat.le_of_ble_eq_true rfl) dX7_divisorByFactors_38 rfl) dX7_divisorByFactors_41 rfl rfl)
    (ss_seq (pcA := 51) (ss_setI_n (pcA := 50) (se_callSI (pcA := 47) (index := 23) (sa_ci (pcA := 45) (se_iload_n dX7_divisorByFactors_44 rfl rfl) (sa_ci (pcA := 47) (se_iload dX7_divisorByFactors_45 rfl) sa_nil)) T_X7_quotient gX7_divisorByFactors_X7_quotient rfl (by decide +kernel) (Nat.le_of_ble_eq_true rfl) (Nat.le_of_ble_eq_true rfl) (s_LenI (s_LenI s_Len0)) (Nat.le_of_ble_eq_true rfl) dX7_divisorByFactors_47 rfl) dX7_divisorByFactors_50 rfl (Nat.le_of_ble_eq_true rfl) rfl)
    (ss_setI (pcA := 56) (se_mul (pcA := 53) (pcB := 55) (se_iload dX7_divisorByFactors_51 rfl) (se_iload dX7_divisorByFactors_53 rfl) dX7_divisorByFactors_55 rfl) dX7_divisorByFactors_56 (Nat.le_of_ble_eq_true rfl) rfl)) ss_skip))))
    (ss_goto (pcG := 61) (ss_inc dX7_divisorByFactors_58 (Nat.le_of_ble_eq_true rfl) (by decide +kernel) rfl) dX7_divisorByFactors_61 rfl)))))
    (ss_retI (pcA := 66) (se_iload dX7_divisorByFactors_64 rfl) dX7_divisorByFactors_66 rfl)))))
theorem T_X7_divisorByFactors : sMet vwCl RX6 yX7_divisorByFactors wsX7_divisorByFactors 2 42 M_X7_divisorByFactors := sMet_of rfl (by decide +kernel) rfl rfl (fun h => by cases h) (m_of_run _ _) S_X7_divisorByFactors (m_of_cat _ _ (Nat.le_of_ble_eq_true rfl))
def B_X7_multiple : sStm :=
  (s_retI (e_mul (e_callI M_X7_quotient (a_ci (e_i 0) (a_ci (e_callI M_X7_divisorByRemainders (a_ci (e_i 0) (a_ci (e_i 1) a_nil))) a_nil))) (e_i 1)))
def M_X7_multiple : sSem := m_of 2 B_X7_multiple
set_option maxRecDepth 100000 in
set_option maxHeartbeats 4000000 in
theorem S_X7_multiple : sSS (cX7_multiple, wsX7_multiple, RX7, (some .int), 1, 25, 2, vwCl, RX6, false) 0 0 B_X7_multiple :=
  (ss_retI (pcA := 11) (se_mul (pcA := 9) (pcB := 10) (se_callSI (pcA := 6) (index := 23) (sa_ci (pcA := 1) (se_iload_n dX7_multiple_0 rfl rfl) (sa_ci (pcA := 6) (se_callSI (pcA := 3) (index := 29) (sa_ci (pcA := 2) (se_iload_n dX7_multiple_1 rfl rfl) (sa_ci (pcA := 3) (se_iload_n dX7_multiple_2 rfl rfl) sa_nil)) T_X7_divisorByRemainders gX7_multiple_X7_divisorByRemainders rfl (by decide +kernel) (Nat.le_of_ble_eq_true rfl) (Nat.le_of_ble_eq_true rfl) (s_LenI (s_LenI s_Len0)) (Nat.le_of_ble_eq_true rfl) dX7_multiple_3 rfl) sa_nil)) T_X7_quotient gX7_multiple_X7_quotient rfl (by decide +kernel) (Nat.le_of_ble_eq_true rfl) (Nat.le_of_ble_eq_true rfl) (s_LenI (s_LenI s_Len0)) (Nat.le_of_ble_eq_true rfl) dX7_multiple_6 rfl) (se_iload_n dX7_multiple_9 rfl rfl) dX7_multiple_10 rfl) dX7_multiple_11 rfl)
theorem T_X7_multiple : sMet vwCl RX6 yX7_multiple wsX7_multiple 1 25 M_X7_multiple := sMet_of rfl (by decide +kernel) rfl rfl (fun h => by cases h) (m_of_run _ _) S_X7_multiple (m_of_cat _ _ (Nat.le_of_ble_eq_true rfl))
theorem ml_X0_init_3 : Cond.methodLink RX0 3 objectInit ∈ wsX0_init := by decide +kernel
theorem mo_X0_init : Cond.instanceMethod objectInit ∈ wsX0_init := by decide +kernel
theorem mc_X0_init : Cond.code objectInit ⟨#[0xb1]⟩ 1 none ∈ wsX0_init := by decide +kernel
theorem na_X0_init : Cond.arrayClass .int ∈ wsX0_init := by decide +kernel
theorem in_X0_init_X0 : ∀ w ∈ u_ws RX0 TX0 4, w ∈ wsX0_init := by decide +kernel
theorem lk_X0_init_9 : Cond.fieldLink RX0 9 RX0 "primes" "[I" ∈ wsX0_init := by decide +kernel
theorem lk_X0_init_15 : Cond.fieldLink RX0 15 RX0 "chips" "[I" ∈ wsX0_init := by decide +kernel
theorem lk_X0_init_18 : Cond.fieldLink RX0 18 RX0 "came" "[I" ∈ wsX0_init := by decide +kernel
def B_X0_init : sStm :=
  (s_seq (s_seq (s_super (e_r 0))
    (s_seq (s_putR 0 0 (e_r 0) (e_newa (e_k (nI 16))))
    (s_seq (s_putR 0 1 (e_r 0) (e_newa (e_k (nI 16))))
    (s_putR 0 2 (e_r 0) (e_newa (e_k (nI 16)))))))
    s_ret0)
def M_X0_init : sSem := m_of 1 B_X0_init
set_option maxRecDepth 100000 in
set_option maxHeartbeats 4000000 in
theorem S_X0_init : sSS (cX0_init, wsX0_init, RX0, none, 1, 20, 1, vwCl, RX6, true) 0 0 B_X0_init :=
  (ss_seq (pcA := 28) (ss_seq (pcA := 4) (ss_objInit (pcA := 1) (se_aload_n dX0_init_0 rfl rfl) ml_X0_init_3 mo_X0_init mc_X0_init dX0_init_1 ⟨(Nat.le_of_ble_eq_true rfl), (Nat.le_of_ble_eq_true rfl)⟩ rfl)
    (ss_seq (pcA := 12) (ss_putR (pcA := 5) (pcB := 9) (T := TX0) (index := 9) (se_aload_n dX0_init_4 rfl rfl) (se_newa (pcA := 7) (se_bipush dX0_init_5 (by decide +kernel) rfl) na_X0_init dX0_init_7 rfl) rfl in_X0_init_X0 tyX0 tyX0_ok nmX0 (Nat.le_of_ble_eq_true rfl) lk_X0_init_9 rfl rfl (Or.inr ⟨_, rfl⟩) dX0_init_9 rfl)
    (ss_seq (pcA := 20) (ss_putR (pcA := 13) (pcB := 17) (T := TX0) (index := 15) (se_aload_n dX0_init_12 rfl rfl) (se_newa (pcA := 15) (se_bipush dX0_init_13 (by decide +kernel) rfl) na_X0_init dX0_init_15 rfl) rfl in_X0_init_X0 tyX0 tyX0_ok nmX0 (Nat.le_of_ble_eq_true rfl) lk_X0_init_15 rfl rfl (Or.inr ⟨_, rfl⟩) dX0_init_17 rfl)
    (ss_putR (pcA := 21) (pcB := 25) (T := TX0) (index := 18) (se_aload_n dX0_init_20 rfl rfl) (se_newa (pcA := 23) (se_bipush dX0_init_21 (by decide +kernel) rfl) na_X0_init dX0_init_23 rfl) rfl in_X0_init_X0 tyX0 tyX0_ok nmX0 (Nat.le_of_ble_eq_true rfl) lk_X0_init_18 rfl rfl (Or.inr ⟨_, rfl⟩) dX0_init_25 rfl))))
    (ss_ret0 dX0_init_28 rfl))
theorem T_X0_init : sMet vwCl RX6 yX0_init wsX0_init 1 20 M_X0_init := sMet_of rfl (by decide +kernel) rfl rfl (fun _ => rfl) (m_of_run _ _) S_X0_init (m_of_cat _ _ (Nat.le_of_ble_eq_true rfl))
theorem in_X0_makeRoom_X0 : ∀ w ∈ u_ws RX0 TX0 4, w ∈ wsX0_makeRoom := by decide +kernel
theorem lk_X0_makeRoom_9 : Cond.fieldLink RX0 9 RX0 "primes" "[I" ∈ wsX0_makeRoom := by decide +kernel
theorem mm_X0_makeRoom_59 : Cond.methodLink RX0 59 Lib.Math.max.name ∈ wsX0_makeRoom := by decide +kernel
theorem ms_X0_makeRoom_max : Cond.static Lib.Math.max.name ∈ wsX0_makeRoom := by decide +kernel
theorem mi_X0_makeRoom_Math : Cond.initialized "java/lang/Math" ∈ wsX0_makeRoom := by decide +kernel
theorem mk_X0_makeRoom_max : Cond.code Lib.Math.max.name Lib.Math.max.code 2 (some .int) ∈ wsX0_makeRoom := by decide +kernel
theorem mm_X0_makeRoom_64 : Cond.methodLink RX0 64 Lib.Math.min.name ∈ wsX0_makeRoom := by decide +kernel
theorem ms_X0_makeRoom_min : Cond.static Lib.Math.min.name ∈ wsX0_makeRoom := by decide +kernel
theorem mk_X0_makeRoom_min : Cond.code Lib.Math.min.name Lib.Math.min.code 2 (some .int) ∈ wsX0_makeRoom := by decide +kernel
theorem lk_X0_makeRoom_15 : Cond.fieldLink RX0 15 RX0 "chips" "[I" ∈ wsX0_makeRoom := by decide +kernel
theorem lk_X0_makeRoom_18 : Cond.fieldLink RX0 18 RX0 "came" "[I" ∈ wsX0_makeRoom := by decide +kernel
def B_X0_makeRoom : sStm :=
  (s_seq (s_seq (s_if (c_or (c_cmp i_le (e_i 1) (e_len (e_getR 0 0 (e_r 0)))) (c_cmp i_ge (e_len (e_getR 0 0 (e_r 0))) (e_k (nI 1229))))
    s_ret0 s_skip)
    (s_seq (s_decI 2 (e_min (e_k (nI 1229)) (e_max (e_i 1) (e_mul (e_k (nI 2)) (e_len (e_getR 0 0 (e_r 0)))))))
    (s_seq (s_putR 0 0 (e_r 0) (e_callR M_X5_longer (a_cr (e_getR 0 0 (e_r 0)) (a_ci (e_i 2) a_nil))))
    (s_seq (s_putR 0 1 (e_r 0) (e_callR M_X5_longer (a_cr (e_getR 0 1 (e_r 0)) (a_ci (e_i 2) a_nil))))
    (s_putR 0 2 (e_r 0) (e_callR M_X5_longer (a_cr (e_getR 0 2 (e_r 0)) (a_ci (e_i 2) a_nil))))))))
    s_ret0)
def M_X0_makeRoom : sSem := m_ofV 0 2 B_X0_makeRoom
set_option maxRecDepth 100000 in
set_option maxHeartbeats 4000000 in
theorem S_X0_makeRoom : sSS (cX0_makeRoom, wsX0_makeRoom, RX0, none, 1, 24, 3, vwCl, RX6, false) 0 0 B_X0_makeRoom :=
  (ss_seq (pcA := 75) (ss_seq (pcA := 21) (ss_if (pcT := 20) (pcF := 21) (sc_or (pcA := 9) (sc_Tle (pcA := 1) (pcB := 6) (se_iload_n dX0_makeRoom_0 rfl rfl) (se_len (pcA := 5) (se_getR (pcA := 2) (T := TX0) (k := 0) (index := 9) (se_aload_n dX0_makeRoom_1 rfl rfl) rfl in_X0_makeRoom_X0 (Nat.le_of_ble_eq_true rfl) lk_X0_makeRoom_9 rfl dX0_makeRoom_2 rfl) dX0_makeRoom_5 rfl) dX0_makeRoom_6 rfl rfl) (sc_Fge (pcA := 14) (pcB := 17) (se_len (pcA := 13) (se_getR (pcA := 10) (T := TX0) (k := 0) (index := 9) (se_aload_n dX0_makeRoom_9 rfl rfl) rfl in_X0_makeRoom_X0 (Nat.le_of_ble_eq_true rfl) lk_X0_makeRoom_9 rfl dX0_makeRoom_10 rfl) dX0_makeRoom_13 rfl) (se_sipush dX0_makeRoom_14 (by decide +kernel) rfl) dX0_makeRoom_17 rfl rfl))
    (ss_ret0 dX0_makeRoom_20 rfl) ss_skip)
    (ss_seq (pcA := 39) (ss_decI_n (pcA := 38) (se_min (pcA := 24) (pcB := 35) (index := 64) (se_sipush dX0_makeRoom_21 (by decide +kernel) rfl) (se_max (pcA := 25) (pcB := 32) (index := 59) (se_iload_n dX0_makeRoom_24 rfl rfl) (se_mul (pcA := 26) (pcB := 31) (se_iconst dX0_makeRoom_25 (by decide +kernel) rfl) (se_len (pcA := 30) (se_getR (pcA := 27) (T := TX0) (k := 0) (index := 9) (se_aload_n dX0_makeRoom_26 rfl rfl) rfl in_X0_makeRoom_X0 (Nat.le_of_ble_eq_true rfl) lk_X0_makeRoom_9 rfl dX0_makeRoom_27 rfl) dX0_makeRoom_30 rfl) dX0_makeRoom_31 rfl) mm_X0_makeRoom_59 ms_X0_makeRoom_max mi_X0_makeRoom_Math mk_X0_makeRoom_max (Nat.le_of_ble_eq_true rfl) (Nat.le_of_ble_eq_true rfl) (Nat.le_of_ble_eq_true rfl) dX0_makeRoom_32 rfl) mm_X0_makeRoom_64 ms_X0_makeRoom_min mi_X0_makeRoom_Math mk_X0_makeRoom_min (Nat.le_of_ble_eq_true rfl) (Nat.le_of_ble_eq_true rfl) (Nat.le_of_ble_eq_true rfl) dX0_makeRoom_35 rfl) dX0_makeRoom_38 rfl (Nat.le_of_ble_eq_true rfl) rfl)
    (ss_seq (pcA := 51) (ss_putR (pcA := 40) (pcB := 48) (T := TX0) (index := 9) (se_aload_n dX0_makeRoom_39 rfl rfl) (se_callSR (pcA := 45) (index := 67) (sa_cr (pcA := 44) (se_getR (pcA := 41) (T := TX0) (k := 0) (index := 9) (se_aload_n dX0_makeRoom_40 rfl rfl) rfl in_X0_makeRoom_X0 (Nat.le_of_ble_eq_true rfl) lk_X0_makeRoom_9 rfl dX0_makeRoom_41 rfl) (sa_ci (pcA := 45) (se_iload_n dX0_makeRoom_44 rfl rfl) sa_nil)) T_X5_longer gX0_makeRoom_X5_longer rfl (by decide +kernel) (Nat.le_of_ble_eq_true rfl) (Nat.le_of_ble_eq_true rfl) (s_LenR (s_LenI s_Len0)) (Nat.le_of_ble_eq_true rfl) dX0_makeRoom_45 rfl) rfl in_X0_makeRoom_X0 tyX0 tyX0_ok nmX0 (Nat.le_of_ble_eq_true rfl) lk_X0_makeRoom_9 rfl rfl (Or.inr ⟨_, rfl⟩) dX0_makeRoom_48 rfl)
    (ss_seq (pcA := 63) (ss_putR (pcA := 52) (pcB := 60) (T := TX0) (index := 15) (se_aload_n dX0_makeRoom_51 rfl rfl) (se_callSR (pcA := 57) (index := 67) (sa_cr (pcA := 56) (se_getR (pcA := 53) (T := TX0) (k := 1) (index := 15) (se_aload_n dX0_makeRoom_52 rfl rfl) rfl in_X0_makeRoom_X0 (Nat.le_of_ble_eq_true rfl) lk_X0_makeRoom_15 rfl dX0_makeRoom_53 rfl) (sa_ci (pcA := 57) (se_iload_n dX0_makeRoom_56 rfl rfl) sa_nil)) T_X5_longer gX0_makeRoom_X5_longer rfl (by decide +kernel) (Nat.le_of_ble_eq_true rfl) (Nat.le_of_ble_eq_true rfl) (s_LenR (s_LenI s_Len0)) (Nat.le_of_ble_eq_true rfl) dX0_makeRoom_57 rfl) rfl in_X0_makeRoom_X0 tyX0 tyX0_ok nmX0 (Nat.le_of_ble_eq_true rfl) lk_X0_makeRoom_15 rfl rfl (Or.inr ⟨_, rfl⟩) dX0_makeRoom_60 rfl)
    (ss_putR (pcA := 64) (pcB := 72) (T := TX0) (index := 18) (se_aload_n dX0_makeRoom_63 rfl rfl) (se_callSR (pcA := 69) (index := 67) (sa_cr (pcA := 68) (se_getR (pcA := 65) (T := TX0) (k := 2) (index := 18) (se_aload_n dX0_makeRoom_64 rfl rfl) rfl in_X0_makeRoom_X0 (Nat.le_of_ble_eq_true rfl) lk_X0_makeRoom_18 rfl dX0_makeRoom_65 rfl) (sa_ci (pcA := 69) (se_iload_n dX0_makeRoom_68 rfl rfl) sa_nil)) T_X5_longer gX0_makeRoom_X5_longer rfl (by decide +kernel) (Nat.le_of_ble_eq_true rfl) (Nat.le_of_ble_eq_true rfl) (s_LenR (s_LenI s_Len0)) (Nat.le_of_ble_eq_true rfl) dX0_makeRoom_69 rfl) rfl in_X0_makeRoom_X0 tyX0 tyX0_ok nmX0 (Nat.le_of_ble_eq_true rfl) lk_X0_makeRoom_18 rfl rfl (Or.inr ⟨_, rfl⟩) dX0_makeRoom_72 rfl)))))
    (ss_ret0 dX0_makeRoom_75 rfl))
theorem T_X0_makeRoom : sMet vwCl RX6 yX0_makeRoom wsX0_makeRoom 1 24 M_X0_makeRoom := sMet_of rfl (by decide +kernel) rfl rfl (fun h => by cases h) (m_ofV_run _ _ _) S_X0_makeRoom (m_ofV_cat _ _ _ (Nat.le_of_ble_eq_true rfl))
theorem in_X0_copyFrom_X0 : ∀ w ∈ u_ws RX0 TX0 4, w ∈ wsX0_copyFrom := by decide +kernel
theorem lk_X0_copyFrom_21 : Cond.fieldLink RX0 21 RX0 "kinds" "I" ∈ wsX0_copyFrom := by decide +kernel
theorem lk_X0_copyFrom_9 : Cond.fieldLink RX0 9 RX0 "primes" "[I" ∈ wsX0_copyFrom := by decide +kernel
theorem lk_X0_copyFrom_15 : Cond.fieldLink RX0 15 RX0 "chips" "[I" ∈ wsX0_copyFrom := by decide +kernel
theorem lk_X0_copyFrom_18 : Cond.fieldLink RX0 18 RX0 "came" "[I" ∈ wsX0_copyFrom := by decide +kernel
def B_X0_copyFrom : sStm :=
  (s_seq (s_seq (s_callV M_X0_makeRoom (a_cr (e_r 0) (a_ci (e_get 0 3 (e_r 1)) a_nil)))
    (s_seq (s_putI 0 3 (e_r 0) (e_get 0 3 (e_r 1)))
    (s_seq (s_callV M_X5_copy (a_cr (e_getR 0 0 (e_r 1)) (a_cr (e_getR 0 0 (e_r 0)) (a_ci (e_get 0 3 (e_r 0)) a_nil))))
    (s_seq (s_callV M_X5_copy (a_cr (e_getR 0 1 (e_r 1)) (a_cr (e_getR 0 1 (e_r 0)) (a_ci (e_get 0 3 (e_r 0)) a_nil))))
    (s_callV M_X5_copy (a_cr (e_getR 0 2 (e_r 1)) (a_cr (e_getR 0 2 (e_r 0)) (a_ci (e_get 0 3 (e_r 0)) a_nil))))))))
    s_ret0)
def M_X0_copyFrom : sSem := m_ofV 0 2 B_X0_copyFrom
set_option maxRecDepth 100000 in
set_option maxHeartbeats 4000000 in
theorem S_X0_copyFrom : sSS (cX0_copyFrom, wsX0_copyFrom, RX0, none, 2, 46, 2, vwCl, RX6, false) 0 0 B_X0_copyFrom :=
  (ss_seq (pcA := 61) (ss_seq (pcA := 8) (ss_callVV (pcA := 5) (ci := 0) (index := 25) (sa_cr (pcA := 1) (se_aload_n dX0_copyFrom_0 rfl rfl) (sa_ci (pcA := 5) (se_get (pcA := 2) (T := TX0) (k := 3) (index := 21) (se_aload_n dX0_copyFrom_1 rfl rfl) rfl in_X0_copyFrom_X0 (Nat.le_of_ble_eq_true rfl) lk_X0_copyFrom_21 rfl dX0_copyFrom_2 rfl) sa_nil)) T_X0_makeRoom (s_Rcv_of 0 _ _) rfl gX0_copyFrom_X0_makeRoom rfl (by decide +kernel) (Nat.le_of_ble_eq_true rfl) (Nat.le_of_ble_eq_true rfl) (s_LenR (s_LenI s_Len0)) dX0_copyFrom_5 rfl)
    (ss_seq (pcA := 16) (ss_putI (pcA := 9) (pcB := 13) (T := TX0) (index := 21) (se_aload_n dX0_copyFrom_8 rfl rfl) (se_get (pcA := 10) (T := TX0) (k := 3) (index := 21) (se_aload_n dX0_copyFrom_9 rfl rfl) rfl in_X0_copyFrom_X0 (Nat.le_of_ble_eq_true rfl) lk_X0_copyFrom_21 rfl dX0_copyFrom_10 rfl) rfl in_X0_copyFrom_X0 tyX0 tyX0_ok nmX0 (Nat.le_of_ble_eq_true rfl) lk_X0_copyFrom_21 rfl rfl rfl dX0_copyFrom_13 rfl)
    (ss_seq (pcA := 31) (ss_callVS (pcA := 28) (index := 29) (sa_cr (pcA := 20) (se_getR (pcA := 17) (T := TX0) (k := 0) (index := 9) (se_aload_n dX0_copyFrom_16 rfl rfl) rfl in_X0_copyFrom_X0 (Nat.le_of_ble_eq_true rfl) lk_X0_copyFrom_9 rfl dX0_copyFrom_17 rfl) (sa_cr (pcA := 24) (se_getR (pcA := 21) (T := TX0) (k := 0) (index := 9) (se_aload_n dX0_copyFrom_20 rfl rfl) rfl in_X0_copyFrom_X0 (Nat.le_of_ble_eq_true rfl) lk_X0_copyFrom_9 rfl dX0_copyFrom_21 rfl) (sa_ci (pcA := 28) (se_get (pcA := 25) (T := TX0) (k := 3) (index := 21) (se_aload_n dX0_copyFrom_24 rfl rfl) rfl in_X0_copyFrom_X0 (Nat.le_of_ble_eq_true rfl) lk_X0_copyFrom_21 rfl dX0_copyFrom_25 rfl) sa_nil))) T_X5_copy gX0_copyFrom_X5_copy rfl (by decide +kernel) (Nat.le_of_ble_eq_true rfl) (Nat.le_of_ble_eq_true rfl) (s_LenR (s_LenR (s_LenI s_Len0))) dX0_copyFrom_28 rfl)
    (ss_seq (pcA := 46) (ss_callVS (pcA := 43) (index := 29) (sa_cr (pcA := 35) (se_getR (pcA := 32) (T := TX0) (k := 1) (index := 15) (se_aload_n dX0_copyFrom_31 rfl rfl) rfl in_X0_copyFrom_X0 (Nat.le_of_ble_eq_true rfl) lk_X0_copyFrom_15 rfl dX0_copyFrom_32 rfl) (sa_cr (pcA := 39) (se_getR (pcA := 36) (T := TX0) (k := 1) (index := 15) (se_aload_n dX0_copyFrom_35 rfl rfl) rfl in_X0_copyFrom_X0 (Nat.le_of_ble_eq_true rfl) lk_X0_copyFrom_15 rfl dX0_copyFrom_36 rfl) (sa_ci (pcA := 43) (se_get (pcA := 40) (T := TX0) (k := 3) (index := 21) (se_aload_n dX0_copyFrom_39 rfl rfl) rfl in_X0_copyFrom_X0 (Nat.le_of_ble_eq_true rfl) lk_X0_copyFrom_21 rfl dX0_copyFrom_40 rfl) sa_nil))) T_X5_copy gX0_copyFrom_X5_copy rfl (by decide +kernel) (Nat.le_of_ble_eq_true rfl) (Nat.le_of_ble_eq_true rfl) (s_LenR (s_LenR (s_LenI s_Len0))) dX0_copyFrom_43 rfl)
    (ss_callVS (pcA := 58) (index := 29) (sa_cr (pcA := 50) (se_getR (pcA := 47) (T := TX0) (k := 2) (index := 18) (se_aload_n dX0_copyFrom_46 rfl rfl) rfl in_X0_copyFrom_X0 (Nat.le_of_ble_eq_true rfl) lk_X0_copyFrom_18 rfl dX0_copyFrom_47 rfl) (sa_cr (pcA := 54) (se_getR (pcA := 51) (T := TX0) (k := 2) (index := 18) (se_aload_n dX0_copyFrom_50 rfl rfl) rfl in_X0_copyFrom_X0 (Nat.le_of_ble_eq_true rfl) lk_X0_copyFrom_18 rfl dX0_copyFrom_51 rfl) (sa_ci (pcA := 58) (se_get (pcA := 55) (T := TX0) (k := 3) (index := 21) (se_aload_n dX0_copyFrom_54 rfl rfl) rfl in_X0_copyFrom_X0 (Nat.le_of_ble_eq_true rfl) lk_X0_copyFrom_21 rfl dX0_copyFrom_55 rfl) sa_nil))) T_X5_copy gX0_copyFrom_X5_copy rfl (by decide +kernel) (Nat.le_of_ble_eq_true rfl) (Nat.le_of_ble_eq_true rfl) (s_LenR (s_LenR (s_LenI s_Len0))) dX0_copyFrom_58 rfl)))))
    (ss_ret0 dX0_copyFrom_61 rfl))
theorem T_X0_copyFrom : sMet vwCl RX6 yX0_copyFrom wsX0_copyFrom 2 46 M_X0_copyFrom := sMet_of rfl (by decide +kernel) rfl rfl (fun h => by cases h) (m_ofV_run _ _ _) S_X0_copyFrom (m_ofV_cat _ _ _ (Nat.le_of_ble_eq_true rfl))
theorem in_X0_placeOf_X0 : ∀ w ∈ u_ws RX0 TX0 4, w ∈ wsX0_placeOf := by decide +kernel
theorem lk_X0_placeOf_21 : Cond.fieldLink RX0 21 RX0 "kinds" "I" ∈ wsX0_placeOf := by decide +kernel
theorem lk_X0_placeOf_9 : Cond.fieldLink RX0 9 RX0 "primes" "[I" ∈ wsX0_placeOf := by decide +kernel
abbrev C_X0_placeOf_1 : sCd := (c_cmp i_lt (e_i 2) (e_get 0 3 (e_r 0)))
abbrev W_X0_placeOf_1 : sStm :=
  (s_seq (s_if (c_cmp i_eq (e_callI M_X5_at (a_cr (e_getR 0 0 (e_r 0)) (a_ci (e_i 2) a_nil))) (e_i 1))
    (s_retI (e_i 2)) s_skip)
    (s_inc 2 (nI 1)))
def B_X0_placeOf : sStm :=
  (s_seq (s_blk 2 (s_seq (s_decI 2 (e_k (nI 0)))
    (s_while C_X0_placeOf_1 W_X0_placeOf_1)))
    (s_retI (e_k (-1))))
def M_X0_placeOf : sSem := m_ofV 0 2 B_X0_placeOf
set_option maxRecDepth 100000 in
set_option maxHeartbeats 4000000 in
theorem S_X0_placeOf : sSS (cX0_placeOf, wsX0_placeOf, RX0, (some .int), 1, 21, 3, vwCl, RX6, false) 0 0 B_X0_placeOf :=
  (ss_seq (pcA := 30) (ss_blk (ss_seq (pcA := 2) (ss_decI_n (pcA := 1) (se_iconst dX0_placeOf_0 (by decide +kernel) rfl) dX0_placeOf_1 rfl (Nat.le_of_ble_eq_true rfl) rfl)
    (ss_while (pcB := 10) (sc_Flt (pcA := 3) (pcB := 7) (se_iload_n dX0_placeOf_2 rfl rfl) (se_get (pcA := 4) (T := TX0) (k := 3) (index := 21) (se_aload_n dX0_placeOf_3 rfl rfl) rfl in_X0_placeOf_X0 (Nat.le_of_ble_eq_true rfl) lk_X0_placeOf_21 rfl dX0_placeOf_4 rfl) dX0_placeOf_7 rfl rfl)
    (ss_seq (pcA := 24) (ss_if (pcT := 22) (pcF := 24) (sc_Feq (pcA := 18) (pcB := 19) (se_callSI (pcA := 15) (index := 47) (sa_cr (pcA := 14) (se_getR (pcA := 11) (T := TX0) (k := 0) (index := 9) (se_aload_n dX0_placeOf_10 rfl rfl) rfl in_X0_placeOf_X0 (Nat.le_of_ble_eq_true rfl) lk_X0_placeOf_9 rfl dX0_placeOf_11 rfl) (sa_ci (pcA := 15) (se_iload_n dX0_placeOf_14 rfl rfl) sa_nil)) T_X5_at gX0_placeOf_X5_at rfl (by decide +kernel) (Nat.le_of_ble_eq_true rfl) (Nat.le_of_ble_eq_true rfl) (s_LenR (s_LenI s_Len0)) (Nat.le_of_ble_eq_true rfl) dX0_placeOf_15 rfl) (se_iload_n dX0_placeOf_18 rfl rfl) dX0_placeOf_19 rfl rfl)
    (ss_retI (pcA := 23) (se_iload_n dX0_placeOf_22 rfl rfl) dX0_placeOf_23 rfl) ss_skip)
    (ss_goto (pcG := 27) (ss_inc dX0_placeOf_24 (Nat.le_of_ble_eq_true rfl) (by decide +kernel) rfl) dX0_placeOf_27 rfl)))))
    (ss_retI (pcA := 31) (se_iconst dX0_placeOf_30 (by decide +kernel) rfl) dX0_placeOf_31 rfl))
theorem T_X0_placeOf : sMet vwCl RX6 yX0_placeOf wsX0_placeOf 1 21 M_X0_placeOf := sMet_of rfl (by decide +kernel) rfl rfl (fun h => by cases h) (m_ofV_run _ _ _) S_X0_placeOf (m_ofV_cat _ _ _ (Nat.le_of_ble_eq_true rfl))
theorem in_X0_openPlace_X0 : ∀ w ∈ u_ws RX0 TX0 4, w ∈ wsX0_openPlace := by decide +kernel
theorem lk_X0_openPlace_21 : Cond.fieldLink RX0 21 RX0 "kinds" "I" ∈ wsX0_openPlace := by decide +kernel
theorem lk_X0_openPlace_9 : Cond.fieldLink RX0 9 RX0 "primes" "[I" ∈ wsX0_openPlace := by decide +kernel
theorem lk_X0_openPlace_15 : Cond.fieldLink RX0 15 RX0 "chips" "[I" ∈ wsX0_openPlace := by decide +kernel
theorem lk_X0_openPlace_18 : Cond.fieldLink RX0 18 RX0 "came" "[I" ∈ wsX0_openPlace := by decide +kernel
def B_X0_openPlace : sStm :=
  (s_seq (s_decI 2 (e_get 0 3 (e_r 0)))
    (s_seq (s_callV M_X5_put (a_cr (e_getR 0 0 (e_r 0)) (a_ci (e_i 2) (a_ci (e_i 1) a_nil))))
    (s_seq (s_callV M_X5_put (a_cr (e_getR 0 1 (e_r 0)) (a_ci (e_i 2) (a_ci (e_k (nI 0)) a_nil))))
    (s_seq (s_callV M_X5_put (a_cr (e_getR 0 2 (e_r 0)) (a_ci (e_i 2) (a_ci (e_k (nI 0)) a_nil))))
    (s_seq (s_putop 0 3 (e_r 0) (fun x z => x + z) (e_k (nI 1)))
    (s_retI (e_i 2)))))))
def M_X0_openPlace : sSem := m_ofV 0 2 B_X0_openPlace
set_option maxRecDepth 100000 in
set_option maxHeartbeats 4000000 in
theorem S_X0_openPlace : sSS (cX0_openPlace, wsX0_openPlace, RX0, (some .int), 1, 22, 3, vwCl, RX6, false) 0 0 B_X0_openPlace :=
  (ss_seq (pcA := 5) (ss_decI_n (pcA := 4) (se_get (pcA := 1) (T := TX0) (k := 3) (index := 21) (se_aload_n dX0_openPlace_0 rfl rfl) rfl in_X0_openPlace_X0 (Nat.le_of_ble_eq_true rfl) lk_X0_openPlace_21 rfl dX0_openPlace_1 rfl) dX0_openPlace_4 rfl (Nat.le_of_ble_eq_true rfl) rfl)
    (ss_seq (pcA := 14) (ss_callVS (pcA := 11) (index := 51) (sa_cr (pcA := 9) (se_getR (pcA := 6) (T := TX0) (k := 0) (index := 9) (se_aload_n dX0_openPlace_5 rfl rfl) rfl in_X0_openPlace_X0 (Nat.le_of_ble_eq_true rfl) lk_X0_openPlace_9 rfl dX0_openPlace_6 rfl) (sa_ci (pcA := 10) (se_iload_n dX0_openPlace_9 rfl rfl) (sa_ci (pcA := 11) (se_iload_n dX0_openPlace_10 rfl rfl) sa_nil))) T_X5_put gX0_openPlace_X5_put rfl (by decide +kernel) (Nat.le_of_ble_eq_true rfl) (Nat.le_of_ble_eq_true rfl) (s_LenR (s_LenI (s_LenI s_Len0))) dX0_openPlace_11 rfl)
    (ss_seq (pcA := 23) (ss_callVS (pcA := 20) (index := 51) (sa_cr (pcA := 18) (se_getR (pcA := 15) (T := TX0) (k := 1) (index := 15) (se_aload_n dX0_openPlace_14 rfl rfl) rfl in_X0_openPlace_X0 (Nat.le_of_ble_eq_true rfl) lk_X0_openPlace_15 rfl dX0_openPlace_15 rfl) (sa_ci (pcA := 19) (se_iload_n dX0_openPlace_18 rfl rfl) (sa_ci (pcA := 20) (se_iconst dX0_openPlace_19 (by decide +kernel) rfl) sa_nil))) T_X5_put gX0_openPlace_X5_put rfl (by decide +kernel) (Nat.le_of_ble_eq_true rfl) (Nat.le_of_ble_eq_true rfl) (s_LenR (s_LenI (s_LenI s_Len0))) dX0_openPlace_20 rfl)
    (ss_seq (pcA := 32) (ss_callVS (pcA := 29) (index := 51) (sa_cr (pcA := 27) (se_getR (pcA := 24) (T := TX0) (k := 2) (index := 18) (se_aload_n dX0_openPlace_23 rfl rfl) rfl in_X0_openPlace_X0 (Nat.le_of_ble_eq_true rfl) lk_X0_openPlace_18 rfl dX0_openPlace_24 rfl) (sa_ci (pcA := 28) (se_iload_n dX0_openPlace_27 rfl rfl) (sa_ci (pcA := 29) (se_iconst dX0_openPlace_28 (by decide +kernel) rfl) sa_nil))) T_X5_put gX0_openPlace_X5_put rfl (by decide +kernel) (Nat.le_of_ble_eq_true rfl) (Nat.le_of_ble_eq_true rfl) (s_LenR (s_LenI (s_LenI s_Len0))) dX0_openPlace_29 rfl)
    (ss_seq (pcA := 42) (ss_putop (pcA := 33) (pcD := 34) (pcG := 37) (pcB := 38) (pcO := 39) (T := TX0) (index := 21) (se_aload_n dX0_openPlace_32 rfl rfl) dX0_openPlace_33 rfl rfl in_X0_openPlace_X0 tyX0 tyX0_ok nmX0 (Nat.le_of_ble_eq_true rfl) lk_X0_openPlace_21 rfl dX0_openPlace_34 rfl (se_iconst dX0_openPlace_37 (by decide +kernel) rfl) (Or.inl ⟨dX0_openPlace_38, rfl⟩) rfl rfl rfl dX0_openPlace_39 rfl)
    (ss_retI (pcA := 43) (se_iload_n dX0_openPlace_42 rfl rfl) dX0_openPlace_43 rfl))))))
theorem T_X0_openPlace : sMet vwCl RX6 yX0_openPlace wsX0_openPlace 1 22 M_X0_openPlace := sMet_of rfl (by decide +kernel) rfl rfl (fun h => by cases h) (m_ofV_run _ _ _) S_X0_openPlace (m_ofV_cat _ _ _ (Nat.le_of_ble_eq_true rfl))
theorem in_X0_book_X0 : ∀ w ∈ u_ws RX0 TX0 4, w ∈ wsX0_book := by decide +kernel
theorem lk_X0_book_21 : Cond.fieldLink RX0 21 RX0 "kinds" "I" ∈ wsX0_book := by decide +kernel
theorem lk_X0_book_15 : Cond.fieldLink RX0 15 RX0 "chips" "[I" ∈ wsX0_book := by decide +kernel
theorem lk_X0_book_18 : Cond.fieldLink RX0 18 RX0 "came" "[I" ∈ wsX0_book := by decide +kernel
abbrev C_X0_book_1 : sCd := (c_and (c_cmp i_lt (e_i 5) (e_k (nI 13))) (c_cmp i_gt (e_i 4) (e_k (nI 1))))
abbrev W_X0_book_1 : sStm :=
  (s_seq (s_blk 6 (s_seq (s_decI 6 (e_callI M_X7_leastPrime (a_ci (e_i 4) a_nil)))
    (s_seq (s_decI 7 (e_callI M_X0_placeOf (a_cr (e_r 0) (a_ci (e_i 6) a_nil))))
    (s_seq (s_if (c_cmp i_eq (e_i 7) (e_k (-1)))
    (s_setI 7 (e_callI M_X0_openPlace (a_cr (e_r 0) (a_ci (e_i 6) a_nil)))) s_skip)
    (s_seq (s_callV M_X5_put (a_cr (e_getR 0 1 (e_r 0)) (a_ci (e_i 7) (a_ci (e_add (e_callI M_X5_at (a_cr (e_getR 0 1 (e_r 0)) (a_ci (e_i 7) a_nil))) (e_i 2)) a_nil))))
    (s_seq (s_callV M_X5_put (a_cr (e_getR 0 2 (e_r 0)) (a_ci (e_i 7) (a_ci (e_add (e_callI M_X5_at (a_cr (e_getR 0 2 (e_r 0)) (a_ci (e_i 7) a_nil))) (e_i 3)) a_nil))))
    (s_setI 4 (e_callI M_X7_quotient (a_ci (e_i 4) (a_ci (e_i 6) a_nil))))))))))
    (s_inc 5 (nI 1)))
def B_X0_book : sStm :=
  (s_seq (s_seq (s_callV M_X0_makeRoom (a_cr (e_r 0) (a_ci (e_add (e_get 0 3 (e_r 0)) (e_k (nI 5))) a_nil)))
    (s_seq (s_decI 4 (e_i 1))
    (s_blk 5 (s_seq (s_decI 5 (e_k (nI 0)))
    (s_while C_X0_book_1 W_X0_book_1)))))
    s_ret0)
def M_X0_book : sSem := m_ofV 0 4 B_X0_book
set_option maxRecDepth 100000 in
set_option maxHeartbeats 4000000 in
theorem S_X0_book : sSS (cX0_book, wsX0_book, RX0, none, 2, 46, 8, vwCl, RX6, false) 0 0 B_X0_book :=
  (ss_seq (pcA := 113) (ss_seq (pcA := 10) (ss_callVV (pcA := 7) (ci := 0) (index := 25) (sa_cr (pcA := 1) (se_aload_n dX0_book_0 rfl rfl) (sa_ci (pcA := 7) (se_add (pcA := 5) (pcB := 6) (se_get (pcA := 2) (T := TX0) (k := 3) (index := 21) (se_aload_n dX0_book_1 rfl rfl) rfl in_X0_book_X0 (Nat.le_of_ble_eq_true rfl) lk_X0_book_21 rfl dX0_book_2 rfl) (se_iconst dX0_book_5 (by decide +kernel) rfl) dX0_book_6 rfl) sa_nil)) T_X0_makeRoom (s_Rcv_of 0 _ _) rfl gX0_book_X0_makeRoom rfl (by decide +kernel) (Nat.le_of_ble_eq_true rfl) (Nat.le_of_ble_eq_true rfl) (s_LenR (s_LenI s_Len0)) dX0_book_7 rfl)
    (ss_seq (pcA := 13) (ss_decI (pcA := 11) (se_iload_n dX0_book_10 rfl rfl) dX0_book_11 (Nat.le_of_ble_eq_true rfl) rfl)
    (ss_blk (ss_seq (pcA := 16) (ss_decI (pcA := 14) (se_iconst dX0_book_13 (by decide +kernel) rfl) dX0_book_14 (Nat.le_of_ble_eq_true rfl) rfl)
    (ss_while (pcB := 29) (sc_and (pcA := 23) (sc_Flt (pcA := 18) (pcB := 20) (se_iload dX0_book_16 rfl) (se_bipush dX0_book_18 (by decide +kernel) rfl) dX0_book_20 rfl rfl) (sc_Fgt (pcA := 25) (pcB := 26) (se_iload dX0_book_23 rfl) (se_iconst dX0_book_25 (by decide +kernel) rfl) dX0_book_26 rfl rfl))
    (ss_seq (pcA := 107) (ss_blk (ss_seq (pcA := 36) (ss_decI (pcA := 34) (se_callSI (pcA := 31) (index := 35) (sa_ci (pcA := 31) (se_iload dX0_book_29 rfl) sa_nil) T_X7_leastPrime gX0_book_X7_leastPrime rfl (by decide +kernel) (Nat.le_of_ble_eq_true rfl) (Nat.le_of_ble_eq_true rfl) (s_LenI s_Len0) (Nat.le_of_ble_eq_true rfl) dX0_book_31 rfl) dX0_book_34 (Nat.le_of_ble_eq_true rfl) rfl)
    (ss_seq (pcA := 44) (ss_decI (pcA := 42) (se_callVI (pcA := 39) (ci := 0) (index := 41) (sa_cr (pcA := 37) (se_aload_n dX0_book_36 rfl rfl) (sa_ci (pcA := 39) (se_iload dX0_book_37 rfl) sa_nil)) T_X0_placeOf (s_Rcv_of 0 _ _) rfl gX0_book_X0_placeOf rfl (by decide +kernel) (Nat.le_of_ble_eq_true rfl) (Nat.le_of_ble_eq_true rfl) (s_LenR (s_LenI s_Len0)) (Nat.le_of_ble_eq_true rfl) dX0_book_39 rfl) dX0_book_42 (Nat.le_of_ble_eq_true rfl) rfl)
    (ss_seq (pcA := 58) (ss_if (pcT := 50) (pcF := 58) (sc_Feq (pcA := 46) (pcB := 47) (se_iload dX0_book_44 rfl) (se_iconst dX0_book_46 (by decide +kernel) rfl) dX0_book_47 rfl rfl)
    (ss_setI (pcA := 56) (se_callVI (pcA := 53) (ci := 0) (index := 44) (sa_cr (pcA := 51) (se_aload_n dX0_book_50 rfl rfl) (sa_ci (pcA := 53) (se_iload dX0_book_51 rfl) sa_nil)) T_X0_openPlace (s_Rcv_of 0 _ _) rfl gX0_book_X0_openPlace rfl (by decide +kernel) (Nat.le_of_ble_eq_true rfl) (Nat.le_of_ble_eq_true rfl) (s_LenR (s_LenI s_Len0)) (Nat.le_of_ble_eq_true rfl) dX0_book_53 rfl) dX0_book_56 (Nat.le_of_ble_eq_true rfl) rfl) ss_skip)
    (ss_seq (pcA := 78) (ss_callVS (pcA := 75) (index := 51) (sa_cr (pcA := 62) (se_getR (pcA := 59) (T := TX0) (k := 1) (index := 15) (se_aload_n dX0_book_58 rfl rfl) rfl in_X0_book_X0 (Nat.le_of_ble_eq_true rfl) lk_X0_book_15 rfl dX0_book_59 rfl) (sa_ci (pcA := 64) (se_iload dX0_book_62 rfl) (sa_ci (pcA := 75) (se_add (pcA := 73) (pcB := 74) (se_callSI (pcA := 70) (index := 47) (sa_cr (pcA := 68) (se_getR (pcA := 65) (T := TX0) (k := 1) (index := 15) (se_aload_n dX0_book_64 rfl rfl) rfl in_X0_book_X0 (Nat.le_of_ble_eq_true rfl) lk_X0_book_15 rfl dX0_book_65 rfl) (sa_ci (pcA := 70) (se_iload dX0_book_68 rfl) sa_nil)) T_X5_at gX0_book_X5_at rfl (by decide +kernel) (Nat.le_of_ble_eq_true rfl) (Nat.le_of_ble_eq_true rfl) (s_LenR (s_LenI s_Len0)) (Nat.le_of_ble_eq_true rfl) dX0_book_70 rfl) (se_iload_n dX0_book_73 rfl rfl) dX0_book_74 rfl) sa_nil))) T_X5_put gX0_book_X5_put rfl (by decide +kernel) (Nat.le_of_ble_eq_true rfl) (Nat.le_of_ble_eq_true rfl) (s_LenR (s_LenI (s_LenI s_Len0))) dX0_book_75 rfl)
    (ss_seq (pcA := 98) (ss_callVS (pcA := 95) (index := 51) (sa_cr (pcA := 82) (se_getR (pcA := 79) (T := TX0) (k := 2) (index := 18) (se_aload_n dX0_book_78 rfl rfl) rfl in_X0_book_X0 (Nat.le_of_ble_eq_true rfl) lk_X0_book_18 rfl dX0_book_79 rfl) (sa_ci (pcA := 84) (se_iload dX0_book_82 rfl) (sa_ci (pcA := 95) (se_add (pcA := 93) (pcB := 94) (se_callSI (pcA := 90) (index := 47) (sa_cr (pcA := 88) (se_getR (pcA := 85) (T := TX0) (k := 2) (index := 18) (se_aload_n dX0_book_84 rfl rfl) rfl in_X0_book_X0 (Nat.le_of_ble_eq_true rfl) lk_X0_book_18 rfl dX0_book_85 rfl) (sa_ci (pcA := 90) (se_iload dX0_book_88 rfl) sa_nil)) T_X5_at gX0_book_X5_at rfl (by decide +kernel) (Nat.le_of_ble_eq_true rfl) (Nat.le_of_ble_eq_true rfl) (s_LenR (s_LenI s_Len0)) (Nat.le_of_ble_eq_true rfl) dX0_book_90 rfl) (se_iload_n dX0_book_93 rfl rfl) dX0_book_94 rfl) sa_nil))) T_X5_put gX0_book_X5_put rfl (by decide +kernel) (Nat.le_of_ble_eq_true rfl) (Nat.le_of_ble_eq_true rfl) (s_LenR (s_LenI (s_LenI s_Len0))) dX0_book_95 rfl)
    (ss_setI (pcA := 105) (se_callSI (pcA := 102) (index := 55) (sa_ci (pcA := 100) (se_iload dX0_book_98 rfl) (sa_ci (pcA := 102) (se_iload dX0_book_100 rfl) sa_nil)) T_X7_quotient gX0_book_X7_quotient rfl (by decide +kernel) (Nat.le_of_ble_eq_true rfl) (Nat.le_of_ble_eq_true rfl) (s_LenI (s_LenI s_Len0)) (Nat.le_of_ble_eq_true rfl) dX0_book_102 rfl) dX0_book_105 (Nat.le_of_ble_eq_true rfl) rfl)))))))
    (ss_goto (pcG := 110) (ss_inc dX0_book_107 (Nat.le_of_ble_eq_true rfl) (by decide +kernel) rfl) dX0_book_110 rfl)))))))
    (ss_ret0 dX0_book_113 rfl))
theorem T_X0_book : sMet vwCl RX6 yX0_book wsX0_book 2 46 M_X0_book := sMet_of rfl (by decide +kernel) rfl rfl (fun h => by cases h) (m_ofV_run _ _ _) S_X0_book (m_ofV_cat _ _ _ (Nat.le_of_ble_eq_true rfl))
theorem in_X0_chipsOf_X0 : ∀ w ∈ u_ws RX0 TX0 4, w ∈ wsX0_chipsOf := by decide +kernel
theorem lk_X0_chipsOf_15 : Cond.fieldLink RX0 15 RX0 "chips" "[I" ∈ wsX0_chipsOf := by decide +kernel
def B_X0_chipsOf : sStm :=
  (s_retI (e_callI M_X5_at (a_cr (e_getR 0 1 (e_r 0)) (a_ci (e_callI M_X0_placeOf (a_cr (e_r 0) (a_ci (e_i 1) a_nil))) a_nil))))
def M_X0_chipsOf : sSem := m_ofV 0 2 B_X0_chipsOf
set_option maxRecDepth 100000 in
set_option maxHeartbeats 4000000 in
theorem S_X0_chipsOf : sSS (cX0_chipsOf, wsX0_chipsOf, RX0, (some .int), 2, 43, 2, vwCl, RX6, false) 0 0 B_X0_chipsOf :=
  (ss_retI (pcA := 12) (se_callSI (pcA := 9) (index := 47) (sa_cr (pcA := 4) (se_getR (pcA := 1) (T := TX0) (k := 1) (index := 15) (se_aload_n dX0_chipsOf_0 rfl rfl) rfl in_X0_chipsOf_X0 (Nat.le_of_ble_eq_true rfl) lk_X0_chipsOf_15 rfl dX0_chipsOf_1 rfl) (sa_ci (pcA := 9) (se_callVI (pcA := 6) (ci := 0) (index := 41) (sa_cr (pcA := 5) (se_aload_n dX0_chipsOf_4 rfl rfl) (sa_ci (pcA := 6) (se_iload_n dX0_chipsOf_5 rfl rfl) sa_nil)) T_X0_placeOf (s_Rcv_of 0 _ _) rfl gX0_chipsOf_X0_placeOf rfl (by decide +kernel) (Nat.le_of_ble_eq_true rfl) (Nat.le_of_ble_eq_true rfl) (s_LenR (s_LenI s_Len0)) (Nat.le_of_ble_eq_true rfl) dX0_chipsOf_6 rfl) sa_nil)) T_X5_at gX0_chipsOf_X5_at rfl (by decide +kernel) (Nat.le_of_ble_eq_true rfl) (Nat.le_of_ble_eq_true rfl) (s_LenR (s_LenI s_Len0)) (Nat.le_of_ble_eq_true rfl) dX0_chipsOf_9 rfl) dX0_chipsOf_12 rfl)
theorem T_X0_chipsOf : sMet vwCl RX6 yX0_chipsOf wsX0_chipsOf 2 43 M_X0_chipsOf := sMet_of rfl (by decide +kernel) rfl rfl (fun h => by cases h) (m_ofV_run _ _ _) S_X0_chipsOf (m_ofV_cat _ _ _ (Nat.le_of_ble_eq_true rfl))
theorem in_X0_cameOf_X0 : ∀ w ∈ u_ws RX0 TX0 4, w ∈ wsX0_cameOf := by decide +kernel
theorem lk_X0_cameOf_18 : Cond.fieldLink RX0 18 RX0 "came" "[I" ∈ wsX0_cameOf := by decide +kernel
def B_X0_cameOf : sStm :=
  (s_retI (e_callI M_X5_at (a_cr (e_getR 0 2 (e_r 0)) (a_ci (e_callI M_X0_placeOf (a_cr (e_r 0) (a_ci (e_i 1) a_nil))) a_nil))))
def M_X0_cameOf : sSem := m_ofV 0 2 B_X0_cameOf
set_option maxRecDepth 100000 in
set_option maxHeartbeats 4000000 in
theorem S_X0_cameOf : sSS (cX0_cameOf, wsX0_cameOf, RX0, (some .int), 2, 43, 2, vwCl, RX6, false) 0 0 B_X0_cameOf :=
  (ss_retI (pcA := 12) (se_callSI (pcA := 9) (index := 47) (sa_cr (pcA := 4) (se_getR (pcA := 1) (T := TX0) (k := 2) (index := 18) (se_aload_n dX0_cameOf_0 rfl rfl) rfl in_X0_cameOf_X0 (Nat.le_of_ble_eq_true rfl) lk_X0_cameOf_18 rfl dX0_cameOf_1 rfl) (sa_ci (pcA := 9) (se_callVI (pcA := 6) (ci := 0) (index := 41) (sa_cr (pcA := 5) (se_aload_n dX0_cameOf_4 rfl rfl) (sa_ci (pcA := 6) (se_iload_n dX0_cameOf_5 rfl rfl) sa_nil)) T_X0_placeOf (s_Rcv_of 0 _ _) rfl gX0_cameOf_X0_placeOf rfl (by decide +kernel) (Nat.le_of_ble_eq_true rfl) (Nat.le_of_ble_eq_true rfl) (s_LenR (s_LenI s_Len0)) (Nat.le_of_ble_eq_true rfl) dX0_cameOf_6 rfl) sa_nil)) T_X5_at gX0_cameOf_X5_at rfl (by decide +kernel) (Nat.le_of_ble_eq_true rfl) (Nat.le_of_ble_eq_true rfl) (s_LenR (s_LenI s_Len0)) (Nat.le_of_ble_eq_true rfl) dX0_cameOf_9 rfl) dX0_cameOf_12 rfl)
theorem T_X0_cameOf : sMet vwCl RX6 yX0_cameOf wsX0_cameOf 2 43 M_X0_cameOf := sMet_of rfl (by decide +kernel) rfl rfl (fun h => by cases h) (m_ofV_run _ _ _) S_X0_cameOf (m_ofV_cat _ _ _ (Nat.le_of_ble_eq_true rfl))
theorem in_X0_allChips_X0 : ∀ w ∈ u_ws RX0 TX0 4, w ∈ wsX0_allChips := by decide +kernel
theorem lk_X0_allChips_21 : Cond.fieldLink RX0 21 RX0 "kinds" "I" ∈ wsX0_allChips := by decide +kernel
theorem lk_X0_allChips_15 : Cond.fieldLink RX0 15 RX0 "chips" "[I" ∈ wsX0_allChips := by decide +kernel
abbrev C_X0_allChips_1 : sCd := (c_cmp i_lt (e_i 2) (e_get 0 3 (e_r 0)))
abbrev W_X0_allChips_1 : sStm :=
  (s_seq (s_setI 1 (e_add (e_i 1) (e_callI M_X5_at (a_cr (e_getR 0 1 (e_r 0)) (a_ci (e_i 2) a_nil)))))
    (s_inc 2 (nI 1)))
def B_X0_allChips : sStm :=
  (s_seq (s_decI 1 (e_k (nI 0)))
    (s_seq (s_blk 2 (s_seq (s_decI 2 (e_k (nI 0)))
    (s_while C_X0_allChips_1 W_X0_allChips_1)))
    (s_retI (e_i 1))))
def M_X0_allChips : sSem := m_ofV 0 1 B_X0_allChips
set_option maxRecDepth 100000 in
set_option maxHeartbeats 4000000 in
theorem S_X0_allChips : sSS (cX0_allChips, wsX0_allChips, RX0, (some .int), 1, 21, 3, vwCl, RX6, false) 0 0 B_X0_allChips :=
  (ss_seq (pcA := 2) (ss_decI_n (pcA := 1) (se_iconst dX0_allChips_0 (by decide +kernel) rfl) dX0_allChips_1 rfl (Nat.le_of_ble_eq_true rfl) rfl)
    (ss_seq (pcA := 29) (ss_blk (ss_seq (pcA := 4) (ss_decI_n (pcA := 3) (se_iconst dX0_allChips_2 (by decide +kernel) rfl) dX0_allChips_3 rfl (Nat.le_of_ble_eq_true rfl) rfl)
    (ss_while (pcB := 12) (sc_Flt (pcA := 5) (pcB := 9) (se_iload_n dX0_allChips_4 rfl rfl) (se_get (pcA := 6) (T := TX0) (k := 3) (index := 21) (se_aload_n dX0_allChips_5 rfl rfl) rfl in_X0_allChips_X0 (Nat.le_of_ble_eq_true rfl) lk_X0_allChips_21 rfl dX0_allChips_6 rfl) dX0_allChips_9 rfl rfl)
    (ss_seq (pcA := 23) (ss_setI_n (pcA := 22) (se_add (pcA := 13) (pcB := 21) (se_iload_n dX0_allChips_12 rfl rfl) (se_callSI (pcA := 18) (index := 47) (sa_cr (pcA := 17) (se_getR (pcA := 14) (T := TX0) (k := 1) (index := 15) (se_aload_n dX0_allChips_13 rfl rfl) rfl in_X0_allChips_X0 (Nat.le_of_ble_eq_true rfl) lk_X0_allChips_15 rfl dX0_allChips_14 rfl) (sa_ci (pcA := 18) (se_iload_n dX0_allChips_17 rfl rfl) sa_nil)) T_X5_at gX0_allChips_X5_at rfl (by decide +kernel) (Nat.le_of_ble_eq_true rfl) (Nat.le_of_ble_eq_true rfl) (s_LenR (s_LenI s_Len0)) (Nat.le_of_ble_eq_true rfl) dX0_allChips_18 rfl) dX0_allChips_21 rfl) dX0_allChips_22 rfl (Nat.le_of_ble_eq_true rfl) rfl)
    (ss_goto (pcG := 26) (ss_inc dX0_allChips_23 (Nat.le_of_ble_eq_true rfl) (by decide +kernel) rfl) dX0_allChips_26 rfl)))))
    (ss_retI (pcA := 30) (se_iload_n dX0_allChips_29 rfl rfl) dX0_allChips_30 rfl)))
theorem T_X0_allChips : sMet vwCl RX6 yX0_allChips wsX0_allChips 1 21 M_X0_allChips := sMet_of rfl (by decide +kernel) rfl rfl (fun h => by cases h) (m_ofV_run _ _ _) S_X0_allChips (m_ofV_cat _ _ _ (Nat.le_of_ble_eq_true rfl))
theorem in_X0_kindsOfChips_X0 : ∀ w ∈ u_ws RX0 TX0 4, w ∈ wsX0_kindsOfChips := by decide +kernel
theorem lk_X0_kindsOfChips_21 : Cond.fieldLink RX0 21 RX0 "kinds" "I" ∈ wsX0_kindsOfChips := by decide +kernel
theorem lk_X0_kindsOfChips_15 : Cond.fieldLink RX0 15 RX0 "chips" "[I" ∈ wsX0_kindsOfChips := by decide +kernel
abbrev C_X0_kindsOfChips_1 : sCd := (c_cmp i_lt (e_i 2) (e_get 0 3 (e_r 0)))
abbrev W_X0_kindsOfChips_1 : sStm :=
  (s_seq (s_if (c_cmp0 i_gt (e_callI M_X5_at (a_cr (e_getR 0 1 (e_r 0)) (a_ci (e_i 2) a_nil))))
    (s_inc 1 (nI 1)) s_skip)
    (s_inc 2 (nI 1)))
def B_X0_kindsOfChips : sStm :=
  (s_seq (s_decI 1 (e_k (nI 0)))
    (s_seq (s_blk 2 (s_seq (s_decI 2 (e_k (nI 0)))
    (s_while C_X0_kindsOfChips_1 W_X0_kindsOfChips_1)))
    (s_retI (e_i 1))))
def M_X0_kindsOfChips : sSem := m_ofV 0 1 B_X0_kindsOfChips
set_option maxRecDepth 100000 in
set_option maxHeartbeats 4000000 in
theorem S_X0_kindsOfChips : sSS (cX0_kindsOfChips, wsX0_kindsOfChips, RX0, (some .int), 1, 21, 3, vwCl, RX6, false) 0 0 B_X0_kindsOfChips :=
  (ss_seq (pcA := 2) (ss_decI_n (pcA := 1) (se_iconst dX0_kindsOfChips_0 (by decide +kernel) rfl) dX0_kindsOfChips_1 rfl (Nat.le_of_ble_eq_true rfl) rfl)
    (ss_seq (pcA := 32) (ss_blk (ss_seq (pcA := 4) (ss_decI_n (pcA := 3) (se_iconst dX0_kindsOfChips_2 (by decide +kernel) rfl) dX0_kindsOfChips_3 rfl (Nat.le_of_ble_eq_true rfl) rfl)
    (ss_while (pcB := 12) (sc_Flt (pcA := 5) (pcB := 9) (se_iload_n dX0_kindsOfChips_4 rfl rfl) (se_get (pcA := 6) (T := TX0) (k := 3) (index := 21) (se_aload_n dX0_kindsOfChips_5 rfl rfl) rfl in_X0_kindsOfChips_X0 (Nat.le_of_ble_eq_true rfl) lk_X0_kindsOfChips_21 rfl dX0_kindsOfChips_6 rfl) dX0_kindsOfChips_9 rfl rfl)
    (ss_seq (pcA := 26) (ss_if (pcT := 23) (pcF := 26) (sc_Fgt0 (pcB := 20) (se_callSI (pcA := 17) (index := 47) (sa_cr (pcA := 16) (se_getR (pcA := 13) (T := TX0) (k := 1) (index := 15) (se_aload_n dX0_kindsOfChips_12 rfl rfl) rfl in_X0_kindsOfChips_X0 (Nat.le_of_ble_eq_true rfl) lk_X0_kindsOfChips_15 rfl dX0_kindsOfChips_13 rfl) (sa_ci (pcA := 17) (se_iload_n dX0_kindsOfChips_16 rfl rfl) sa_nil)) T_X5_at gX0_kindsOfChips_X5_at rfl (by decide +kernel) (Nat.le_of_ble_eq_true rfl) (Nat.le_of_ble_eq_true rfl) (s_LenR (s_LenI s_Len0)) (Nat.le_of_ble_eq_true rfl) dX0_kindsOfChips_17 rfl) dX0_kindsOfChips_20 rfl rfl)
    (ss_inc dX0_kindsOfChips_23 (Nat.le_of_ble_eq_true rfl) (by decide +kernel) rfl) ss_skip)
    (ss_goto (pcG := 29) (ss_inc dX0_kindsOfChips_26 (Nat.le_of_ble_eq_true rfl) (by decide +kernel) rfl) dX0_kindsOfChips_29 rfl)))))
    (ss_retI (pcA := 33) (se_iload_n dX0_kindsOfChips_32 rfl rfl) dX0_kindsOfChips_33 rfl)))
theorem T_X0_kindsOfChips : sMet vwCl RX6 yX0_kindsOfChips wsX0_kindsOfChips 1 21 M_X0_kindsOfChips := sMet_of rfl (by decide +kernel) rfl rfl (fun h => by cases h) (m_ofV_run _ _ _) S_X0_kindsOfChips (m_ofV_cat _ _ _ (Nat.le_of_ble_eq_true rfl))
theorem ml_X6_init_3 : Cond.methodLink RX6 3 objectInit ∈ wsX6_init := by decide +kernel
theorem mo_X6_init : Cond.instanceMethod objectInit ∈ wsX6_init := by decide +kernel
theorem mc_X6_init : Cond.code objectInit ⟨#[0xb1]⟩ 1 none ∈ wsX6_init := by decide +kernel
theorem na_X6_init : Cond.arrayClass .int ∈ wsX6_init := by decide +kernel
theorem in_X6_init_X6 : ∀ w ∈ u_ws RX6 TX6 6, w ∈ wsX6_init := by decide +kernel
theorem lk_X6_init_9 : Cond.fieldLink RX6 9 RX6 "numbers" "[I" ∈ wsX6_init := by decide +kernel
theorem in_X6_init_X0 : ∀ w ∈ u_ws RX0 TX0 4, w ∈ wsX6_init := by decide +kernel
theorem cl_X6_init_15 : Cond.classLink RX6 15 RX0 ∈ wsX6_init := by decide +kernel
theorem it_X6_init_X0 : Cond.instantiable RX0 4 ∈ wsX6_init := by decide +kernel
theorem ii_X6_init_X0 : Cond.initialized RX0 ∈ wsX6_init := by decide +kernel
theorem ml_X6_init_17 : Cond.methodLink RX6 17 yX0_init ∈ wsX6_init := by decide +kernel
theorem mi_X6_init_X0_init : Cond.instanceMethod yX0_init ∈ wsX6_init := by decide +kernel
theorem lk_X6_init_18 : Cond.fieldLink RX6 18 RX6 "accounts" "LStairKin$Accounts;" ∈ wsX6_init := by decide +kernel
theorem lk_X6_init_22 : Cond.fieldLink RX6 22 RX6 "stride" "I" ∈ wsX6_init := by decide +kernel
def B_X6_init : sStm :=
  (s_seq (s_seq (s_super (e_r 0))
    (s_seq (s_putR 5 0 (e_r 0) (e_newa (e_k (nI 12))))
    (s_seq (s_putR 5 1 (e_r 0) (e_new 0 [.null, .null, .null, .int 0] M_X0_init a_nil))
    (s_putI 5 4 (e_r 0) (e_k (nI 2))))))
    s_ret0)
def M_X6_init : sSem := m_of 1 B_X6_init
set_option maxRecDepth 100000 in
set_option maxHeartbeats 4000000 in
theorem S_X6_init : sSS (cX6_init, wsX6_init, RX6, none, 2, 40, 1, vwCl, RX6, true) 0 0 B_X6_init :=
  (ss_seq (pcA := 28) (ss_seq (pcA := 4) (ss_objInit (pcA := 1) (se_aload_n dX6_init_0 rfl rfl) ml_X6_init_3 mo_X6_init mc_X6_init dX6_init_1 ⟨(Nat.le_of_ble_eq_true rfl), (Nat.le_of_ble_eq_true rfl)⟩ rfl)
    (ss_seq (pcA := 12) (ss_putRF (pcA := 5) (pcB := 9) (T := TX6) (index := 9) (se_aload_n dX6_init_4 rfl rfl) (se_newa (pcA := 7) (se_bipush dX6_init_5 (by decide +kernel) rfl) na_X6_init dX6_init_7 rfl) rfl in_X6_init_X6 tyX6 tyX6_ok nmX6 (Nat.le_of_ble_eq_true rfl) lk_X6_init_9 rfl rfl rfl rfl (Or.inr ⟨_, rfl⟩) dX6_init_9 rfl)
    (ss_seq (pcA := 23) (ss_putRF (pcA := 13) (pcB := 20) (T := TX6) (index := 18) (se_aload_n dX6_init_12 rfl rfl) (se_new (pcD := 16) (pcB := 17) (pcA := 17) (ci := 0) (idn := 15) (index := 17) rfl in_X6_init_X0 tyX0 tyX0_ok cl_X6_init_15 it_X6_init_X0 ii_X6_init_X0 (fun j hj b => by rcases (show j = 0 ∨ j = 1 ∨ j = 2 ∨ j = 3 by omega) with rfl | rfl | rfl | rfl <;> rfl) rfl dX6_init_13 rfl dX6_init_16 rfl sa_nil T_X0_init gX6_init_X0_init rfl rfl ii_X6_init_X0 ml_X6_init_17 mi_X6_init_X0_init (by decide +kernel) (Nat.le_of_ble_eq_true rfl) (Nat.le_of_ble_eq_true rfl) s_Len0 (Nat.le_of_ble_eq_true rfl) dX6_init_17 rfl) rfl in_X6_init_X6 tyX6 tyX6_ok nmX6 (Nat.le_of_ble_eq_true rfl) lk_X6_init_18 rfl rfl rfl rfl (Or.inl ⟨_, rfl⟩) dX6_init_20 rfl)
    (ss_putI (pcA := 24) (pcB := 25) (T := TX6) (index := 22) (se_aload_n dX6_init_23 rfl rfl) (se_iconst dX6_init_24 (by decide +kernel) rfl) rfl in_X6_init_X6 tyX6 tyX6_ok nmX6 (Nat.le_of_ble_eq_true rfl) lk_X6_init_22 rfl rfl rfl dX6_init_25 rfl))))
    (ss_ret0 dX6_init_28 rfl))
theorem T_X6_init : sMet vwCl RX6 yX6_init wsX6_init 2 40 M_X6_init := sMet_of rfl (by decide +kernel) rfl rfl (fun _ => rfl) (m_of_run _ _) S_X6_init (m_of_cat _ _ (Nat.le_of_ble_eq_true rfl))
theorem in_X6_copyFrom_X6 : ∀ w ∈ u_ws RX6 TX6 6, w ∈ wsX6_copyFrom := by decide +kernel
theorem lk_X6_copyFrom_26 : Cond.fieldLink RX6 26 RX6 "size" "I" ∈ wsX6_copyFrom := by decide +kernel
theorem lk_X6_copyFrom_29 : Cond.fieldLink RX6 29 RX6 "rule" "I" ∈ wsX6_copyFrom := by decide +kernel
theorem lk_X6_copyFrom_22 : Cond.fieldLink RX6 22 RX6 "stride" "I" ∈ wsX6_copyFrom := by decide +kernel
theorem lk_X6_copyFrom_32 : Cond.fieldLink RX6 32 RX6 "broken" "I" ∈ wsX6_copyFrom := by decide +kernel
theorem lk_X6_copyFrom_9 : Cond.fieldLink RX6 9 RX6 "numbers" "[I" ∈ wsX6_copyFrom := by decide +kernel
theorem lk_X6_copyFrom_18 : Cond.fieldLink RX6 18 RX6 "accounts" "LStairKin$Accounts;" ∈ wsX6_copyFrom := by decide +kernel
def B_X6_copyFrom : sStm :=
  (s_seq (s_seq (s_putI 5 2 (e_r 0) (e_get 5 2 (e_r 1)))
    (s_seq (s_putI 5 3 (e_r 0) (e_get 5 3 (e_r 1)))
    (s_seq (s_putI 5 4 (e_r 0) (e_get 5 4 (e_r 1)))
    (s_seq (s_putI 5 5 (e_r 0) (e_get 5 5 (e_r 1)))
    (s_seq (s_callV M_X5_copy (a_cr (e_getR 5 0 (e_r 1)) (a_cr (e_getR 5 0 (e_r 0)) (a_ci (e_get 5 2 (e_r 0)) a_nil))))
    (s_callV M_X0_copyFrom (a_cr (e_getR 5 1 (e_r 0)) (a_cr (e_getR 5 1 (e_r 1)) a_nil))))))))
    s_ret0)
def M_X6_copyFrom : sSem := m_ofV 5 2 B_X6_copyFrom
set_option maxRecDepth 100000 in
set_option maxHeartbeats 4000000 in
theorem S_X6_copyFrom : sSS (cX6_copyFrom, wsX6_copyFrom, RX6, none, 3, 67, 2, vwCl, RX6, false) 0 0 B_X6_copyFrom :=
  (ss_seq (pcA := 58) (ss_seq (pcA := 8) (ss_putI (pcA := 1) (pcB := 5) (T := TX6) (index := 26) (se_aload_n dX6_copyFrom_0 rfl rfl) (se_get (pcA := 2) (T := TX6) (k := 2) (index := 26) (se_aload_n dX6_copyFrom_1 rfl rfl) rfl in_X6_copyFrom_X6 (Nat.le_of_ble_eq_true rfl) lk_X6_copyFrom_26 rfl dX6_copyFrom_2 rfl) rfl in_X6_copyFrom_X6 tyX6 tyX6_ok nmX6 (Nat.le_of_ble_eq_true rfl) lk_X6_copyFrom_26 rfl rfl rfl dX6_copyFrom_5 rfl)
    (ss_seq (pcA := 16) (ss_putI (pcA := 9) (pcB := 13) (T := TX6) (index := 29) (se_aload_n dX6_copyFrom_8 rfl rfl) (se_get (pcA := 10) (T := TX6) (k := 3) (index := 29) (se_aload_n dX6_copyFrom_9 rfl rfl) rfl in_X6_copyFrom_X6 (Nat.le_of_ble_eq_true rfl) lk_X6_copyFrom_29 rfl dX6_copyFrom_10 rfl) rfl in_X6_copyFrom_X6 tyX6 tyX6_ok nmX6 (Nat.le_of_ble_eq_true rfl) lk_X6_copyFrom_29 rfl rfl rfl dX6_copyFrom_13 rfl)
    (ss_seq (pcA := 24) (ss_putI (pcA := 17) (pcB := 21) (T := TX6) (index := 22) (se_aload_n dX6_copyFrom_16 rfl rfl) (se_get (pcA := 18) (T := TX6) (k := 4) (index := 22) (se_aload_n dX6_copyFrom_17 rfl rfl) rfl in_X6_copyFrom_X6 (Nat.le_of_ble_eq_true rfl) lk_X6_copyFrom_22 rfl dX6_copyFrom_18 rfl) rfl in_X6_copyFrom_X6 tyX6 tyX6_ok nmX6 (Nat.le_of_ble_eq_true rfl) lk_X6_copyFrom_22 rfl rfl rfl dX6_copyFrom_21 rfl)
    (ss_seq (pcA := 32) (ss_putI (pcA := 25) (pcB := 29) (T := TX6) (index := 32) (se_aload_n dX6_copyFrom_24 rfl rfl) (se_get (pcA := 26) (T := TX6) (k := 5) (index := 32) (se_aload_n dX6_copyFrom_25 rfl rfl) rfl in_X6_copyFrom_X6 (Nat.le_of_ble_eq_true rfl) lk_X6_copyFrom_32 rfl dX6_copyFrom_26 rfl) rfl in_X6_copyFrom_X6 tyX6 tyX6_ok nmX6 (Nat.le_of_ble_eq_true rfl) lk_X6_copyFrom_32 rfl rfl rfl dX6_copyFrom_29 rfl)
    (ss_seq (pcA := 47) (ss_callVS (pcA := 44) (index := 35) (sa_cr (pcA := 36) (se_getR (pcA := 33) (T := TX6) (k := 0) (index := 9) (se_aload_n dX6_copyFrom_32 rfl rfl) rfl in_X6_copyFrom_X6 (Nat.le_of_ble_eq_true rfl) lk_X6_copyFrom_9 rfl dX6_copyFrom_33 rfl) (sa_cr (pcA := 40) (se_getR (pcA := 37) (T := TX6) (k := 0) (index := 9) (se_aload_n dX6_copyFrom_36 rfl rfl) rfl in_X6_copyFrom_X6 (Nat.le_of_ble_eq_true rfl) lk_X6_copyFrom_9 rfl dX6_copyFrom_37 rfl) (sa_ci (pcA := 44) (se_get (pcA := 41) (T := TX6) (k := 2) (index := 26) (se_aload_n dX6_copyFrom_40 rfl rfl) rfl in_X6_copyFrom_X6 (Nat.le_of_ble_eq_true rfl) lk_X6_copyFrom_26 rfl dX6_copyFrom_41 rfl) sa_nil))) T_X5_copy gX6_copyFrom_X5_copy rfl (by decide +kernel) (Nat.le_of_ble_eq_true rfl) (Nat.le_of_ble_eq_true rfl) (s_LenR (s_LenR (s_LenI s_Len0))) dX6_copyFrom_44 rfl)
    (ss_callVV (pcA := 55) (ci := 0) (index := 41) (sa_cr (pcA := 51) (se_getR (pcA := 48) (T := TX6) (k := 1) (index := 18) (se_aload_n dX6_copyFrom_47 rfl rfl) rfl in_X6_copyFrom_X6 (Nat.le_of_ble_eq_true rfl) lk_X6_copyFrom_18 rfl dX6_copyFrom_48 rfl) (sa_cr (pcA := 55) (se_getR (pcA := 52) (T := TX6) (k := 1) (index := 18) (se_aload_n dX6_copyFrom_51 rfl rfl) rfl in_X6_copyFrom_X6 (Nat.le_of_ble_eq_true rfl) lk_X6_copyFrom_18 rfl dX6_copyFrom_52 rfl) sa_nil)) T_X0_copyFrom (s_Rcv_of 0 _ _) rfl gX6_copyFrom_X0_copyFrom rfl (by decide +kernel) (Nat.le_of_ble_eq_true rfl) (Nat.le_of_ble_eq_true rfl) (s_LenR (s_LenR s_Len0)) dX6_copyFrom_55 rfl))))))
    (ss_ret0 dX6_copyFrom_58 rfl))
theorem T_X6_copyFrom : sMet vwCl RX6 yX6_copyFrom wsX6_copyFrom 3 67 M_X6_copyFrom := sMet_of rfl (by decide +kernel) rfl rfl (fun h => by cases h) (m_ofV_run _ _ _) S_X6_copyFrom (m_ofV_cat _ _ _ (Nat.le_of_ble_eq_true rfl))
theorem in_X6_has_X6 : ∀ w ∈ u_ws RX6 TX6 6, w ∈ wsX6_has := by decide +kernel
theorem lk_X6_has_26 : Cond.fieldLink RX6 26 RX6 "size" "I" ∈ wsX6_has := by decide +kernel
def B_X6_has : sStm :=
  (s_retZ (e_if (c_and (c_cmp0 i_ge (e_i 1)) (c_cmp i_lt (e_i 1) (e_get 5 2 (e_r 0)))) (e_k (nI 1)) (e_k (nI 0))))
def M_X6_has : sSem := m_ofV 5 2 B_X6_has
set_option maxRecDepth 100000 in
set_option maxHeartbeats 4000000 in
theorem S_X6_has : sSS (cX6_has, wsX6_has, RX6, (some .boolean), 0, 0, 2, vwCl, RX6, false) 0 0 B_X6_has :=
  (ss_retZ (pcA := 17) (se_if (pcT := 12) (pcF := 16) (pcG := 13) (sc_and (pcA := 4) (sc_Fge0 (pcB := 1) (se_iload_n dX6_has_0 rfl rfl) dX6_has_1 rfl rfl) (sc_Flt (pcA := 5) (pcB := 9) (se_iload_n dX6_has_4 rfl rfl) (se_get (pcA := 6) (T := TX6) (k := 2) (index := 26) (se_aload_n dX6_has_5 rfl rfl) rfl in_X6_has_X6 (Nat.le_of_ble_eq_true rfl) lk_X6_has_26 rfl dX6_has_6 rfl) dX6_has_9 rfl rfl)) (se_iconst dX6_has_12 (by decide +kernel) rfl) dX6_has_13 rfl (se_iconst dX6_has_16 (by decide +kernel) rfl)) dX6_has_17 rfl)
theorem T_X6_has : sMet vwCl RX6 yX6_has wsX6_has 0 0 M_X6_has := sMet_of rfl (by decide +kernel) rfl rfl (fun h => by cases h) (m_ofV_run _ _ _) S_X6_has (m_ofV_cat _ _ _ (Nat.le_of_ble_eq_true rfl))
theorem in_X6_numberOf_X6 : ∀ w ∈ u_ws RX6 TX6 6, w ∈ wsX6_numberOf := by decide +kernel
theorem lk_X6_numberOf_26 : Cond.fieldLink RX6 26 RX6 "size" "I" ∈ wsX6_numberOf := by decide +kernel
theorem lk_X6_numberOf_9 : Cond.fieldLink RX6 9 RX6 "numbers" "[I" ∈ wsX6_numberOf := by decide +kernel
def B_X6_numberOf : sStm :=
  (s_retI (e_if (c_and (c_and (c_cmp0 i_ge (e_i 1)) (c_cmp i_lt (e_i 1) (e_get 5 2 (e_r 0)))) (c_cmp i_lt (e_i 1) (e_len (e_getR 5 0 (e_r 0))))) (e_ald (e_getR 5 0 (e_r 0)) (e_i 1)) (e_k (nI 1))))
def M_X6_numberOf : sSem := m_ofV 5 2 B_X6_numberOf
set_option maxRecDepth 100000 in
set_option maxHeartbeats 4000000 in
theorem S_X6_numberOf : sSS (cX6_numberOf, wsX6_numberOf, RX6, (some .int), 0, 0, 2, vwCl, RX6, false) 0 0 B_X6_numberOf :=
  (ss_retI (pcA := 31) (se_if (pcT := 21) (pcF := 30) (pcG := 27) (sc_and (pcA := 12) (sc_and (pcA := 4) (sc_Fge0 (pcB := 1) (se_iload_n dX6_numberOf_0 rfl rfl) dX6_numberOf_1 rfl rfl) (sc_Flt (pcA := 5) (pcB := 9) (se_iload_n dX6_numberOf_4 rfl rfl) (se_get (pcA := 6) (T := TX6) (k := 2) (index := 26) (se_aload_n dX6_numberOf_5 rfl rfl) rfl in_X6_numberOf_X6 (Nat.le_of_ble_eq_true rfl) lk_X6_numberOf_26 rfl dX6_numberOf_6 rfl) dX6_numberOf_9 rfl rfl)) (sc_Flt (pcA := 13) (pcB := 18) (se_iload_n dX6_numberOf_12 rfl rfl) (se_len (pcA := 17) (se_getR (pcA := 14) (T := TX6) (k := 0) (index := 9) (se_aload_n dX6_numberOf_13 rfl rfl) rfl in_X6_numberOf_X6 (Nat.le_of_ble_eq_true rfl) lk_X6_numberOf_9 rfl dX6_numberOf_14 rfl) dX6_numberOf_17 rfl) dX6_numberOf_18 rfl rfl)) (se_ald (pcA := 25) (pcB := 26) (se_getR (pcA := 22) (T := TX6) (k := 0) (index := 9) (se_aload_n dX6_numberOf_21 rfl rfl) rfl in_X6_numberOf_X6 (Nat.le_of_ble_eq_true rfl) lk_X6_numberOf_9 rfl dX6_numberOf_22 rfl) (se_iload_n dX6_numberOf_25 rfl rfl) dX6_numberOf_26 rfl) dX6_numberOf_27 rfl (se_iconst dX6_numberOf_30 (by decide +kernel) rfl)) dX6_numberOf_31 rfl)
theorem T_X6_numberOf : sMet vwCl RX6 yX6_numberOf wsX6_numberOf 0 0 M_X6_numberOf := sMet_of rfl (by decide +kernel) rfl rfl (fun h => by cases h) (m_ofV_run _ _ _) S_X6_numberOf (m_ofV_cat _ _ _ (Nat.le_of_ble_eq_true rfl))
theorem in_X6_putIn_X6 : ∀ w ∈ u_ws RX6 TX6 6, w ∈ wsX6_putIn := by decide +kernel
theorem lk_X6_putIn_26 : Cond.fieldLink RX6 26 RX6 "size" "I" ∈ wsX6_putIn := by decide +kernel
theorem lk_X6_putIn_9 : Cond.fieldLink RX6 9 RX6 "numbers" "[I" ∈ wsX6_putIn := by decide +kernel
theorem lk_X6_putIn_18 : Cond.fieldLink RX6 18 RX6 "accounts" "LStairKin$Accounts;" ∈ wsX6_putIn := by decide +kernel
abbrev C_X6_putIn_1 : sCd := (c_cmp i_gt (e_i 3) (e_i 1))
abbrev W_X6_putIn_1 : sStm :=
  (s_seq (s_callV M_X5_put (a_cr (e_getR 5 0 (e_r 0)) (a_ci (e_i 3) (a_ci (e_callI M_X5_at (a_cr (e_getR 5 0 (e_r 0)) (a_ci (e_sub (e_i 3) (e_k (nI 1))) a_nil))) a_nil))))
    (s_inc 3 (-1)))
def B_X6_putIn : sStm :=
  (s_seq (s_if (c_or (c_or (c_cmp0 i_lt (e_i 1)) (c_cmp i_gt (e_i 1) (e_get 5 2 (e_r 0)))) (c_not (c_cmp0 i_ne (e_callI M_X7_isNumber (a_ci (e_i 2) a_nil)))))
    (s_retI (e_k (-1))) s_skip)
    (s_seq (s_if (c_cmp i_ge (e_get 5 2 (e_r 0)) (e_k (nI 12)))
    (s_retI (e_k (-3))) s_skip)
    (s_seq (s_blk 3 (s_seq (s_decI 3 (e_get 5 2 (e_r 0)))
    (s_while C_X6_putIn_1 W_X6_putIn_1)))
    (s_seq (s_callV M_X5_put (a_cr (e_getR 5 0 (e_r 0)) (a_ci (e_i 1) (a_ci (e_i 2) a_nil))))
    (s_seq (s_putop 5 2 (e_r 0) (fun x z => x + z) (e_k (nI 1)))
    (s_seq (s_callV M_X0_book (a_cr (e_getR 5 1 (e_r 0)) (a_ci (e_i 2) (a_ci (e_k (nI 0)) (a_ci (e_k (nI 1)) a_nil)))))
    (s_retI (e_get 5 2 (e_r 0)))))))))
def M_X6_putIn : sSem := m_ofV 5 3 B_X6_putIn
set_option maxRecDepth 100000 in
set_option maxHeartbeats 4000000 in
theorem S_X6_putIn : sSS (cX6_putIn, wsX6_putIn, RX6, (some .int), 3, 73, 4, vwCl, RX6, false) 0 0 B_X6_putIn :=
  (ss_seq (pcA := 21) (ss_if (pcT := 19) (pcF := 21) (sc_or (pcA := 12) (sc_or (pcA := 4) (sc_Tlt0 (pcB := 1) (se_iload_n dX6_putIn_0 rfl rfl) dX6_putIn_1 rfl rfl) (sc_Tgt (pcA := 5) (pcB := 9) (se_iload_n dX6_putIn_4 rfl rfl) (se_get (pcA := 6) (T := TX6) (k := 2) (index := 26) (se_aload_n dX6_putIn_5 rfl rfl) rfl in_X6_putIn_X6 (Nat.le_of_ble_eq_true rfl) lk_X6_putIn_26 rfl dX6_putIn_6 rfl) dX6_putIn_9 rfl rfl)) (sc_not (sc_Tne0 (pcB := 16) (se_callSI (pcA := 13) (index := 45) (sa_ci (pcA := 13) (se_iload_n dX6_putIn_12 rfl rfl) sa_nil) T_X7_isNumber gX6_putIn_X7_isNumber rfl (by decide +kernel) (Nat.le_of_ble_eq_true rfl) (Nat.le_of_ble_eq_true rfl) (s_LenI s_Len0) (Nat.le_of_ble_eq_true rfl) dX6_putIn_13 rfl) dX6_putIn_16 rfl rfl)))
    (ss_retI (pcA := 20) (se_iconst dX6_putIn_19 (by decide +kernel) rfl) dX6_putIn_20 rfl) ss_skip)
    (ss_seq (pcA := 33) (ss_if (pcT := 30) (pcF := 33) (sc_Fge (pcA := 25) (pcB := 27) (se_get (pcA := 22) (T := TX6) (k := 2) (index := 26) (se_aload_n dX6_putIn_21 rfl rfl) rfl in_X6_putIn_X6 (Nat.le_of_ble_eq_true rfl) lk_X6_putIn_26 rfl dX6_putIn_22 rfl) (se_bipush dX6_putIn_25 (by decide +kernel) rfl) dX6_putIn_27 rfl rfl)
    (ss_retI (pcA := 32) (se_bipush dX6_putIn_30 (by decide +kernel) rfl) dX6_putIn_32 rfl) ss_skip)
    (ss_seq (pcA := 67) (ss_blk (ss_seq (pcA := 38) (ss_decI_n (pcA := 37) (se_get (pcA := 34) (T := TX6) (k := 2) (index := 26) (se_aload_n dX6_putIn_33 rfl rfl) rfl in_X6_putIn_X6 (Nat.le_of_ble_eq_true rfl) lk_X6_putIn_26 rfl dX6_putIn_34 rfl) dX6_putIn_37 rfl (Nat.le_of_ble_eq_true rfl) rfl)
    (ss_while (pcB := 43) (sc_Fgt (pcA := 39) (pcB := 40) (se_iload_n dX6_putIn_38 rfl rfl) (se_iload_n dX6_putIn_39 rfl rfl) dX6_putIn_40 rfl rfl)
    (ss_seq (pcA := 61) (ss_callVS (pcA := 58) (index := 55) (sa_cr (pcA := 47) (se_getR (pcA := 44) (T := TX6) (k := 0) (index := 9) (se_aload_n dX6_putIn_43 rfl rfl) rfl in_X6_putIn_X6 (Nat.le_of_ble_eq_true rfl) lk_X6_putIn_9 rfl dX6_putIn_44 rfl) (sa_ci (pcA := 48) (se_iload_n dX6_putIn_47 rfl rfl) (sa_ci (pcA := 58) (se_callSI (pcA := 55) (index := 51) (sa_cr (pcA := 52) (se_getR (pcA := 49) (T := TX6) (k := 0) (index := 9) (se_aload_n dX6_putIn_48 rfl rfl) rfl in_X6_putIn_X6 (Nat.le_of_ble_eq_true rfl) lk_X6_putIn_9 rfl dX6_putIn_49 rfl) (sa_ci (pcA := 55) (se_sub (pcA := 53) (pcB := 54) (se_iload_n dX6_putIn_52 rfl rfl) (se_iconst dX6_putIn_53 (by decide +kernel) rfl) dX6_putIn_54 rfl) sa_nil)) T_X5_at gX6_putIn_X5_at rfl (by decide +kernel) (Nat.le_of_ble_eq_true rfl) (Nat.le_of_ble_eq_true rfl) (s_LenR (s_LenI s_Len0)) (Nat.le_of_ble_eq_true rfl) dX6_putIn_55 rfl) sa_nil))) T_X5_put gX6_putIn_X5_put rfl (by decide +kernel) (Nat.le_of_ble_eq_true rfl) (Nat.le_of_ble_eq_true rfl) (s_LenR (s_LenI (s_LenI s_Len0))) dX6_putIn_58 rfl)
    (ss_goto (pcG := 64) (ss_inc dX6_putIn_61 (Nat.le_of_ble_eq_true rfl) (by decide +kernel) rfl) dX6_putIn_64 rfl)))))
    (ss_seq (pcA := 76) (ss_callVS (pcA := 73) (index := 55) (sa_cr (pcA := 71) (se_getR (pcA := 68) (T := TX6) (k := 0) (index := 9) (se_aload_n dX6_putIn_67 rfl rfl) rfl in_X6_putIn_X6 (Nat.le_of_ble_eq_true rfl) lk_X6_putIn_9 rfl dX6_putIn_68 rfl) (sa_ci (pcA := 72) (se_iload_n dX6_putIn_71 rfl rfl) (sa_ci (pcA := 73) (se_iload_n dX6_putIn_72 rfl rfl) sa_nil))) T_X5_put gX6_putIn_X5_put rfl (by decide +kernel) (Nat.le_of_ble_eq_true rfl) (Nat.le_of_ble_eq_true rfl) (s_LenR (s_LenI (s_LenI s_Len0))) dX6_putIn_73 rfl)
    (ss_seq (pcA := 86) (ss_putop (pcA := 77) (pcD := 78) (pcG := 81) (pcB := 82) (pcO := 83) (T := TX6) (index := 26) (se_aload_n dX6_putIn_76 rfl rfl) dX6_putIn_77 rfl rfl in_X6_putIn_X6 tyX6 tyX6_ok nmX6 (Nat.le_of_ble_eq_true rfl) lk_X6_putIn_26 rfl dX6_putIn_78 rfl (se_iconst dX6_putIn_81 (by decide +kernel) rfl) (Or.inl ⟨dX6_putIn_82, rfl⟩) rfl rfl rfl dX6_putIn_83 rfl)
    (ss_seq (pcA := 96) (ss_callVV (pcA := 93) (ci := 0) (index := 59) (sa_cr (pcA := 90) (se_getR (pcA := 87) (T := TX6) (k := 1) (index := 18) (se_aload_n dX6_putIn_86 rfl rfl) rfl in_X6_putIn_X6 (Nat.le_of_ble_eq_true rfl) lk_X6_putIn_18 rfl dX6_putIn_87 rfl) (sa_ci (pcA := 91) (se_iload_n dX6_putIn_90 rfl rfl) (sa_ci (pcA := 92) (se_iconst dX6_putIn_91 (by decide +kernel) rfl) (sa_ci (pcA := 93) (se_iconst dX6_putIn_92 (by decide +kernel) rfl) sa_nil)))) T_X0_book (s_Rcv_of 0 _ _) rfl gX6_putIn_X0_book rfl (by decide +kernel) (Nat.le_of_ble_eq_true rfl) (Nat.le_of_ble_eq_true rfl) (s_LenR (s_LenI (s_LenI (s_LenI s_Len0)))) dX6_putIn_93 rfl)
    (ss_retI (pcA := 100) (se_get (pcA := 97) (T := TX6) (k := 2) (index := 26) (se_aload_n dX6_putIn_96 rfl rfl) rfl in_X6_putIn_X6 (Nat.le_of_ble_eq_true rfl) lk_X6_putIn_26 rfl dX6_putIn_97 rfl) dX6_putIn_100 rfl)))))))
theorem T_X6_putIn : sMet vwCl RX6 yX6_putIn wsX6_putIn 3 73 M_X6_putIn := sMet_of rfl (by decide +kernel) rfl rfl (fun h => by cases h) (m_ofV_run _ _ _) S_X6_putIn (m_ofV_cat _ _ _ (Nat.le_of_ble_eq_true rfl))
theorem in_X6_closeUp_X6 : ∀ w ∈ u_ws RX6 TX6 6, w ∈ wsX6_closeUp := by decide +kernel
theorem lk_X6_closeUp_26 : Cond.fieldLink RX6 26 RX6 "size" "I" ∈ wsX6_closeUp := by decide +kernel
theorem lk_X6_closeUp_9 : Cond.fieldLink RX6 9 RX6 "numbers" "[I" ∈ wsX6_closeUp := by decide +kernel
abbrev C_X6_closeUp_1 : sCd := (c_cmp i_lt (e_i 2) (e_get 5 2 (e_r 0)))
abbrev W_X6_closeUp_1 : sStm :=
  (s_seq (s_callV M_X5_put (a_cr (e_getR 5 0 (e_r 0)) (a_ci (e_sub (e_i 2) (e_k (nI 1))) (a_ci (e_callI M_X5_at (a_cr (e_getR 5 0 (e_r 0)) (a_ci (e_i 2) a_nil))) a_nil))))
    (s_inc 2 (nI 1)))
def B_X6_closeUp : sStm :=
  (s_seq (s_seq (s_blk 2 (s_seq (s_decI 2 (e_add (e_i 1) (e_k (nI 1))))
    (s_while C_X6_closeUp_1 W_X6_closeUp_1)))
    (s_putop 5 2 (e_r 0) (fun x z => x - z) (e_k (nI 1))))
    s_ret0)
def M_X6_closeUp : sSem := m_ofV 5 2 B_X6_closeUp
set_option maxRecDepth 100000 in
set_option maxHeartbeats 4000000 in
theorem S_X6_closeUp : sSS (cX6_closeUp, wsX6_closeUp, RX6, none, 1, 22, 3, vwCl, RX6, false) 0 0 B_X6_closeUp :=
  (ss_seq (pcA := 46) (ss_seq (pcA := 36) (ss_blk (ss_seq (pcA := 4) (ss_decI_n (pcA := 3) (se_add (pcA := 1) (pcB := 2) (se_iload_n dX6_closeUp_0 rfl rfl) (se_iconst dX6_closeUp_1 (by decide +kernel) rfl) dX6_closeUp_2 rfl) dX6_closeUp_3 rfl (Nat.le_of_ble_eq_true rfl) rfl)
    (ss_while (pcB := 12) (sc_Flt (pcA := 5) (pcB := 9) (se_iload_n dX6_closeUp_4 rfl rfl) (se_get (pcA := 6) (T := TX6) (k := 2) (index := 26) (se_aload_n dX6_closeUp_5 rfl rfl) rfl in_X6_closeUp_X6 (Nat.le_of_ble_eq_true rfl) lk_X6_closeUp_26 rfl dX6_closeUp_6 rfl) dX6_closeUp_9 rfl rfl)
    (ss_seq (pcA := 30) (ss_callVS (pcA := 27) (index := 55) (sa_cr (pcA := 16) (se_getR (pcA := 13) (T := TX6) (k := 0) (index := 9) (se_aload_n dX6_closeUp_12 rfl rfl) rfl in_X6_closeUp_X6 (Nat.le_of_ble_eq_true rfl) lk_X6_closeUp_9 rfl dX6_closeUp_13 rfl) (sa_ci (pcA := 19) (se_sub (pcA := 17) (pcB := 18) (se_iload_n dX6_closeUp_16 rfl rfl) (se_iconst dX6_closeUp_17 (by decide +kernel) rfl) dX6_closeUp_18 rfl) (sa_ci (pcA := 27) (se_callSI (pcA := 24) (index := 51) (sa_cr (pcA := 23) (se_getR (pcA := 20) (T := TX6) (k := 0) (index := 9) (se_aload_n dX6_closeUp_19 rfl rfl) rfl in_X6_closeUp_X6 (Nat.le_of_ble_eq_true rfl) lk_X6_closeUp_9 rfl dX6_closeUp_20 rfl) (sa_ci (pcA := 24) (se_iload_n dX6_closeUp_23 rfl rfl) sa_nil)) T_X5_at gX6_closeUp_X5_at rfl (by decide +kernel) (Nat.le_of_ble_eq_true rfl) (Nat.le_of_ble_eq_true rfl) (s_LenR (s_LenI s_Len0)) (Nat.le_of_ble_eq_true rfl) dX6_closeUp_24 rfl) sa_nil))) T_X5_put gX6_closeUp_X5_put rfl (by decide +kernel) (Nat.le_of_ble_eq_true rfl) (Nat.le_of_ble_eq_true rfl) (s_LenR (s_LenI (s_LenI s_Len0))) dX6_closeUp_27 rfl)
    (ss_goto (pcG := 33) (ss_inc dX6_closeUp_30 (Nat.le_of_ble_eq_true rfl) (by decide +kernel) rfl) dX6_closeUp_33 rfl)))))
    (ss_putop (pcA := 37) (pcD := 38) (pcG := 41) (pcB := 42) (pcO := 43) (T := TX6) (index := 26) (se_aload_n dX6_closeUp_36 rfl rfl) dX6_closeUp_37 rfl rfl in_X6_closeUp_X6 tyX6 tyX6_ok nmX6 (Nat.le_of_ble_eq_true rfl) lk_X6_closeUp_26 rfl dX6_closeUp_38 rfl (se_iconst dX6_closeUp_41 (by decide +kernel) rfl) (Or.inr ⟨dX6_closeUp_42, rfl⟩) rfl rfl rfl dX6_closeUp_43 rfl))
    (ss_ret0 dX6_closeUp_46 rfl))
theorem T_X6_closeUp : sMet vwCl RX6 yX6_closeUp wsX6_closeUp 1 22 M_X6_closeUp := sMet_of rfl (by decide +kernel) rfl rfl (fun h => by cases h) (m_ofV_run _ _ _) S_X6_closeUp (m_ofV_cat _ _ _ (Nat.le_of_ble_eq_true rfl))
theorem in_X6_takeOff_X6 : ∀ w ∈ u_ws RX6 TX6 6, w ∈ wsX6_takeOff := by decide +kernel
theorem lk_X6_takeOff_18 : Cond.fieldLink RX6 18 RX6 "accounts" "LStairKin$Accounts;" ∈ wsX6_takeOff := by decide +kernel
def B_X6_takeOff : sStm :=
  (s_seq (s_if (c_not (c_cmp0 i_ne (e_callI M_X6_has (a_cr (e_r 0) (a_ci (e_i 1) a_nil)))))
    (s_retI (e_k (-1))) s_skip)
    (s_seq (s_decI 2 (e_callI M_X6_numberOf (a_cr (e_r 0) (a_ci (e_i 1) a_nil))))
    (s_seq (s_callV M_X0_book (a_cr (e_getR 5 1 (e_r 0)) (a_ci (e_i 2) (a_ci (e_k (nI 0)) (a_ci (e_k (-1)) a_nil)))))
    (s_seq (s_callV M_X6_closeUp (a_cr (e_r 0) (a_ci (e_i 1) a_nil)))
    (s_retI (e_i 2))))))
def M_X6_takeOff : sSem := m_ofV 5 2 B_X6_takeOff
set_option maxRecDepth 100000 in
set_option maxHeartbeats 4000000 in
theorem S_X6_takeOff : sSS (cX6_takeOff, wsX6_takeOff, RX6, (some .int), 3, 73, 3, vwCl, RX6, false) 0 0 B_X6_takeOff :=
  (ss_seq (pcA := 10) (ss_if (pcT := 8) (pcF := 10) (sc_not (sc_Tne0 (pcB := 5) (se_callVI (pcA := 2) (ci := 5) (index := 63) (sa_cr (pcA := 1) (se_aload_n dX6_takeOff_0 rfl rfl) (sa_ci (pcA := 2) (se_iload_n dX6_takeOff_1 rfl rfl) sa_nil)) T_X6_has (s_Rcv_of 5 _ _) rfl gX6_takeOff_X6_has rfl (by decide +kernel) (Nat.le_of_ble_eq_true rfl) (Nat.le_of_ble_eq_true rfl) (s_LenR (s_LenI s_Len0)) (Nat.le_of_ble_eq_true rfl) dX6_takeOff_2 rfl) dX6_takeOff_5 rfl rfl))
    (ss_retI (pcA := 9) (se_iconst dX6_takeOff_8 (by decide +kernel) rfl) dX6_takeOff_9 rfl) ss_skip)
    (ss_seq (pcA := 16) (ss_decI_n (pcA := 15) (se_callVI (pcA := 12) (ci := 5) (index := 66) (sa_cr (pcA := 11) (se_aload_n dX6_takeOff_10 rfl rfl) (sa_ci (pcA := 12) (se_iload_n dX6_takeOff_11 rfl rfl) sa_nil)) T_X6_numberOf (s_Rcv_of 5 _ _) rfl gX6_takeOff_X6_numberOf rfl (by decide +kernel) (Nat.le_of_ble_eq_true rfl) (Nat.le_of_ble_eq_true rfl) (s_LenR (s_LenI s_Len0)) (Nat.le_of_ble_eq_true rfl) dX6_takeOff_12 rfl) dX6_takeOff_15 rfl (Nat.le_of_ble_eq_true rfl) rfl)
    (ss_seq (pcA := 26) (ss_callVV (pcA := 23) (ci := 0) (index := 59) (sa_cr (pcA := 20) (se_getR (pcA := 17) (T := TX6) (k := 1) (index := 18) (se_aload_n dX6_takeOff_16 rfl rfl) rfl in_X6_takeOff_X6 (Nat.le_of_ble_eq_true rfl) lk_X6_takeOff_18 rfl dX6_takeOff_17 rfl) (sa_ci (pcA := 21) (se_iload_n dX6_takeOff_20 rfl rfl) (sa_ci (pcA := 22) (se_iconst dX6_takeOff_21 (by decide +kernel) rfl) (sa_ci (pcA := 23) (se_iconst dX6_takeOff_22 (by decide +kernel) rfl) sa_nil)))) T_X0_book (s_Rcv_of 0 _ _) rfl gX6_takeOff_X0_book rfl (by decide +kernel) (Nat.le_of_ble_eq_true rfl) (Nat.le_of_ble_eq_true rfl) (s_LenR (s_LenI (s_LenI (s_LenI s_Len0)))) dX6_takeOff_23 rfl)
    (ss_seq (pcA := 31) (ss_callVV (pcA := 28) (ci := 5) (index := 70) (sa_cr (pcA := 27) (se_aload_n dX6_takeOff_26 rfl rfl) (sa_ci (pcA := 28) (se_iload_n dX6_takeOff_27 rfl rfl) sa_nil)) T_X6_closeUp (s_Rcv_of 5 _ _) rfl gX6_takeOff_X6_closeUp rfl (by decide +kernel) (Nat.le_of_ble_eq_true rfl) (Nat.le_of_ble_eq_true rfl) (s_LenR (s_LenI s_Len0)) dX6_takeOff_28 rfl)
    (ss_retI (pcA := 32) (se_iload_n dX6_takeOff_31 rfl rfl) dX6_takeOff_32 rfl)))))
theorem T_X6_takeOff : sMet vwCl RX6 yX6_takeOff wsX6_takeOff 3 73 M_X6_takeOff := sMet_of rfl (by decide +kernel) rfl rfl (fun h => by cases h) (m_ofV_run _ _ _) S_X6_takeOff (m_ofV_cat _ _ _ (Nat.le_of_ble_eq_true rfl))
theorem in_X6_shareAt_X6 : ∀ w ∈ u_ws RX6 TX6 6, w ∈ wsX6_shareAt := by decide +kernel
theorem lk_X6_shareAt_9 : Cond.fieldLink RX6 9 RX6 "numbers" "[I" ∈ wsX6_shareAt := by decide +kernel
def B_X6_shareAt : sStm :=
  (s_seq (s_if (c_or (c_not (c_cmp0 i_ne (e_callI M_X6_has (a_cr (e_r 0) (a_ci (e_i 1) a_nil))))) (c_not (c_cmp0 i_ne (e_callI M_X6_has (a_cr (e_r 0) (a_ci (e_add (e_i 1) (e_k (nI 1))) a_nil))))))
    (s_retI (e_k (-1))) s_skip)
    (s_seq (s_decI 2 (e_callI M_X6_numberOf (a_cr (e_r 0) (a_ci (e_i 1) a_nil))))
    (s_seq (s_decI 3 (e_callI M_X6_numberOf (a_cr (e_r 0) (a_ci (e_add (e_i 1) (e_k (nI 1))) a_nil))))
    (s_seq (s_decI 4 (e_callI M_X7_multiple (a_ci (e_i 2) (a_ci (e_i 3) a_nil))))
    (s_seq (s_if (c_cmp i_gt (e_i 4) (e_k (nI 9999)))
    (s_retI (e_k (-3))) s_skip)
    (s_seq (s_decI 5 (e_callI M_X7_divisorByRemainders (a_ci (e_i 2) (a_ci (e_i 3) a_nil))))
    (s_seq (s_callV M_X5_put (a_cr (e_getR 5 0 (e_r 0)) (a_ci (e_i 1) (a_ci (e_i 5) a_nil))))
    (s_seq (s_callV M_X5_put (a_cr (e_getR 5 0 (e_r 0)) (a_ci (e_add (e_i 1) (e_k (nI 1))) (a_ci (e_i 4) a_nil))))
    (s_retI (e_i 5))))))))))
def M_X6_shareAt : sSem := m_ofV 5 2 B_X6_shareAt
set_option maxRecDepth 100000 in
set_option maxHeartbeats 4000000 in
theorem S_X6_shareAt : sSS (cX6_shareAt, wsX6_shareAt, RX6, (some .int), 2, 46, 6, vwCl, RX6, false) 0 0 B_X6_shareAt :=
  (ss_seq (pcA := 20) (ss_if (pcT := 18) (pcF := 20) (sc_or (pcA := 8) (sc_not (sc_Fne0 (pcB := 5) (se_callVI (pcA := 2) (ci := 5) (index := 63) (sa_cr (pcA := 1) (se_aload_n dX6_shareAt_0 rfl rfl) (sa_ci (pcA := 2) (se_iload_n dX6_shareAt_1 rfl rfl) sa_nil)) T_X6_has (s_Rcv_of 5 _ _) rfl gX6_shareAt_X6_has rfl (by decide +kernel) (Nat.le_of_ble_eq_true rfl) (Nat.le_of_ble_eq_true rfl) (s_LenR (s_LenI s_Len0)) (Nat.le_of_ble_eq_true rfl) dX6_shareAt_2 rfl) dX6_shareAt_5 rfl rfl)) (sc_not (sc_Tne0 (pcB := 15) (se_callVI (pcA := 12) (ci := 5) (index := 63) (sa_cr (pcA := 9) (se_aload_n dX6_shareAt_8 rfl rfl) (sa_ci (pcA := 12) (se_add (pcA := 10) (pcB := 11) (se_iload_n dX6_shareAt_9 rfl rfl) (se_iconst dX6_shareAt_10 (by decide +kernel) rfl) dX6_shareAt_11 rfl) sa_nil)) T_X6_has (s_Rcv_of 5 _ _) rfl gX6_shareAt_X6_has rfl (by decide +kernel) (Nat.le_of_ble_eq_true rfl) (Nat.le_of_ble_eq_true rfl) (s_LenR (s_LenI s_Len0)) (Nat.le_of_ble_eq_true rfl) dX6_shareAt_12 rfl) dX6_shareAt_15 rfl rfl)))
    (ss_retI (pcA := 19) (se_iconst dX6_shareAt_18 (by decide +kernel) rfl) dX6_shareAt_19 rfl) ss_skip)
    (ss_seq (pcA := 26) (ss_decI_n (pcA := 25) (se_callVI (pcA := 22) (ci := 5) (index := 66) (sa_cr (pcA := 21) (se_aload_n dX6_shareAt_20 rfl rfl) (sa_ci (pcA := 22) (se_iload_n dX6_shareAt_21 rfl rfl) sa_nil)) T_X6_numberOf (s_Rcv_of 5 _ _) rfl gX6_shareAt_X6_numberOf rfl (by decide +kernel) (Nat.le_of_ble_eq_true rfl) (Nat.le_of_ble_eq_true rfl) (s_LenR (s_LenI s_Len0)) (Nat.le_of_ble_eq_true rfl) dX6_shareAt_22 rfl) dX6_shareAt_25 rfl (Nat.le_of_ble_eq_true rfl) rfl)
    (ss_seq (pcA := 34) (ss_decI_n (pcA := 33) (se_callVI (pcA := 30) (ci := 5) (index := 66) (sa_cr (pcA := 27) (se_aload_n dX6_shareAt_26 rfl rfl) (sa_ci (pcA := 30) (se_add (pcA := 28) (pcB := 29) (se_iload_n dX6_shareAt_27 rfl rfl) (se_iconst dX6_shareAt_28 (by decide +kernel) rfl) dX6_shareAt_29 rfl) sa_nil)) T_X6_numberOf (s_Rcv_of 5 _ _) rfl gX6_shareAt_X6_numberOf rfl (by decide +kernel) (Nat.le_of_ble_eq_true rfl) (Nat.le_of_ble_eq_true rfl) (s_LenR (s_LenI s_Len0)) (Nat.le_of_ble_eq_true rfl) dX6_shareAt_30 rfl) dX6_shareAt_33 rfl (Nat.le_of_ble_eq_true rfl) rfl)
    (ss_seq (pcA := 41) (ss_decI (pcA := 39) (se_callSI (pcA := 36) (index := 84) (sa_ci (pcA := 35) (se_iload_n dX6_shareAt_34 rfl rfl) (sa_ci (pcA := 36) (se_iload_n dX6_shareAt_35 rfl rfl) sa_nil)) T_X7_multiple gX6_shareAt_X7_multiple rfl (by decide +kernel) (Nat.le_of_ble_eq_true rfl) (Nat.le_of_ble_eq_true rfl) (s_LenI (s_LenI s_Len0)) (Nat.le_of_ble_eq_true rfl) dX6_shareAt_36 rfl) dX6_shareAt_39 (Nat.le_of_ble_eq_true rfl) rfl)
    (ss_seq (pcA := 52) (ss_if (pcT := 49) (pcF := 52) (sc_Fgt (pcA := 43) (pcB := 46) (se_iload dX6_shareAt_41 rfl) (se_sipush dX6_shareAt_43 (by decide +kernel) rfl) dX6_shareAt_46 rfl rfl)
    (ss_retI (pcA := 51) (se_bipush dX6_shareAt_49 (by decide +kernel) rfl) dX6_shareAt_51 rfl) ss_skip)
    (ss_seq (pcA := 59) (ss_decI (pcA := 57) (se_callSI (pcA := 54) (index := 87) (sa_ci (pcA := 53) (se_iload_n dX6_shareAt_52 rfl rfl) (sa_ci (pcA := 54) (se_iload_n dX6_shareAt_53 rfl rfl) sa_nil)) T_X7_divisorByRemainders gX6_shareAt_X7_divisorByRemainders rfl (by decide +kernel) (Nat.le_of_ble_eq_true rfl) (Nat.le_of_ble_eq_true rfl) (s_LenI (s_LenI s_Len0)) (Nat.le_of_ble_eq_true rfl) dX6_shareAt_54 rfl) dX6_shareAt_57 (Nat.le_of_ble_eq_true rfl) rfl)
    (ss_seq (pcA := 69) (ss_callVS (pcA := 66) (index := 55) (sa_cr (pcA := 63) (se_getR (pcA := 60) (T := TX6) (k := 0) (index := 9) (se_aload_n dX6_shareAt_59 rfl rfl) rfl in_X6_shareAt_X6 (Nat.le_of_ble_eq_true rfl) lk_X6_shareAt_9 rfl dX6_shareAt_60 rfl) (sa_ci (pcA := 64) (se_iload_n dX6_shareAt_63 rfl rfl) (sa_ci (pcA := 66) (se_iload dX6_shareAt_64 rfl) sa_nil))) T_X5_put gX6_shareAt_X5_put rfl (by decide +kernel) (Nat.le_of_ble_eq_true rfl) (Nat.le_of_ble_eq_true rfl) (s_LenR (s_LenI (s_LenI s_Len0))) dX6_shareAt_66 rfl)
    (ss_seq (pcA := 81) (ss_callVS (pcA := 78) (index := 55) (sa_cr (pcA := 73) (se_getR (pcA := 70) (T := TX6) (k := 0) (index := 9) (se_aload_n dX6_shareAt_69 rfl rfl) rfl in_X6_shareAt_X6 (Nat.le_of_ble_eq_true rfl) lk_X6_shareAt_9 rfl dX6_shareAt_70 rfl) (sa_ci (pcA := 76) (se_add (pcA := 74) (pcB := 75) (se_iload_n dX6_shareAt_73 rfl rfl) (se_iconst dX6_shareAt_74 (by decide +kernel) rfl) dX6_shareAt_75 rfl) (sa_ci (pcA := 78) (se_iload dX6_shareAt_76 rfl) sa_nil))) T_X5_put gX6_shareAt_X5_put rfl (by decide +kernel) (Nat.le_of_ble_eq_true rfl) (Nat.le_of_ble_eq_true rfl) (s_LenR (s_LenI (s_LenI s_Len0))) dX6_shareAt_78 rfl)
    (ss_retI (pcA := 83) (se_iload dX6_shareAt_81 rfl) dX6_shareAt_83 rfl)))))))))
theorem T_X6_shareAt : sMet vwCl RX6 yX6_shareAt wsX6_shareAt 2 46 M_X6_shareAt := sMet_of rfl (by decide +kernel) rfl rfl (fun h => by cases h) (m_ofV_run _ _ _) S_X6_shareAt (m_ofV_cat _ _ _ (Nat.le_of_ble_eq_true rfl))
theorem in_X6_split_X6 : ∀ w ∈ u_ws RX6 TX6 6, w ∈ wsX6_split := by decide +kernel
theorem lk_X6_split_18 : Cond.fieldLink RX6 18 RX6 "accounts" "LStairKin$Accounts;" ∈ wsX6_split := by decide +kernel
theorem lk_X6_split_32 : Cond.fieldLink RX6 32 RX6 "broken" "I" ∈ wsX6_split := by decide +kernel
theorem lk_X6_split_9 : Cond.fieldLink RX6 9 RX6 "numbers" "[I" ∈ wsX6_split := by decide +kernel
def B_X6_split : sStm :=
  (s_seq (s_decI 3 (e_callI M_X7_quotient (a_ci (e_callI M_X6_numberOf (a_cr (e_r 0) (a_ci (e_i 1) a_nil))) (a_ci (e_i 2) a_nil))))
    (s_seq (s_callV M_X0_book (a_cr (e_getR 5 1 (e_r 0)) (a_ci (e_i 2) (a_ci (e_k (nI 1)) (a_ci (e_k (nI 0)) a_nil)))))
    (s_seq (s_if (c_cmp i_eq (e_i 3) (e_k (nI 1)))
    (s_seq (s_callV M_X6_closeUp (a_cr (e_r 0) (a_ci (e_i 1) a_nil)))
    (s_putop 5 5 (e_r 0) (fun x z => x + z) (e_k (nI 1))))
    (s_callV M_X5_put (a_cr (e_getR 5 0 (e_r 0)) (a_ci (e_i 1) (a_ci (e_i 3) a_nil)))))
    (s_retI (e_i 3)))))
def M_X6_split : sSem := m_ofV 5 3 B_X6_split
set_option maxRecDepth 100000 in
set_option maxHeartbeats 4000000 in
theorem S_X6_split : sSS (cX6_split, wsX6_split, RX6, (some .int), 3, 73, 4, vwCl, RX6, false) 0 0 B_X6_split :=
  (ss_seq (pcA := 10) (ss_decI_n (pcA := 9) (se_callSI (pcA := 6) (index := 130) (sa_ci (pcA := 5) (se_callVI (pcA := 2) (ci := 5) (index := 66) (sa_cr (pcA := 1) (se_aload_n dX6_split_0 rfl rfl) (sa_ci (pcA := 2) (se_iload_n dX6_split_1 rfl rfl) sa_nil)) T_X6_numberOf (s_Rcv_of 5 _ _) rfl gX6_split_X6_numberOf rfl (by decide +kernel) (Nat.le_of_ble_eq_true rfl) (Nat.le_of_ble_eq_true rfl) (s_LenR (s_LenI s_Len0)) (Nat.le_of_ble_eq_true rfl) dX6_split_2 rfl) (sa_ci (pcA := 6) (se_iload_n dX6_split_5 rfl rfl) sa_nil)) T_X7_quotient gX6_split_X7_quotient rfl (by decide +kernel) (Nat.le_of_ble_eq_true rfl) (Nat.le_of_ble_eq_true rfl) (s_LenI (s_LenI s_Len0)) (Nat.le_of_ble_eq_true rfl) dX6_split_6 rfl) dX6_split_9 rfl (Nat.le_of_ble_eq_true rfl) rfl)
    (ss_seq (pcA := 20) (ss_callVV (pcA := 17) (ci := 0) (index := 59) (sa_cr (pcA := 14) (se_getR (pcA := 11) (T := TX6) (k := 1) (index := 18) (se_aload_n dX6_split_10 rfl rfl) rfl in_X6_split_X6 (Nat.le_of_ble_eq_true rfl) lk_X6_split_18 rfl dX6_split_11 rfl) (sa_ci (pcA := 15) (se_iload_n dX6_split_14 rfl rfl) (sa_ci (pcA := 16) (se_iconst dX6_split_15 (by decide +kernel) rfl) (sa_ci (pcA := 17) (se_iconst dX6_split_16 (by decide +kernel) rfl) sa_nil)))) T_X0_book (s_Rcv_of 0 _ _) rfl gX6_split_X0_book rfl (by decide +kernel) (Nat.le_of_ble_eq_true rfl) (Nat.le_of_ble_eq_true rfl) (s_LenR (s_LenI (s_LenI (s_LenI s_Len0)))) dX6_split_17 rfl)
    (ss_seq (pcA := 52) (ss_if (pcT := 25) (pcF := 43) (sc_Feq (pcA := 21) (pcB := 22) (se_iload_n dX6_split_20 rfl rfl) (se_iconst dX6_split_21 (by decide +kernel) rfl) dX6_split_22 rfl rfl)
    (ss_seq (pcA := 30) (ss_callVV (pcA := 27) (ci := 5) (index := 70) (sa_cr (pcA := 26) (se_aload_n dX6_split_25 rfl rfl) (sa_ci (pcA := 27) (se_iload_n dX6_split_26 rfl rfl) sa_nil)) T_X6_closeUp (s_Rcv_of 5 _ _) rfl gX6_split_X6_closeUp rfl (by decide +kernel) (Nat.le_of_ble_eq_true rfl) (Nat.le_of_ble_eq_true rfl) (s_LenR (s_LenI s_Len0)) dX6_split_27 rfl)
    (ss_goto (pcG := 40) (ss_putop (pcA := 31) (pcD := 32) (pcG := 35) (pcB := 36) (pcO := 37) (T := TX6) (index := 32) (se_aload_n dX6_split_30 rfl rfl) dX6_split_31 rfl rfl in_X6_split_X6 tyX6 tyX6_ok nmX6 (Nat.le_of_ble_eq_true rfl) lk_X6_split_32 rfl dX6_split_32 rfl (se_iconst dX6_split_35 (by decide +kernel) rfl) (Or.inl ⟨dX6_split_36, rfl⟩) rfl rfl rfl dX6_split_37 rfl) dX6_split_40 rfl))
    (ss_callVS (pcA := 49) (index := 55) (sa_cr (pcA := 47) (se_getR (pcA := 44) (T := TX6) (k := 0) (index := 9) (se_aload_n dX6_split_43 rfl rfl) rfl in_X6_split_X6 (Nat.le_of_ble_eq_true rfl) lk_X6_split_9 rfl dX6_split_44 rfl) (sa_ci (pcA := 48) (se_iload_n dX6_split_47 rfl rfl) (sa_ci (pcA := 49) (se_iload_n dX6_split_48 rfl rfl) sa_nil))) T_X5_put gX6_split_X5_put rfl (by decide +kernel) (Nat.le_of_ble_eq_true rfl) (Nat.le_of_ble_eq_true rfl) (s_LenR (s_LenI (s_LenI s_Len0))) dX6_split_49 rfl))
    (ss_retI (pcA := 53) (se_iload_n dX6_split_52 rfl rfl) dX6_split_53 rfl))))
theorem T_X6_split : sMet vwCl RX6 yX6_split wsX6_split 3 73 M_X6_split := sMet_of rfl (by decide +kernel) rfl rfl (fun h => by cases h) (m_ofV_run _ _ _) S_X6_split (m_ofV_cat _ _ _ (Nat.le_of_ble_eq_true rfl))
def B_X6_divideAt : sStm :=
  (s_seq (s_if (c_or (c_not (c_cmp0 i_ne (e_callI M_X6_has (a_cr (e_r 0) (a_ci (e_i 1) a_nil))))) (c_not (c_cmp0 i_ne (e_callI M_X6_has (a_cr (e_r 0) (a_ci (e_add (e_i 1) (e_k (nI 1))) a_nil))))))
    (s_retI (e_k (-1))) s_skip)
    (s_seq (s_decI 2 (e_callI M_X6_numberOf (a_cr (e_r 0) (a_ci (e_i 1) a_nil))))
    (s_seq (s_if (c_not (c_cmp0 i_ne (e_callI M_X7_divides (a_ci (e_i 2) (a_ci (e_callI M_X6_numberOf (a_cr (e_r 0) (a_ci (e_add (e_i 1) (e_k (nI 1))) a_nil))) a_nil)))))
    (s_retI (e_k (-2))) s_skip)
    (s_retI (e_callI M_X6_split (a_cr (e_r 0) (a_ci (e_add (e_i 1) (e_k (nI 1))) (a_ci (e_i 2) a_nil))))))))
def M_X6_divideAt : sSem := m_ofV 5 2 B_X6_divideAt
set_option maxRecDepth 100000 in
set_option maxHeartbeats 4000000 in
theorem S_X6_divideAt : sSS (cX6_divideAt, wsX6_divideAt, RX6, (some .int), 4, 96, 3, vwCl, RX6, false) 0 0 B_X6_divideAt :=
  (ss_seq (pcA := 20) (ss_if (pcT := 18) (pcF := 20) (sc_or (pcA := 8) (sc_not (sc_Fne0 (pcB := 5) (se_callVI (pcA := 2) (ci := 5) (index := 63) (sa_cr (pcA := 1) (se_aload_n dX6_divideAt_0 rfl rfl) (sa_ci (pcA := 2) (se_iload_n dX6_divideAt_1 rfl rfl) sa_nil)) T_X6_has (s_Rcv_of 5 _ _) rfl gX6_divideAt_X6_has rfl (by decide +kernel) (Nat.le_of_ble_eq_true rfl) (Nat.le_of_ble_eq_true rfl) (s_LenR (s_LenI s_Len0)) (Nat.le_of_ble_eq_true rfl) dX6_divideAt_2 rfl) dX6_divideAt_5 rfl rfl)) (sc_not (sc_Tne0 (pcB := 15) (se_callVI (pcA := 12) (ci := 5) (index := 63) (sa_cr (pcA := 9) (se_aload_n dX6_divideAt_8 rfl rfl) (sa_ci (pcA := 12) (se_add (pcA := 10) (pcB := 11) (se_iload_n dX6_divideAt_9 rfl rfl) (se_iconst dX6_divideAt_10 (by decide +kernel) rfl) dX6_divideAt_11 rfl) sa_nil)) T_X6_has (s_Rcv_of 5 _ _) rfl gX6_divideAt_X6_has rfl (by decide +kernel) (Nat.le_of_ble_eq_true rfl) (Nat.le_of_ble_eq_true rfl) (s_LenR (s_LenI s_Len0)) (Nat.le_of_ble_eq_true rfl) dX6_divideAt_12 rfl) dX6_divideAt_15 rfl rfl)))
    (ss_retI (pcA := 19) (se_iconst dX6_divideAt_18 (by decide +kernel) rfl) dX6_divideAt_19 rfl) ss_skip)
    (ss_seq (pcA := 26) (ss_decI_n (pcA := 25) (se_callVI (pcA := 22) (ci := 5) (index := 66) (sa_cr (pcA := 21) (se_aload_n dX6_divideAt_20 rfl rfl) (sa_ci (pcA := 22) (se_iload_n dX6_divideAt_21 rfl rfl) sa_nil)) T_X6_numberOf (s_Rcv_of 5 _ _) rfl gX6_divideAt_X6_numberOf rfl (by decide +kernel) (Nat.le_of_ble_eq_true rfl) (Nat.le_of_ble_eq_true rfl) (s_LenR (s_LenI s_Len0)) (Nat.le_of_ble_eq_true rfl) dX6_divideAt_22 rfl) dX6_divideAt_25 rfl (Nat.le_of_ble_eq_true rfl) rfl)
    (ss_seq (pcA := 43) (ss_if (pcT := 40) (pcF := 43) (sc_not (sc_Tne0 (pcB := 37) (se_callSI (pcA := 34) (index := 90) (sa_ci (pcA := 27) (se_iload_n dX6_divideAt_26 rfl rfl) (sa_ci (pcA := 34) (se_callVI (pcA := 31) (ci := 5) (index := 66) (sa_cr (pcA := 28) (se_aload_n dX6_divideAt_27 rfl rfl) (sa_ci (pcA := 31) (se_add (pcA := 29) (pcB := 30) (se_iload_n dX6_divideAt_28 rfl rfl) (se_iconst dX6_divideAt_29 (by decide +kernel) rfl) dX6_divideAt_30 rfl) sa_nil)) T_X6_numberOf (s_Rcv_of 5 _ _) rfl gX6_divideAt_X6_numberOf rfl (by decide +kernel) (Nat.le_of_ble_eq_true rfl) (Nat.le_of_ble_eq_true rfl) (s_LenR (s_LenI s_Len0)) (Nat.le_of_ble_eq_true rfl) dX6_divideAt_31 rfl) sa_nil)) T_X7_divides gX6_divideAt_X7_divides rfl (by decide +kernel) (Nat.le_of_ble_eq_true rfl) (Nat.le_of_ble_eq_true rfl) (s_LenI (s_LenI s_Len0)) (Nat.le_of_ble_eq_true rfl) dX6_divideAt_34 rfl) dX6_divideAt_37 rfl rfl))
    (ss_retI (pcA := 42) (se_bipush dX6_divideAt_40 (by decide +kernel) rfl) dX6_divideAt_42 rfl) ss_skip)
    (ss_retI (pcA := 51) (se_callVI (pcA := 48) (ci := 5) (index := 94) (sa_cr (pcA := 44) (se_aload_n dX6_divideAt_43 rfl rfl) (sa_ci (pcA := 47) (se_add (pcA := 45) (pcB := 46) (se_iload_n dX6_divideAt_44 rfl rfl) (se_iconst dX6_divideAt_45 (by decide +kernel) rfl) dX6_divideAt_46 rfl) (sa_ci (pcA := 48) (se_iload_n dX6_divideAt_47 rfl rfl) sa_nil))) T_X6_split (s_Rcv_of 5 _ _) rfl gX6_divideAt_X6_split rfl (by decide +kernel) (Nat.le_of_ble_eq_true rfl) (Nat.le_of_ble_eq_true rfl) (s_LenR (s_LenI (s_LenI s_Len0))) (Nat.le_of_ble_eq_true rfl) dX6_divideAt_48 rfl) dX6_divideAt_51 rfl))))
theorem T_X6_divideAt : sMet vwCl RX6 yX6_divideAt wsX6_divideAt 4 96 M_X6_divideAt := sMet_of rfl (by decide +kernel) rfl rfl (fun h => by cases h) (m_ofV_run _ _ _) S_X6_divideAt (m_ofV_cat _ _ _ (Nat.le_of_ble_eq_true rfl))
def B_X6_strikeBy : sStm :=
  (s_seq (s_if (c_or (c_not (c_cmp0 i_ne (e_callI M_X6_has (a_cr (e_r 0) (a_ci (e_i 1) a_nil))))) (c_not (c_cmp0 i_ne (e_callI M_X7_isPrime (a_ci (e_i 2) a_nil)))))
    (s_retI (e_k (-1))) s_skip)
    (s_seq (s_if (c_not (c_cmp0 i_ne (e_callI M_X7_divides (a_ci (e_i 2) (a_ci (e_callI M_X6_numberOf (a_cr (e_r 0) (a_ci (e_i 1) a_nil))) a_nil)))))
    (s_retI (e_k (-2))) s_skip)
    (s_retI (e_callI M_X6_split (a_cr (e_r 0) (a_ci (e_i 1) (a_ci (e_i 2) a_nil)))))))
def M_X6_strikeBy : sSem := m_ofV 5 3 B_X6_strikeBy
set_option maxRecDepth 100000 in
set_option maxHeartbeats 4000000 in
theorem S_X6_strikeBy : sSS (cX6_strikeBy, wsX6_strikeBy, RX6, (some .int), 4, 96, 3, vwCl, RX6, false) 0 0 B_X6_strikeBy :=
  (ss_seq (pcA := 17) (ss_if (pcT := 15) (pcF := 17) (sc_or (pcA := 8) (sc_not (sc_Fne0 (pcB := 5) (se_callVI (pcA := 2) (ci := 5) (index := 63) (sa_cr (pcA := 1) (se_aload_n dX6_strikeBy_0 rfl rfl) (sa_ci (pcA := 2) (se_iload_n dX6_strikeBy_1 rfl rfl) sa_nil)) T_X6_has (s_Rcv_of 5 _ _) rfl gX6_strikeBy_X6_has rfl (by decide +kernel) (Nat.le_of_ble_eq_true rfl) (Nat.le_of_ble_eq_true rfl) (s_LenR (s_LenI s_Len0)) (Nat.le_of_ble_eq_true rfl) dX6_strikeBy_2 rfl) dX6_strikeBy_5 rfl rfl)) (sc_not (sc_Tne0 (pcB := 12) (se_callSI (pcA := 9) (index := 97) (sa_ci (pcA := 9) (se_iload_n dX6_strikeBy_8 rfl rfl) sa_nil) T_X7_isPrime gX6_strikeBy_X7_isPrime rfl (by decide +kernel) (Nat.le_of_ble_eq_true rfl) (Nat.le_of_ble_eq_true rfl) (s_LenI s_Len0) (Nat.le_of_ble_eq_true rfl) dX6_strikeBy_9 rfl) dX6_strikeBy_12 rfl rfl)))
    (ss_retI (pcA := 16) (se_iconst dX6_strikeBy_15 (by decide +kernel) rfl) dX6_strikeBy_16 rfl) ss_skip)
    (ss_seq (pcA := 32) (ss_if (pcT := 29) (pcF := 32) (sc_not (sc_Tne0 (pcB := 26) (se_callSI (pcA := 23) (index := 90) (sa_ci (pcA := 18) (se_iload_n dX6_strikeBy_17 rfl rfl) (sa_ci (pcA := 23) (se_callVI (pcA := 20) (ci := 5) (index := 66) (sa_cr (pcA := 19) (se_aload_n dX6_strikeBy_18 rfl rfl) (sa_ci (pcA := 20) (se_iload_n dX6_strikeBy_19 rfl rfl) sa_nil)) T_X6_numberOf (s_Rcv_of 5 _ _) rfl gX6_strikeBy_X6_numberOf rfl (by decide +kernel) (Nat.le_of_ble_eq_true rfl) (Nat.le_of_ble_eq_true rfl) (s_LenR (s_LenI s_Len0)) (Nat.le_of_ble_eq_true rfl) dX6_strikeBy_20 rfl) sa_nil)) T_X7_divides gX6_strikeBy_X7_divides rfl (by decide +kernel) (Nat.le_of_ble_eq_true rfl) (Nat.le_of_ble_eq_true rfl) (s_LenI (s_LenI s_Len0)) (Nat.le_of_ble_eq_true rfl) dX6_strikeBy_23 rfl) dX6_strikeBy_26 rfl rfl))
    (ss_retI (pcA := 31) (se_bipush dX6_strikeBy_29 (by decide +kernel) rfl) dX6_strikeBy_31 rfl) ss_skip)
    (ss_retI (pcA := 38) (se_callVI (pcA := 35) (ci := 5) (index := 94) (sa_cr (pcA := 33) (se_aload_n dX6_strikeBy_32 rfl rfl) (sa_ci (pcA := 34) (se_iload_n dX6_strikeBy_33 rfl rfl) (sa_ci (pcA := 35) (se_iload_n dX6_strikeBy_34 rfl rfl) sa_nil))) T_X6_split (s_Rcv_of 5 _ _) rfl gX6_strikeBy_X6_split rfl (by decide +kernel) (Nat.le_of_ble_eq_true rfl) (Nat.le_of_ble_eq_true rfl) (s_LenR (s_LenI (s_LenI s_Len0))) (Nat.le_of_ble_eq_true rfl) dX6_strikeBy_35 rfl) dX6_strikeBy_38 rfl)))
theorem T_X6_strikeBy : sMet vwCl RX6 yX6_strikeBy wsX6_strikeBy 4 96 M_X6_strikeBy := sMet_of rfl (by decide +kernel) rfl rfl (fun h => by cases h) (m_ofV_run _ _ _) S_X6_strikeBy (m_ofV_cat _ _ _ (Nat.le_of_ble_eq_true rfl))
theorem in_X6_isSettled_X6 : ∀ w ∈ u_ws RX6 TX6 6, w ∈ wsX6_isSettled := by decide +kernel
theorem lk_X6_isSettled_26 : Cond.fieldLink RX6 26 RX6 "size" "I" ∈ wsX6_isSettled := by decide +kernel
abbrev C_X6_isSettled_1 : sCd := (c_cmp i_lt (e_i 1) (e_sub (e_get 5 2 (e_r 0)) (e_k (nI 1))))
abbrev W_X6_isSettled_1 : sStm :=
  (s_seq (s_if (c_not (c_cmp0 i_ne (e_callI M_X7_divides (a_ci (e_callI M_X6_numberOf (a_cr (e_r 0) (a_ci (e_i 1) a_nil))) (a_ci (e_callI M_X6_numberOf (a_cr (e_r 0) (a_ci (e_add (e_i 1) (e_k (nI 1))) a_nil))) a_nil)))))
    (s_retZ (e_k (nI 0))) s_skip)
    (s_inc 1 (nI 1)))
def B_X6_isSettled : sStm :=
  (s_seq (s_blk 1 (s_seq (s_decI 1 (e_k (nI 0)))
    (s_while C_X6_isSettled_1 W_X6_isSettled_1)))
    (s_retZ (e_k (nI 1))))
def M_X6_isSettled : sSem := m_ofV 5 1 B_X6_isSettled
set_option maxRecDepth 100000 in
set_option maxHeartbeats 4000000 in
theorem S_X6_isSettled : sSS (cX6_isSettled, wsX6_isSettled, RX6, (some .boolean), 1, 21, 2, vwCl, RX6, false) 0 0 B_X6_isSettled :=
  (ss_seq (pcA := 38) (ss_blk (ss_seq (pcA := 2) (ss_decI_n (pcA := 1) (se_iconst dX6_isSettled_0 (by decide +kernel) rfl) dX6_isSettled_1 rfl (Nat.le_of_ble_eq_true rfl) rfl)
    (ss_while (pcB := 12) (sc_Flt (pcA := 3) (pcB := 9) (se_iload_n dX6_isSettled_2 rfl rfl) (se_sub (pcA := 7) (pcB := 8) (se_get (pcA := 4) (T := TX6) (k := 2) (index := 26) (se_aload_n dX6_isSettled_3 rfl rfl) rfl in_X6_isSettled_X6 (Nat.le_of_ble_eq_true rfl) lk_X6_isSettled_26 rfl dX6_isSettled_4 rfl) (se_iconst dX6_isSettled_7 (by decide +kernel) rfl) dX6_isSettled_8 rfl) dX6_isSettled_9 rfl rfl)
    (ss_seq (pcA := 32) (ss_if (pcT := 30) (pcF := 32) (sc_not (sc_Tne0 (pcB := 27) (se_callSI (pcA := 24) (index := 90) (sa_ci (pcA := 17) (se_callVI (pcA := 14) (ci := 5) (index := 66) (sa_cr (pcA := 13) (se_aload_n dX6_isSettled_12 rfl rfl) (sa_ci (pcA := 14) (se_iload_n dX6_isSettled_13 rfl rfl) sa_nil)) T_X6_numberOf (s_Rcv_of 5 _ _) rfl gX6_isSettled_X6_numberOf rfl (by decide +kernel) (Nat.le_of_ble_eq_true rfl) (Nat.le_of_ble_eq_true rfl) (s_LenR (s_LenI s_Len0)) (Nat.le_of_ble_eq_true rfl) dX6_isSettled_14 rfl) (sa_ci (pcA := 24) (se_callVI (pcA := 21) (ci := 5) (index := 66) (sa_cr (pcA := 18) (se_aload_n dX6_isSettled_17 rfl rfl) (sa_ci (pcA := 21) (se_add (pcA := 19) (pcB := 20) (se_iload_n dX6_isSettled_18 rfl rfl) (se_iconst dX6_isSettled_19 (by decide +kernel) rfl) dX6_isSettled_20 rfl) sa_nil)) T_X6_numberOf (s_Rcv_of 5 _ _) rfl gX6_isSettled_X6_numberOf rfl (by decide +kernel) (Nat.le_of_ble_eq_true rfl) (Nat.le_of_ble_eq_true rfl) (s_LenR (s_LenI s_Len0)) (Nat.le_of_ble_eq_true rfl) dX6_isSettled_21 rfl) sa_nil)) T_X7_divides gX6_isSettled_X7_divides rfl (by decide +kernel) (Nat.le_of_ble_eq_true rfl) (Nat.le_of_ble_eq_true rfl) (s_LenI (s_LenI s_Len0)) (Nat.le_of_ble_eq_true rfl) dX6_isSettled_24 rfl) dX6_isSettled_27 rfl rfl))
    (ss_retZ (pcA := 31) (se_iconst dX6_isSettled_30 (by decide +kernel) rfl) dX6_isSettled_31 rfl) ss_skip)
    (ss_goto (pcG := 35) (ss_inc dX6_isSettled_32 (Nat.le_of_ble_eq_true rfl) (by decide +kernel) rfl) dX6_isSettled_35 rfl)))))
    (ss_retZ (pcA := 39) (se_iconst dX6_isSettled_38 (by decide +kernel) rfl) dX6_isSettled_39 rfl))
theorem T_X6_isSettled : sMet vwCl RX6 yX6_isSettled wsX6_isSettled 1 21 M_X6_isSettled := sMet_of rfl (by decide +kernel) rfl rfl (fun h => by cases h) (m_ofV_run _ _ _) S_X6_isSettled (m_ofV_cat _ _ _ (Nat.le_of_ble_eq_true rfl))
theorem in_X6_shareInRounds_X6 : ∀ w ∈ u_ws RX6 TX6 6, w ∈ wsX6_shareInRounds := by decide +kernel
theorem lk_X6_shareInRounds_26 : Cond.fieldLink RX6 26 RX6 "size" "I" ∈ wsX6_shareInRounds := by decide +kernel
abbrev C_X6_shareInRounds_1 : sCd := (c_cmp i_lt (e_i 2) (e_sub (e_get 5 2 (e_r 0)) (e_k (nI 1))))
abbrev W_X6_shareInRounds_1 : sStm :=
  (s_seq (s_if (c_cmp0 i_lt (e_callI M_X6_shareAt (a_cr (e_r 0) (a_ci (e_i 2) a_nil))))
    (s_retI (e_k (-3))) s_skip)
    (s_inc 2 (nI 1)))
abbrev C_X6_shareInRounds_2 : sCd := (c_cmp i_le (e_i 1) (e_k (nI 12)))
abbrev W_X6_shareInRounds_2 : sStm :=
  (s_seq (s_seq (s_if (c_cmp0 i_ne (e_callI M_X6_isSettled (a_cr (e_r 0) a_nil)))
    (s_retI (e_i 1)) s_skip)
    (s_blk 2 (s_seq (s_decI 2 (e_k (nI 0)))
    (s_while C_X6_shareInRounds_1 W_X6_shareInRounds_1))))
    (s_inc 1 (nI 1)))
def B_X6_shareInRounds : sStm :=
  (s_seq (s_blk 1 (s_seq (s_decI 1 (e_k (nI 0)))
    (s_while C_X6_shareInRounds_2 W_X6_shareInRounds_2)))
    (s_retI (e_k (-3))))
def M_X6_shareInRounds : sSem := m_ofV 5 1 B_X6_shareInRounds
set_option maxRecDepth 100000 in
set_option maxHeartbeats 4000000 in
theorem S_X6_shareInRounds : sSS (cX6_shareInRounds, wsX6_shareInRounds, RX6, (some .int), 3, 71, 3, vwCl, RX6, false) 0 0 B_X6_shareInRounds :=
  (ss_seq (pcA := 52) (ss_blk (ss_seq (pcA := 2) (ss_decI_n (pcA := 1) (se_iconst dX6_shareInRounds_0 (by decide +kernel) rfl) dX6_shareInRounds_1 rfl (Nat.le_of_ble_eq_true rfl) rfl)
    (ss_while (pcB := 8) (sc_Fle (pcA := 3) (pcB := 5) (se_iload_n dX6_shareInRounds_2 rfl rfl) (se_bipush dX6_shareInRounds_3 (by decide +kernel) rfl) dX6_shareInRounds_5 rfl rfl)
    (ss_seq (pcA := 46) (ss_seq (pcA := 17) (ss_if (pcT := 15) (pcF := 17) (sc_Fne0 (pcB := 12) (se_callVI (pcA := 9) (ci := 5) (index := 100) (sa_cr (pcA := 9) (se_aload_n dX6_shareInRounds_8 rfl rfl) sa_nil) T_X6_isSettled (s_Rcv_of 5 _ _) rfl gX6_shareInRounds_X6_isSettled rfl (by decide +kernel) (Nat.le_of_ble_eq_true rfl) (Nat.le_of_ble_eq_true rfl) (s_LenR s_Len0) (Nat.le_of_ble_eq_true rfl) dX6_shareInRounds_9 rfl) dX6_shareInRounds_12 rfl rfl)
    (ss_retI (pcA := 16) (se_iload_n dX6_shareInRounds_15 rfl rfl) dX6_shareInRounds_16 rfl) ss_skip)
    (ss_blk (ss_seq (pcA := 19) (ss_decI_n (pcA := 18) (se_iconst dX6_shareInRounds_17 (by decide +kernel) rfl) dX6_shareInRounds_18 rfl (Nat.le_of_ble_eq_true rfl) rfl)
    (ss_while (pcB := 29) (sc_Flt (pcA := 20) (pcB := 26) (se_iload_n dX6_shareInRounds_19 rfl rfl) (se_sub (pcA := 24) (pcB := 25) (se_get (pcA := 21) (T := TX6) (k := 2) (index := 26) (se_aload_n dX6_shareInRounds_20 rfl rfl) rfl in_X6_shareInRounds_X6 (Nat.le_of_ble_eq_true rfl) lk_X6_shareInRounds_26 rfl dX6_shareInRounds_21 rfl) (se_iconst dX6_shareInRounds_24 (by decide +kernel) rfl) dX6_shareInRounds_25 rfl) dX6_shareInRounds_26 rfl rfl)
    (ss_seq (pcA := 40) (ss_if (pcT := 37) (pcF := 40) (sc_Flt0 (pcB := 34) (se_callVI (pcA := 31) (ci := 5) (index := 74) (sa_cr (pcA := 30) (se_aload_n dX6_shareInRounds_29 rfl rfl) (sa_ci (pcA := 31) (se_iload_n dX6_shareInRounds_30 rfl rfl) sa_nil)) T_X6_shareAt (s_Rcv_of 5 _ _) rfl gX6_shareInRounds_X6_shareAt rfl (by decide +kernel) (Nat.le_of_ble_eq_true rfl) (Nat.le_of_ble_eq_true rfl) (s_LenR (s_LenI s_Len0)) (Nat.le_of_ble_eq_true rfl) dX6_shareInRounds_31 rfl) dX6_shareInRounds_34 rfl rfl)
    (ss_retI (pcA := 39) (se_bipush dX6_shareInRounds_37 (by decide +kernel) rfl) dX6_shareInRounds_39 rfl) ss_skip)
    (ss_goto (pcG := 43) (ss_inc dX6_shareInRounds_40 (Nat.le_of_ble_eq_true rfl) (by decide +kernel) rfl) dX6_shareInRounds_43 rfl))))))
    (ss_goto (pcG := 49) (ss_inc dX6_shareInRounds_46 (Nat.le_of_ble_eq_true rfl) (by decide +kernel) rfl) dX6_shareInRounds_49 rfl)))))
    (ss_retI (pcA := 54) (se_bipush dX6_shareInRounds_52 (by decide +kernel) rfl) dX6_shareInRounds_54 rfl))
theorem T_X6_shareInRounds : sMet vwCl RX6 yX6_shareInRounds wsX6_shareInRounds 3 71 M_X6_shareInRounds := sMet_of rfl (by decide +kernel) rfl rfl (fun h => by cases h) (m_ofV_run _ _ _) S_X6_shareInRounds (m_ofV_cat _ _ _ (Nat.le_of_ble_eq_true rfl))
theorem in_X6_changeSetting_X6 : ∀ w ∈ u_ws RX6 TX6 6, w ∈ wsX6_changeSetting := by decide +kernel
theorem lk_X6_changeSetting_29 : Cond.fieldLink RX6 29 RX6 "rule" "I" ∈ wsX6_changeSetting := by decide +kernel
theorem lk_X6_changeSetting_22 : Cond.fieldLink RX6 22 RX6 "stride" "I" ∈ wsX6_changeSetting := by decide +kernel
def B_X6_changeSetting : sStm :=
  (s_seq (s_if (c_and (c_and (c_cmp0 i_eq (e_i 1)) (c_cmp0 i_ge (e_i 2))) (c_cmp i_le (e_i 2) (e_k (nI 2))))
    (s_blk 3 (s_seq (s_decI 3 (e_get 5 3 (e_r 0)))
    (s_seq (s_putI 5 3 (e_r 0) (e_i 2))
    (s_retI (e_i 3))))) s_skip)
    (s_seq (s_if (c_and (c_and (c_cmp i_eq (e_i 1) (e_k (nI 1))) (c_cmp i_ge (e_i 2) (e_k (nI 1)))) (c_cmp i_le (e_i 2) (e_k (nI 4))))
    (s_blk 3 (s_seq (s_decI 3 (e_get 5 4 (e_r 0)))
    (s_seq (s_putI 5 4 (e_r 0) (e_i 2))
    (s_retI (e_i 3))))) s_skip)
    (s_retI (e_k (-1)))))
def M_X6_changeSetting : sSem := m_ofV 5 3 B_X6_changeSetting
set_option maxRecDepth 100000 in
set_option maxHeartbeats 4000000 in
theorem S_X6_changeSetting : sSS (cX6_changeSetting, wsX6_changeSetting, RX6, (some .int), 0, 0, 4, vwCl, RX6, false) 0 0 B_X6_changeSetting :=
  (ss_seq (pcA := 25) (ss_if (pcT := 13) (pcF := 25) (sc_and (pcA := 8) (sc_and (pcA := 4) (sc_Feq0 (pcB := 1) (se_iload_n dX6_changeSetting_0 rfl rfl) dX6_changeSetting_1 rfl rfl) (sc_Fge0 (pcB := 5) (se_iload_n dX6_changeSetting_4 rfl rfl) dX6_changeSetting_5 rfl rfl)) (sc_Fle (pcA := 9) (pcB := 10) (se_iload_n dX6_changeSetting_8 rfl rfl) (se_iconst dX6_changeSetting_9 (by decide +kernel) rfl) dX6_changeSetting_10 rfl rfl))
    (ss_blk (ss_seq (pcA := 18) (ss_decI_n (pcA := 17) (se_get (pcA := 14) (T := TX6) (k := 3) (index := 29) (se_aload_n dX6_changeSetting_13 rfl rfl) rfl in_X6_changeSetting_X6 (Nat.le_of_ble_eq_true rfl) lk_X6_changeSetting_29 rfl dX6_changeSetting_14 rfl) dX6_changeSetting_17 rfl (Nat.le_of_ble_eq_true rfl) rfl)
    (ss_seq (pcA := 23) (ss_putI (pcA := 19) (pcB := 20) (T := TX6) (index := 29) (se_aload_n dX6_changeSetting_18 rfl rfl) (se_iload_n dX6_changeSetting_19 rfl rfl) rfl in_X6_changeSetting_X6 tyX6 tyX6_ok nmX6 (Nat.le_of_ble_eq_true rfl) lk_X6_changeSetting_29 rfl rfl rfl dX6_changeSetting_20 rfl)
    (ss_retI (pcA := 24) (se_iload_n dX6_changeSetting_23 rfl rfl) dX6_changeSetting_24 rfl)))) ss_skip)
    (ss_seq (pcA := 52) (ss_if (pcT := 40) (pcF := 52) (sc_and (pcA := 35) (sc_and (pcA := 30) (sc_Feq (pcA := 26) (pcB := 27) (se_iload_n dX6_changeSetting_25 rfl rfl) (se_iconst dX6_changeSetting_26 (by decide +kernel) rfl) dX6_changeSetting_27 rfl rfl) (sc_Fge (pcA := 31) (pcB := 32) (se_iload_n dX6_changeSetting_30 rfl rfl) (se_iconst dX6_changeSetting_31 (by decide +kernel) rfl) dX6_changeSetting_32 rfl rfl)) (sc_Fle (pcA := 36) (pcB := 37) (se_iload_n dX6_changeSetting_35 rfl rfl) (se_iconst dX6_changeSetting_36 (by decide +kernel) rfl) dX6_changeSetting_37 rfl rfl))
    (ss_blk (ss_seq (pcA := 45) (ss_decI_n (pcA := 44) (se_get (pcA := 41) (T := TX6) (k := 4) (index := 22) (se_aload_n dX6_changeSetting_40 rfl rfl) rfl in_X6_changeSetting_X6 (Nat.le_of_ble_eq_true rfl) lk_X6_changeSetting_22 rfl dX6_changeSetting_41 rfl) dX6_changeSetting_44 rfl (Nat.le_of_ble_eq_true rfl) rfl)
    (ss_seq (pcA := 50) (ss_putI (pcA := 46) (pcB := 47) (T := TX6) (index := 22) (se_aload_n dX6_changeSetting_45 rfl rfl) (se_iload_n dX6_changeSetting_46 rfl rfl) rfl in_X6_changeSetting_X6 tyX6 tyX6_ok nmX6 (Nat.le_of_ble_eq_true rfl) lk_X6_changeSetting_22 rfl rfl rfl dX6_changeSetting_47 rfl)
    (ss_retI (pcA := 51) (se_iload_n dX6_changeSetting_50 rfl rfl) dX6_changeSetting_51 rfl)))) ss_skip)
    (ss_retI (pcA := 53) (se_iconst dX6_changeSetting_52 (by decide +kernel) rfl) dX6_changeSetting_53 rfl)))
theorem T_X6_changeSetting : sMet vwCl RX6 yX6_changeSetting wsX6_changeSetting 0 0 M_X6_changeSetting := sMet_of rfl (by decide +kernel) rfl rfl (fun h => by cases h) (m_ofV_run _ _ _) S_X6_changeSetting (m_ofV_cat _ _ _ (Nat.le_of_ble_eq_true rfl))
theorem in_X6_isKin_X6 : ∀ w ∈ u_ws RX6 TX6 6, w ∈ wsX6_isKin := by decide +kernel
theorem lk_X6_isKin_29 : Cond.fieldLink RX6 29 RX6 "rule" "I" ∈ wsX6_isKin := by decide +kernel
def B_X6_isKin : sStm :=
  (s_seq (s_if (c_cmp i_eq (e_i 1) (e_i 2))
    (s_retZ (e_k (nI 0))) s_skip)
    (s_seq (s_decI 3 (e_callI M_X6_numberOf (a_cr (e_r 0) (a_ci (e_if (c_cmp i_lt (e_i 1) (e_i 2)) (e_i 1) (e_i 2)) a_nil))))
    (s_seq (s_decI 4 (e_callI M_X6_numberOf (a_cr (e_r 0) (a_ci (e_if (c_cmp i_lt (e_i 1) (e_i 2)) (e_i 2) (e_i 1)) a_nil))))
    (s_sw (e_get 5 3 (e_r 0)) (fun x =>
    if x = nI 0 then (s_retZ (e_if (c_cmp i_gt (e_callI M_X7_divisorByRemainders (a_ci (e_i 3) (a_ci (e_i 4) a_nil))) (e_k (nI 1))) (e_k (nI 1)) (e_k (nI 0))))
    else if x = nI 1 then (s_retZ (e_if (c_or (c_cmp0 i_ne (e_callI M_X7_divides (a_ci (e_i 3) (a_ci (e_i 4) a_nil)))) (c_cmp0 i_ne (e_callI M_X7_divides (a_ci (e_i 4) (a_ci (e_i 3) a_nil))))) (e_k (nI 1)) (e_k (nI 0))))
    else (s_retZ (e_callI M_X7_divides (a_ci (e_i 3) (a_ci (e_i 4) a_nil)))))))))
def M_X6_isKin : sSem := m_ofV 5 3 B_X6_isKin
set_option maxRecDepth 100000 in
set_option maxHeartbeats 4000000 in
theorem S_X6_isKin : sSS (cX6_isKin, wsX6_isKin, RX6, (some .boolean), 1, 25, 5, vwCl, RX6, false) 0 0 B_X6_isKin :=
  (ss_seq (pcA := 7) (ss_if (pcT := 5) (pcF := 7) (sc_Feq (pcA := 1) (pcB := 2) (se_iload_n dX6_isKin_0 rfl rfl) (se_iload_n dX6_isKin_1 rfl rfl) dX6_isKin_2 rfl rfl)
    (ss_retZ (pcA := 6) (se_iconst dX6_isKin_5 (by decide +kernel) rfl) dX6_isKin_6 rfl) ss_skip)
    (ss_seq (pcA := 22) (ss_decI_n (pcA := 21) (se_callVI (pcA := 18) (ci := 5) (index := 66) (sa_cr (pcA := 8) (se_aload_n dX6_isKin_7 rfl rfl) (sa_ci (pcA := 18) (se_if (pcT := 13) (pcF := 17) (pcG := 14) (sc_Flt (pcA := 9) (pcB := 10) (se_iload_n dX6_isKin_8 rfl rfl) (se_iload_n dX6_isKin_9 rfl rfl) dX6_isKin_10 rfl rfl) (se_iload_n dX6_isKin_13 rfl rfl) dX6_isKin_14 rfl (se_iload_n dX6_isKin_17 rfl rfl)) sa_nil)) T_X6_numberOf (s_Rcv_of 5 _ _) rfl gX6_isKin_X6_numberOf rfl (by decide +kernel) (Nat.le_of_ble_eq_true rfl) (Nat.le_of_ble_eq_true rfl) (s_LenR (s_LenI s_Len0)) (Nat.le_of_ble_eq_true rfl) dX6_isKin_18 rfl) dX6_isKin_21 rfl (Nat.le_of_ble_eq_true rfl) rfl)
    (ss_seq (pcA := 38) (ss_decI (pcA := 36) (se_callVI (pcA := 33) (ci := 5) (index := 66) (sa_cr (pcA := 23) (se_aload_n dX6_isKin_22 rfl rfl) (sa_ci (pcA := 33) (se_if (pcT := 28) (pcF := 32) (pcG := 29) (sc_Flt (pcA := 24) (pcB := 25) (se_iload_n dX6_isKin_23 rfl rfl) (se_iload_n dX6_isKin_24 rfl rfl) dX6_isKin_25 rfl rfl) (se_iload_n dX6_isKin_28 rfl rfl) dX6_isKin_29 rfl (se_iload_n dX6_isKin_32 rfl rfl)) sa_nil)) T_X6_numberOf (s_Rcv_of 5 _ _) rfl gX6_isKin_X6_numberOf rfl (by decide +kernel) (Nat.le_of_ble_eq_true rfl) (Nat.le_of_ble_eq_true rfl) (s_LenR (s_LenI s_Len0)) (Nat.le_of_ble_eq_true rfl) dX6_isKin_33 rfl) dX6_isKin_36 (Nat.le_of_ble_eq_true rfl) rfl)
    (ss_sw (pcA := 42) (se_get (pcA := 39) (T := TX6) (k := 3) (index := 29) (se_aload_n dX6_isKin_38 rfl rfl) rfl in_X6_isKin_X6 (Nat.le_of_ble_eq_true rfl) lk_X6_isKin_29 rfl dX6_isKin_39 rfl) (by
    intro x
    by_cases h0 : x = nI 0
    · subst h0
      exact ⟨68, s_Goes_look (off := 26) dX6_isKin_42 (by decide +kernel) rfl rfl, (ss_retZ (pcA := 83) (se_if (pcT := 78) (pcF := 82) (pcG := 79) (sc_Fgt (pcA := 74) (pcB := 75) (se_callSI (pcA := 71) (index := 87) (sa_ci (pcA := 69) (se_iload_n dX6_isKin_68 rfl rfl) (sa_ci (pcA := 71) (se_iload dX6_isKin_69 rfl) sa_nil)) T_X7_divisorByRemainders gX6_isKin_X7_divisorByRemainders rfl (by decide +kernel) (Nat.le_of_ble_eq_true rfl) (Nat.le_of_ble_eq_true rfl) (s_LenI (s_LenI s_Len0)) (Nat.le_of_ble_eq_true rfl) dX6_isKin_71 rfl) (se_iconst dX6_isKin_74 (by decide +kernel) rfl) dX6_isKin_75 rfl rfl) (se_iconst dX6_isKin_78 (by decide +kernel) rfl) dX6_isKin_79 rfl (se_iconst dX6_isKin_82 (by decide +kernel) rfl)) dX6_isKin_83 rfl)⟩
    by_cases h1 : x = nI 1
    · subst h1
      exact ⟨84, s_Goes_look (off := 42) dX6_isKin_42 (by decide +kernel) rfl rfl, (ss_retZ (pcA := 107) (se_if (pcT := 102) (pcF := 106) (pcG := 103) (sc_or (pcA := 93) (sc_Tne0 (pcB := 90) (se_callSI (pcA := 87) (index := 90) (sa_ci (pcA := 85) (se_iload_n dX6_isKin_84 rfl rfl) (sa_ci (pcA := 87) (se_iload dX6_isKin_85 rfl) sa_nil)) T_X7_divides gX6_isKin_X7_divides rfl (by decide +kernel) (Nat.le_of_ble_eq_true rfl) (Nat.le_of_ble_eq_true rfl) (s_LenI (s_LenI s_Len0)) (Nat.le_of_ble_eq_true rfl) dX6_isKin_87 rfl) dX6_isKin_90 rfl rfl) (sc_Fne0 (pcB := 99) (se_callSI (pcA := 96) (index := 90) (sa_ci (pcA := 95) (se_iload dX6_isKin_93 rfl) (sa_ci (pcA := 96) (se_iload_n dX6_isKin_95 rfl rfl) sa_nil)) T_X7_divides gX6_isKin_X7_divides rfl (by decide +kernel) (Nat.le_of_ble_eq_true rfl) (Nat.le_of_ble_eq_true rfl) (s_LenI (s_LenI s_Len0)) (Nat.le_of_ble_eq_true rfl) dX6_isKin_96 rfl) dX6_isKin_99 rfl rfl)) (se_iconst dX6_isKin_102 (by decide +kernel) rfl) dX6_isKin_103 rfl (se_iconst dX6_isKin_106 (by decide +kernel) rfl)) dX6_isKin_107 rfl)⟩
    exact ⟨108, s_Goes_look (off := 66) dX6_isKin_42 (by decide +kernel) (by have e0 : x.toInt ≠ 0 := i_tn (nI 0) h0; have e1 : x.toInt ≠ 1 := i_tn (nI 1) h1; simp [Op.lookupswitch.offset, e0, Ne.symm e0, e1, Ne.symm e1]) rfl, by rw [if_neg h0, if_neg h1]; exact (ss_retZ (pcA := 114) (se_callSI (pcA := 111) (index := 90) (sa_ci (pcA := 109) (se_iload_n dX6_isKin_108 rfl rfl) (sa_ci (pcA := 111) (se_iload dX6_isKin_109 rfl) sa_nil)) T_X7_divides gX6_isKin_X7_divides rfl (by decide +kernel) (Nat.le_of_ble_eq_true rfl) (Nat.le_of_ble_eq_true rfl) (s_LenI (s_LenI s_Len0)) (Nat.le_of_ble_eq_true rfl) dX6_isKin_111 rfl) dX6_isKin_114 rfl)⟩)))))
theorem T_X6_isKin : sMet vwCl RX6 yX6_isKin wsX6_isKin 1 25 M_X6_isKin := sMet_of rfl (by decide +kernel) rfl rfl (fun h => by cases h) (m_ofV_run _ _ _) S_X6_isKin (m_ofV_cat _ _ _ (Nat.le_of_ble_eq_true rfl))
theorem in_X6_kinOf_X6 : ∀ w ∈ u_ws RX6 TX6 6, w ∈ wsX6_kinOf := by decide +kernel
theorem lk_X6_kinOf_26 : Cond.fieldLink RX6 26 RX6 "size" "I" ∈ wsX6_kinOf := by decide +kernel
abbrev C_X6_kinOf_1 : sCd := (c_cmp i_lt (e_i 3) (e_get 5 2 (e_r 0)))
abbrev W_X6_kinOf_1 : sStm :=
  (s_seq (s_if (c_cmp0 i_ne (e_callI M_X6_isKin (a_cr (e_r 0) (a_ci (e_i 1) (a_ci (e_i 3) a_nil)))))
    (s_inc 2 (nI 1)) s_skip)
    (s_inc 3 (nI 1)))
def B_X6_kinOf : sStm :=
  (s_seq (s_decI 2 (e_k (nI 0)))
    (s_seq (s_blk 3 (s_seq (s_decI 3 (e_k (nI 0)))
    (s_while C_X6_kinOf_1 W_X6_kinOf_1)))
    (s_retI (e_i 2))))
def M_X6_kinOf : sSem := m_ofV 5 2 B_X6_kinOf
set_option maxRecDepth 100000 in
set_option maxHeartbeats 4000000 in
theorem S_X6_kinOf : sSS (cX6_kinOf, wsX6_kinOf, RX6, (some .int), 2, 49, 4, vwCl, RX6, false) 0 0 B_X6_kinOf :=
  (ss_seq (pcA := 2) (ss_decI_n (pcA := 1) (se_iconst dX6_kinOf_0 (by decide +kernel) rfl) dX6_kinOf_1 rfl (Nat.le_of_ble_eq_true rfl) rfl)
    (ss_seq (pcA := 30) (ss_blk (ss_seq (pcA := 4) (ss_decI_n (pcA := 3) (se_iconst dX6_kinOf_2 (by decide +kernel) rfl) dX6_kinOf_3 rfl (Nat.le_of_ble_eq_true rfl) rfl)
    (ss_while (pcB := 12) (sc_Flt (pcA := 5) (pcB := 9) (se_iload_n dX6_kinOf_4 rfl rfl) (se_get (pcA := 6) (T := TX6) (k := 2) (index := 26) (se_aload_n dX6_kinOf_5 rfl rfl) rfl in_X6_kinOf_X6 (Nat.le_of_ble_eq_true rfl) lk_X6_kinOf_26 rfl dX6_kinOf_6 rfl) dX6_kinOf_9 rfl rfl)
    (ss_seq (pcA := 24) (ss_if (pcT := 21) (pcF := 24) (sc_Fne0 (pcB := 18) (se_callVI (pcA := 15) (ci := 5) (index := 104) (sa_cr (pcA := 13) (se_aload_n dX6_kinOf_12 rfl rfl) (sa_ci (pcA := 14) (se_iload_n dX6_kinOf_13 rfl rfl) (sa_ci (pcA := 15) (se_iload_n dX6_kinOf_14 rfl rfl) sa_nil))) T_X6_isKin (s_Rcv_of 5 _ _) rfl gX6_kinOf_X6_isKin rfl (by decide +kernel) (Nat.le_of_ble_eq_true rfl) (Nat.le_of_ble_eq_true rfl) (s_LenR (s_LenI (s_LenI s_Len0))) (Nat.le_of_ble_eq_true rfl) dX6_kinOf_15 rfl) dX6_kinOf_18 rfl rfl)
    (ss_inc dX6_kinOf_21 (Nat.le_of_ble_eq_true rfl) (by decide +kernel) rfl) ss_skip)
    (ss_goto (pcG := 27) (ss_inc dX6_kinOf_24 (Nat.le_of_ble_eq_true rfl) (by decide +kernel) rfl) dX6_kinOf_27 rfl)))))
    (ss_retI (pcA := 31) (se_iload_n dX6_kinOf_30 rfl rfl) dX6_kinOf_31 rfl)))
theorem T_X6_kinOf : sMet vwCl RX6 yX6_kinOf wsX6_kinOf 2 49 M_X6_kinOf := sMet_of rfl (by decide +kernel) rfl rfl (fun h => by cases h) (m_ofV_run _ _ _) S_X6_kinOf (m_ofV_cat _ _ _ (Nat.le_of_ble_eq_true rfl))
theorem in_X6_pairs_X6 : ∀ w ∈ u_ws RX6 TX6 6, w ∈ wsX6_pairs := by decide +kernel
theorem lk_X6_pairs_26 : Cond.fieldLink RX6 26 RX6 "size" "I" ∈ wsX6_pairs := by decide +kernel
abbrev C_X6_pairs_1 : sCd := (c_cmp i_lt (e_i 3) (e_i 2))
abbrev W_X6_pairs_1 : sStm :=
  (s_seq (s_if (c_cmp0 i_ne (e_callI M_X6_isKin (a_cr (e_r 0) (a_ci (e_i 3) (a_ci (e_i 2) a_nil)))))
    (s_inc 1 (nI 1)) s_skip)
    (s_inc 3 (nI 1)))
abbrev C_X6_pairs_2 : sCd := (c_cmp i_lt (e_i 2) (e_get 5 2 (e_r 0)))
abbrev W_X6_pairs_2 : sStm :=
  (s_seq (s_blk 3 (s_seq (s_decI 3 (e_k (nI 0)))
    (s_while C_X6_pairs_1 W_X6_pairs_1)))
    (s_inc 2 (nI 1)))
def B_X6_pairs : sStm :=
  (s_seq (s_decI 1 (e_k (nI 0)))
    (s_seq (s_blk 2 (s_seq (s_decI 2 (e_k (nI 1)))
    (s_while C_X6_pairs_2 W_X6_pairs_2)))
    (s_retI (e_i 1))))
def M_X6_pairs : sSem := m_ofV 5 1 B_X6_pairs
set_option maxRecDepth 100000 in
set_option maxHeartbeats 4000000 in
theorem S_X6_pairs : sSS (cX6_pairs, wsX6_pairs, RX6, (some .int), 2, 49, 4, vwCl, RX6, false) 0 0 B_X6_pairs :=
  (ss_seq (pcA := 2) (ss_decI_n (pcA := 1) (se_iconst dX6_pairs_0 (by decide +kernel) rfl) dX6_pairs_1 rfl (Nat.le_of_ble_eq_true rfl) rfl)
    (ss_seq (pcA := 43) (ss_blk (ss_seq (pcA := 4) (ss_decI_n (pcA := 3) (se_iconst dX6_pairs_2 (by decide +kernel) rfl) dX6_pairs_3 rfl (Nat.le_of_ble_eq_true rfl) rfl)
    (ss_while (pcB := 12) (sc_Flt (pcA := 5) (pcB := 9) (se_iload_n dX6_pairs_4 rfl rfl) (se_get (pcA := 6) (T := TX6) (k := 2) (index := 26) (se_aload_n dX6_pairs_5 rfl rfl) rfl in_X6_pairs_X6 (Nat.le_of_ble_eq_true rfl) lk_X6_pairs_26 rfl dX6_pairs_6 rfl) dX6_pairs_9 rfl rfl)
    (ss_seq (pcA := 37) (ss_blk (ss_seq (pcA := 14) (ss_decI_n (pcA := 13) (se_iconst dX6_pairs_12 (by decide +kernel) rfl) dX6_pairs_13 rfl (Nat.le_of_ble_eq_true rfl) rfl)
    (ss_while (pcB := 19) (sc_Flt (pcA := 15) (pcB := 16) (se_iload_n dX6_pairs_14 rfl rfl) (se_iload_n dX6_pairs_15 rfl rfl) dX6_pairs_16 rfl rfl)
    (ss_seq (pcA := 31) (ss_if (pcT := 28) (pcF := 31) (sc_Fne0 (pcB := 25) (se_callVI (pcA := 22) (ci := 5) (index := 104) (sa_cr (pcA := 20) (se_aload_n dX6_pairs_19 rfl rfl) (sa_ci (pcA := 21) (se_iload_n dX6_pairs_20 rfl rfl) (sa_ci (pcA := 22) (se_iload_n dX6_pairs_21 rfl rfl) sa_nil))) T_X6_isKin (s_Rcv_of 5 _ _) rfl gX6_pairs_X6_isKin rfl (by decide +kernel) (Nat.le_of_ble_eq_true rfl) (Nat.le_of_ble_eq_true rfl) (s_LenR (s_LenI (s_LenI s_Len0))) (Nat.le_of_ble_eq_true rfl) dX6_pairs_22 rfl) dX6_pairs_25 rfl rfl)
    (ss_inc dX6_pairs_28 (Nat.le_of_ble_eq_true rfl) (by decide +kernel) rfl) ss_skip)
    (ss_goto (pcG := 34) (ss_inc dX6_pairs_31 (Nat.le_of_ble_eq_true rfl) (by decide +kernel) rfl) dX6_pairs_34 rfl)))))
    (ss_goto (pcG := 40) (ss_inc dX6_pairs_37 (Nat.le_of_ble_eq_true rfl) (by decide +kernel) rfl) dX6_pairs_40 rfl)))))
    (ss_retI (pcA := 44) (se_iload_n dX6_pairs_43 rfl rfl) dX6_pairs_44 rfl)))
theorem T_X6_pairs : sMet vwCl RX6 yX6_pairs wsX6_pairs 2 49 M_X6_pairs := sMet_of rfl (by decide +kernel) rfl rfl (fun h => by cases h) (m_ofV_run _ _ _) S_X6_pairs (m_ofV_cat _ _ _ (Nat.le_of_ble_eq_true rfl))
theorem in_X6_obstacle_X6 : ∀ w ∈ u_ws RX6 TX6 6, w ∈ wsX6_obstacle := by decide +kernel
theorem lk_X6_obstacle_22 : Cond.fieldLink RX6 22 RX6 "stride" "I" ∈ wsX6_obstacle := by decide +kernel
def B_X6_obstacle : sStm :=
  (s_seq (s_if (c_cmp i_le (e_i 2) (e_i 1))
    (s_retI (e_k (nI 1))) s_skip)
    (s_seq (s_if (c_cmp i_gt (e_sub (e_i 2) (e_i 1)) (e_get 5 4 (e_r 0)))
    (s_retI (e_k (nI 2))) s_skip)
    (s_retI (e_if (c_cmp0 i_ne (e_callI M_X6_isKin (a_cr (e_r 0) (a_ci (e_i 1) (a_ci (e_i 2) a_nil))))) (e_k (nI 0)) (e_k (nI 3))))))
def M_X6_obstacle : sSem := m_ofV 5 3 B_X6_obstacle
set_option maxRecDepth 100000 in
set_option maxHeartbeats 4000000 in
theorem S_X6_obstacle : sSS (cX6_obstacle, wsX6_obstacle, RX6, (some .int), 2, 49, 3, vwCl, RX6, false) 0 0 B_X6_obstacle :=
  (ss_seq (pcA := 7) (ss_if (pcT := 5) (pcF := 7) (sc_Fle (pcA := 1) (pcB := 2) (se_iload_n dX6_obstacle_0 rfl rfl) (se_iload_n dX6_obstacle_1 rfl rfl) dX6_obstacle_2 rfl rfl)
    (ss_retI (pcA := 6) (se_iconst dX6_obstacle_5 (by decide +kernel) rfl) dX6_obstacle_6 rfl) ss_skip)
    (ss_seq (pcA := 19) (ss_if (pcT := 17) (pcF := 19) (sc_Fgt (pcA := 10) (pcB := 14) (se_sub (pcA := 8) (pcB := 9) (se_iload_n dX6_obstacle_7 rfl rfl) (se_iload_n dX6_obstacle_8 rfl rfl) dX6_obstacle_9 rfl) (se_get (pcA := 11) (T := TX6) (k := 4) (index := 22) (se_aload_n dX6_obstacle_10 rfl rfl) rfl in_X6_obstacle_X6 (Nat.le_of_ble_eq_true rfl) lk_X6_obstacle_22 rfl dX6_obstacle_11 rfl) dX6_obstacle_14 rfl rfl)
    (ss_retI (pcA := 18) (se_iconst dX6_obstacle_17 (by decide +kernel) rfl) dX6_obstacle_18 rfl) ss_skip)
    (ss_retI (pcA := 33) (se_if (pcT := 28) (pcF := 32) (pcG := 29) (sc_Fne0 (pcB := 25) (se_callVI (pcA := 22) (ci := 5) (index := 104) (sa_cr (pcA := 20) (se_aload_n dX6_obstacle_19 rfl rfl) (sa_ci (pcA := 21) (se_iload_n dX6_obstacle_20 rfl rfl) (sa_ci (pcA := 22) (se_iload_n dX6_obstacle_21 rfl rfl) sa_nil))) T_X6_isKin (s_Rcv_of 5 _ _) rfl gX6_obstacle_X6_isKin rfl (by decide +kernel) (Nat.le_of_ble_eq_true rfl) (Nat.le_of_ble_eq_true rfl) (s_LenR (s_LenI (s_LenI s_Len0))) (Nat.le_of_ble_eq_true rfl) dX6_obstacle_22 rfl) dX6_obstacle_25 rfl rfl) (se_iconst dX6_obstacle_28 (by decide +kernel) rfl) dX6_obstacle_29 rfl (se_iconst dX6_obstacle_32 (by decide +kernel) rfl)) dX6_obstacle_33 rfl)))
theorem T_X6_obstacle : sMet vwCl RX6 yX6_obstacle wsX6_obstacle 2 49 M_X6_obstacle := sMet_of rfl (by decide +kernel) rfl rfl (fun h => by cases h) (m_ofV_run _ _ _) S_X6_obstacle (m_ofV_cat _ _ _ (Nat.le_of_ble_eq_true rfl))
def B_X6_leads : sStm :=
  (s_retZ (e_if (c_cmp0 i_eq (e_callI M_X6_obstacle (a_cr (e_r 0) (a_ci (e_i 1) (a_ci (e_i 2) a_nil))))) (e_k (nI 1)) (e_k (nI 0))))
def M_X6_leads : sSem := m_ofV 5 3 B_X6_leads
set_option maxRecDepth 100000 in
set_option maxHeartbeats 4000000 in
theorem S_X6_leads : sSS (cX6_leads, wsX6_leads, RX6, (some .boolean), 3, 71, 3, vwCl, RX6, false) 0 0 B_X6_leads :=
  (ss_retZ (pcA := 14) (se_if (pcT := 9) (pcF := 13) (pcG := 10) (sc_Feq0 (pcB := 6) (se_callVI (pcA := 3) (ci := 5) (index := 107) (sa_cr (pcA := 1) (se_aload_n dX6_leads_0 rfl rfl) (sa_ci (pcA := 2) (se_iload_n dX6_leads_1 rfl rfl) (sa_ci (pcA := 3) (se_iload_n dX6_leads_2 rfl rfl) sa_nil))) T_X6_obstacle (s_Rcv_of 5 _ _) rfl gX6_leads_X6_obstacle rfl (by decide +kernel) (Nat.le_of_ble_eq_true rfl) (Nat.le_of_ble_eq_true rfl) (s_LenR (s_LenI (s_LenI s_Len0))) (Nat.le_of_ble_eq_true rfl) dX6_leads_3 rfl) dX6_leads_6 rfl rfl) (se_iconst dX6_leads_9 (by decide +kernel) rfl) dX6_leads_10 rfl (se_iconst dX6_leads_13 (by decide +kernel) rfl)) dX6_leads_14 rfl)
theorem T_X6_leads : sMet vwCl RX6 yX6_leads wsX6_leads 3 71 M_X6_leads := sMet_of rfl (by decide +kernel) rfl rfl (fun h => by cases h) (m_ofV_run _ _ _) S_X6_leads (m_ofV_cat _ _ _ (Nat.le_of_ble_eq_true rfl))
theorem in_X6_leadsFrom_X6 : ∀ w ∈ u_ws RX6 TX6 6, w ∈ wsX6_leadsFrom := by decide +kernel
theorem lk_X6_leadsFrom_26 : Cond.fieldLink RX6 26 RX6 "size" "I" ∈ wsX6_leadsFrom := by decide +kernel
abbrev C_X6_leadsFrom_1 : sCd := (c_cmp i_lt (e_i 3) (e_get 5 2 (e_r 0)))
abbrev W_X6_leadsFrom_1 : sStm :=
  (s_seq (s_if (c_cmp0 i_ne (e_callI M_X6_leads (a_cr (e_r 0) (a_ci (e_i 1) (a_ci (e_i 3) a_nil)))))
    (s_inc 2 (nI 1)) s_skip)
    (s_inc 3 (nI 1)))
def B_X6_leadsFrom : sStm :=
  (s_seq (s_decI 2 (e_k (nI 0)))
    (s_seq (s_blk 3 (s_seq (s_decI 3 (e_add (e_i 1) (e_k (nI 1))))
    (s_while C_X6_leadsFrom_1 W_X6_leadsFrom_1)))
    (s_retI (e_i 2))))
def M_X6_leadsFrom : sSem := m_ofV 5 2 B_X6_leadsFrom
set_option maxRecDepth 100000 in
set_option maxHeartbeats 4000000 in
theorem S_X6_leadsFrom : sSS (cX6_leadsFrom, wsX6_leadsFrom, RX6, (some .int), 4, 93, 4, vwCl, RX6, false) 0 0 B_X6_leadsFrom :=
  (ss_seq (pcA := 2) (ss_decI_n (pcA := 1) (se_iconst dX6_leadsFrom_0 (by decide +kernel) rfl) dX6_leadsFrom_1 rfl (Nat.le_of_ble_eq_true rfl) rfl)
    (ss_seq (pcA := 32) (ss_blk (ss_seq (pcA := 6) (ss_decI_n (pcA := 5) (se_add (pcA := 3) (pcB := 4) (se_iload_n dX6_leadsFrom_2 rfl rfl) (se_iconst dX6_leadsFrom_3 (by decide +kernel) rfl) dX6_leadsFrom_4 rfl) dX6_leadsFrom_5 rfl (Nat.le_of_ble_eq_true rfl) rfl)
    (ss_while (pcB := 14) (sc_Flt (pcA := 7) (pcB := 11) (se_iload_n dX6_leadsFrom_6 rfl rfl) (se_get (pcA := 8) (T := TX6) (k := 2) (index := 26) (se_aload_n dX6_leadsFrom_7 rfl rfl) rfl in_X6_leadsFrom_X6 (Nat.le_of_ble_eq_true rfl) lk_X6_leadsFrom_26 rfl dX6_leadsFrom_8 rfl) dX6_leadsFrom_11 rfl rfl)
    (ss_seq (pcA := 26) (ss_if (pcT := 23) (pcF := 26) (sc_Fne0 (pcB := 20) (se_callVI (pcA := 17) (ci := 5) (index := 110) (sa_cr (pcA := 15) (se_aload_n dX6_leadsFrom_14 rfl rfl) (sa_ci (pcA := 16) (se_iload_n dX6_leadsFrom_15 rfl rfl) (sa_ci (pcA := 17) (se_iload_n dX6_leadsFrom_16 rfl rfl) sa_nil))) T_X6_leads (s_Rcv_of 5 _ _) rfl gX6_leadsFrom_X6_leads rfl (by decide +kernel) (Nat.le_of_ble_eq_true rfl) (Nat.le_of_ble_eq_true rfl) (s_LenR (s_LenI (s_LenI s_Len0))) (Nat.le_of_ble_eq_true rfl) dX6_leadsFrom_17 rfl) dX6_leadsFrom_20 rfl rfl)
    (ss_inc dX6_leadsFrom_23 (Nat.le_of_ble_eq_true rfl) (by decide +kernel) rfl) ss_skip)
    (ss_goto (pcG := 29) (ss_inc dX6_leadsFrom_26 (Nat.le_of_ble_eq_true rfl) (by decide +kernel) rfl) dX6_leadsFrom_29 rfl)))))
    (ss_retI (pcA := 33) (se_iload_n dX6_leadsFrom_32 rfl rfl) dX6_leadsFrom_33 rfl)))
theorem T_X6_leadsFrom : sMet vwCl RX6 yX6_leadsFrom wsX6_leadsFrom 4 93 M_X6_leadsFrom := sMet_of rfl (by decide +kernel) rfl rfl (fun h => by cases h) (m_ofV_run _ _ _) S_X6_leadsFrom (m_ofV_cat _ _ _ (Nat.le_of_ble_eq_true rfl))
theorem in_X6_sumOfExponents_X6 : ∀ w ∈ u_ws RX6 TX6 6, w ∈ wsX6_sumOfExponents := by decide +kernel
theorem lk_X6_sumOfExponents_26 : Cond.fieldLink RX6 26 RX6 "size" "I" ∈ wsX6_sumOfExponents := by decide +kernel
abbrev C_X6_sumOfExponents_1 : sCd := (c_cmp i_lt (e_i 3) (e_get 5 2 (e_r 0)))
abbrev W_X6_sumOfExponents_1 : sStm :=
  (s_seq (s_setI 2 (e_add (e_i 2) (e_callI M_X7_exponent (a_ci (e_callI M_X6_numberOf (a_cr (e_r 0) (a_ci (e_i 3) a_nil))) (a_ci (e_i 1) a_nil)))))
    (s_inc 3 (nI 1)))
def B_X6_sumOfExponents : sStm :=
  (s_seq (s_decI 2 (e_k (nI 0)))
    (s_seq (s_blk 3 (s_seq (s_decI 3 (e_k (nI 0)))
    (s_while C_X6_sumOfExponents_1 W_X6_sumOfExponents_1)))
    (s_retI (e_i 2))))
def M_X6_sumOfExponents : sSem := m_ofV 5 2 B_X6_sumOfExponents
set_option maxRecDepth 100000 in
set_option maxHeartbeats 4000000 in
theorem S_X6_sumOfExponents : sSS (cX6_sumOfExponents, wsX6_sumOfExponents, RX6, (some .int), 2, 45, 4, vwCl, RX6, false) 0 0 B_X6_sumOfExponents :=
  (ss_seq (pcA := 2) (ss_decI_n (pcA := 1) (se_iconst dX6_sumOfExponents_0 (by decide +kernel) rfl) dX6_sumOfExponents_1 rfl (Nat.le_of_ble_eq_true rfl) rfl)
    (ss_seq (pcA := 30) (ss_blk (ss_seq (pcA := 4) (ss_decI_n (pcA := 3) (se_iconst dX6_sumOfExponents_2 (by decide +kernel) rfl) dX6_sumOfExponents_3 rfl (Nat.le_of_ble_eq_true rfl) rfl)
    (ss_while (pcB := 12) (sc_Flt (pcA := 5) (pcB := 9) (se_iload_n dX6_sumOfExponents_4 rfl rfl) (se_get (pcA := 6) (T := TX6) (k := 2) (index := 26) (se_aload_n dX6_sumOfExponents_5 rfl rfl) rfl in_X6_sumOfExponents_X6 (Nat.le_of_ble_eq_true rfl) lk_X6_sumOfExponents_26 rfl dX6_sumOfExponents_6 rfl) dX6_sumOfExponents_9 rfl rfl)
    (ss_seq (pcA := 24) (ss_setI_n (pcA := 23) (se_add (pcA := 13) (pcB := 22) (se_iload_n dX6_sumOfExponents_12 rfl rfl) (se_callSI (pcA := 19) (index := 113) (sa_ci (pcA := 18) (se_callVI (pcA := 15) (ci := 5) (index := 66) (sa_cr (pcA := 14) (se_aload_n dX6_sumOfExponents_13 rfl rfl) (sa_ci (pcA := 15) (se_iload_n dX6_sumOfExponents_14 rfl rfl) sa_nil)) T_X6_numberOf (s_Rcv_of 5 _ _) rfl gX6_sumOfExponents_X6_numberOf rfl (by decide +kernel) (Nat.le_of_ble_eq_true rfl) (Nat.le_of_ble_eq_true rfl) (s_LenR (s_LenI s_Len0)) (Nat.le_of_ble_eq_true rfl) dX6_sumOfExponents_15 rfl) (sa_ci (pcA := 19) (se_iload_n dX6_sumOfExponents_18 rfl rfl) sa_nil)) T_X7_exponent gX6_sumOfExponents_X7_exponent rfl (by decide +kernel) (Nat.le_of_ble_eq_true rfl) (Nat.le_of_ble_eq_true rfl) (s_LenI (s_LenI s_Len0)) (Nat.le_of_ble_eq_true rfl) dX6_sumOfExponents_19 rfl) dX6_sumOfExponents_22 rfl) dX6_sumOfExponents_23 rfl (Nat.le_of_ble_eq_true rfl) rfl)
    (ss_goto (pcG := 27) (ss_inc dX6_sumOfExponents_24 (Nat.le_of_ble_eq_true rfl) (by decide +kernel) rfl) dX6_sumOfExponents_27 rfl)))))
    (ss_retI (pcA := 31) (se_iload_n dX6_sumOfExponents_30 rfl rfl) dX6_sumOfExponents_31 rfl)))
theorem T_X6_sumOfExponents : sMet vwCl RX6 yX6_sumOfExponents wsX6_sumOfExponents 2 45 M_X6_sumOfExponents := sMet_of rfl (by decide +kernel) rfl rfl (fun h => by cases h) (m_ofV_run _ _ _) S_X6_sumOfExponents (m_ofV_cat _ _ _ (Nat.le_of_ble_eq_true rfl))
theorem in_X6_greatestExponent_X6 : ∀ w ∈ u_ws RX6 TX6 6, w ∈ wsX6_greatestExponent := by decide +kernel
theorem lk_X6_greatestExponent_26 : Cond.fieldLink RX6 26 RX6 "size" "I" ∈ wsX6_greatestExponent := by decide +kernel
theorem mm_X6_greatestExponent_116 : Cond.methodLink RX6 116 Lib.Math.max.name ∈ wsX6_greatestExponent := by decide +kernel
theorem ms_X6_greatestExponent_max : Cond.static Lib.Math.max.name ∈ wsX6_greatestExponent := by decide +kernel
theorem mi_X6_greatestExponent_Math : Cond.initialized "java/lang/Math" ∈ wsX6_greatestExponent := by decide +kernel
theorem mk_X6_greatestExponent_max : Cond.code Lib.Math.max.name Lib.Math.max.code 2 (some .int) ∈ wsX6_greatestExponent := by decide +kernel
abbrev C_X6_greatestExponent_1 : sCd := (c_cmp i_lt (e_i 3) (e_get 5 2 (e_r 0)))
abbrev W_X6_greatestExponent_1 : sStm :=
  (s_seq (s_setI 2 (e_max (e_i 2) (e_callI M_X7_exponent (a_ci (e_callI M_X6_numberOf (a_cr (e_r 0) (a_ci (e_i 3) a_nil))) (a_ci (e_i 1) a_nil)))))
    (s_inc 3 (nI 1)))
def B_X6_greatestExponent : sStm :=
  (s_seq (s_decI 2 (e_k (nI 0)))
    (s_seq (s_blk 3 (s_seq (s_decI 3 (e_k (nI 0)))
    (s_while C_X6_greatestExponent_1 W_X6_greatestExponent_1)))
    (s_retI (e_i 2))))
def M_X6_greatestExponent : sSem := m_ofV 5 2 B_X6_greatestExponent
set_option maxRecDepth 100000 in
set_option maxHeartbeats 4000000 in
theorem S_X6_greatestExponent : sSS (cX6_greatestExponent, wsX6_greatestExponent, RX6, (some .int), 2, 45, 4, vwCl, RX6, false) 0 0 B_X6_greatestExponent :=
  (ss_seq (pcA := 2) (ss_decI_n (pcA := 1) (se_iconst dX6_greatestExponent_0 (by decide +kernel) rfl) dX6_greatestExponent_1 rfl (Nat.le_of_ble_eq_true rfl) rfl)
    (ss_seq (pcA := 32) (ss_blk (ss_seq (pcA := 4) (ss_decI_n (pcA := 3) (se_iconst dX6_greatestExponent_2 (by decide +kernel) rfl) dX6_greatestExponent_3 rfl (Nat.le_of_ble_eq_true rfl) rfl)
    (ss_while (pcB := 12) (sc_Flt (pcA := 5) (pcB := 9) (se_iload_n dX6_greatestExponent_4 rfl rfl) (se_get (pcA := 6) (T := TX6) (k := 2) (index := 26) (se_aload_n dX6_greatestExponent_5 rfl rfl) rfl in_X6_greatestExponent_X6 (Nat.le_of_ble_eq_true rfl) lk_X6_greatestExponent_26 rfl dX6_greatestExponent_6 rfl) dX6_greatestExponent_9 rfl rfl)
    (ss_seq (pcA := 26) (ss_setI_n (pcA := 25) (se_max (pcA := 13) (pcB := 22) (index := 116) (se_iload_n dX6_greatestExponent_12 rfl rfl) (se_callSI (pcA := 19) (index := 113) (sa_ci (pcA := 18) (se_callVI (pcA := 15) (ci := 5) (index := 66) (sa_cr (pcA := 14) (se_aload_n dX6_greatestExponent_13 rfl rfl) (sa_ci (pcA := 15) (se_iload_n dX6_greatestExponent_14 rfl rfl) sa_nil)) T_X6_numberOf (s_Rcv_of 5 _ _) rfl gX6_greatestExponent_X6_numberOf rfl (by decide +kernel) (Nat.le_of_ble_eq_true rfl) (Nat.le_of_ble_eq_true rfl) (s_LenR (s_LenI s_Len0)) (Nat.le_of_ble_eq_true rfl) dX6_greatestExponent_15 rfl) (sa_ci (pcA := 19) (se_iload_n dX6_greatestExponent_18 rfl rfl) sa_nil)) T_X7_exponent gX6_greatestExponent_X7_exponent rfl (by decide +kernel) (Nat.le_of_ble_eq_true rfl) (Nat.le_of_ble_eq_true rfl) (s_LenI (s_LenI s_Len0)) (Nat.le_of_ble_eq_true rfl) dX6_greatestExponent_19 rfl) mm_X6_greatestExponent_116 ms_X6_greatestExponent_max mi_X6_greatestExponent_Math mk_X6_greatestExponent_max (Nat.le_of_ble_eq_true rfl) (Nat.le_of_ble_eq_true rfl) (Nat.le_of_ble_eq_true rfl) dX6_greatestExponent_22 rfl) dX6_greatestExponent_25 rfl (Nat.le_of_ble_eq_true rfl) rfl)
    (ss_goto (pcG := 29) (ss_inc dX6_greatestExponent_26 (Nat.le_of_ble_eq_true rfl) (by decide +kernel) rfl) dX6_greatestExponent_29 rfl)))))
    (ss_retI (pcA := 33) (se_iload_n dX6_greatestExponent_32 rfl rfl) dX6_greatestExponent_33 rfl)))
theorem T_X6_greatestExponent : sMet vwCl RX6 yX6_greatestExponent wsX6_greatestExponent 2 45 M_X6_greatestExponent := sMet_of rfl (by decide +kernel) rfl rfl (fun h => by cases h) (m_ofV_run _ _ _) S_X6_greatestExponent (m_ofV_cat _ _ _ (Nat.le_of_ble_eq_true rfl))
theorem in_X6_multiplesOf_X6 : ∀ w ∈ u_ws RX6 TX6 6, w ∈ wsX6_multiplesOf := by decide +kernel
theorem lk_X6_multiplesOf_26 : Cond.fieldLink RX6 26 RX6 "size" "I" ∈ wsX6_multiplesOf := by decide +kernel
abbrev C_X6_multiplesOf_1 : sCd := (c_cmp i_lt (e_i 3) (e_get 5 2 (e_r 0)))
abbrev W_X6_multiplesOf_1 : sStm :=
  (s_seq (s_if (c_cmp0 i_ne (e_callI M_X7_divides (a_ci (e_i 1) (a_ci (e_callI M_X6_numberOf (a_cr (e_r 0) (a_ci (e_i 3) a_nil))) a_nil))))
    (s_inc 2 (nI 1)) s_skip)
    (s_inc 3 (nI 1)))
def B_X6_multiplesOf : sStm :=
  (s_seq (s_decI 2 (e_k (nI 0)))
    (s_seq (s_blk 3 (s_seq (s_decI 3 (e_k (nI 0)))
    (s_while C_X6_multiplesOf_1 W_X6_multiplesOf_1)))
    (s_retI (e_i 2))))
def M_X6_multiplesOf : sSem := m_ofV 5 2 B_X6_multiplesOf
set_option maxRecDepth 100000 in
set_option maxHeartbeats 4000000 in
theorem S_X6_multiplesOf : sSS (cX6_multiplesOf, wsX6_multiplesOf, RX6, (some .int), 1, 21, 4, vwCl, RX6, false) 0 0 B_X6_multiplesOf :=
  (ss_seq (pcA := 2) (ss_decI_n (pcA := 1) (se_iconst dX6_multiplesOf_0 (by decide +kernel) rfl) dX6_multiplesOf_1 rfl (Nat.le_of_ble_eq_true rfl) rfl)
    (ss_seq (pcA := 33) (ss_blk (ss_seq (pcA := 4) (ss_decI_n (pcA := 3) (se_iconst dX6_multiplesOf_2 (by decide +kernel) rfl) dX6_multiplesOf_3 rfl (Nat.le_of_ble_eq_true rfl) rfl)
    (ss_while (pcB := 12) (sc_Flt (pcA := 5) (pcB := 9) (se_iload_n dX6_multiplesOf_4 rfl rfl) (se_get (pcA := 6) (T := TX6) (k := 2) (index := 26) (se_aload_n dX6_multiplesOf_5 rfl rfl) rfl in_X6_multiplesOf_X6 (Nat.le_of_ble_eq_true rfl) lk_X6_multiplesOf_26 rfl dX6_multiplesOf_6 rfl) dX6_multiplesOf_9 rfl rfl)
    (ss_seq (pcA := 27) (ss_if (pcT := 24) (pcF := 27) (sc_Fne0 (pcB := 21) (se_callSI (pcA := 18) (index := 90) (sa_ci (pcA := 13) (se_iload_n dX6_multiplesOf_12 rfl rfl) (sa_ci (pcA := 18) (se_callVI (pcA := 15) (ci := 5) (index := 66) (sa_cr (pcA := 14) (se_aload_n dX6_multiplesOf_13 rfl rfl) (sa_ci (pcA := 15) (se_iload_n dX6_multiplesOf_14 rfl rfl) sa_nil)) T_X6_numberOf (s_Rcv_of 5 _ _) rfl gX6_multiplesOf_X6_numberOf rfl (by decide +kernel) (Nat.le_of_ble_eq_true rfl) (Nat.le_of_ble_eq_true rfl) (s_LenR (s_LenI s_Len0)) (Nat.le_of_ble_eq_true rfl) dX6_multiplesOf_15 rfl) sa_nil)) T_X7_divides gX6_multiplesOf_X7_divides rfl (by decide +kernel) (Nat.le_of_ble_eq_true rfl) (Nat.le_of_ble_eq_true rfl) (s_LenI (s_LenI s_Len0)) (Nat.le_of_ble_eq_true rfl) dX6_multiplesOf_18 rfl) dX6_multiplesOf_21 rfl rfl)
    (ss_inc dX6_multiplesOf_24 (Nat.le_of_ble_eq_true rfl) (by decide +kernel) rfl) ss_skip)
    (ss_goto (pcG := 30) (ss_inc dX6_multiplesOf_27 (Nat.le_of_ble_eq_true rfl) (by decide +kernel) rfl) dX6_multiplesOf_30 rfl)))))
    (ss_retI (pcA := 34) (se_iload_n dX6_multiplesOf_33 rfl rfl) dX6_multiplesOf_34 rfl)))
theorem T_X6_multiplesOf : sMet vwCl RX6 yX6_multiplesOf wsX6_multiplesOf 1 21 M_X6_multiplesOf := sMet_of rfl (by decide +kernel) rfl rfl (fun h => by cases h) (m_ofV_run _ _ _) S_X6_multiplesOf (m_ofV_cat _ _ _ (Nat.le_of_ble_eq_true rfl))
theorem in_X6_ones_X6 : ∀ w ∈ u_ws RX6 TX6 6, w ∈ wsX6_ones := by decide +kernel
theorem lk_X6_ones_26 : Cond.fieldLink RX6 26 RX6 "size" "I" ∈ wsX6_ones := by decide +kernel
abbrev C_X6_ones_1 : sCd := (c_cmp i_lt (e_i 2) (e_get 5 2 (e_r 0)))
abbrev W_X6_ones_1 : sStm :=
  (s_seq (s_if (c_cmp i_eq (e_callI M_X6_numberOf (a_cr (e_r 0) (a_ci (e_i 2) a_nil))) (e_k (nI 1)))
    (s_inc 1 (nI 1)) s_skip)
    (s_inc 2 (nI 1)))
def B_X6_ones : sStm :=
  (s_seq (s_decI 1 (e_k (nI 0)))
    (s_seq (s_blk 2 (s_seq (s_decI 2 (e_k (nI 0)))
    (s_while C_X6_ones_1 W_X6_ones_1)))
    (s_retI (e_i 1))))
def M_X6_ones : sSem := m_ofV 5 1 B_X6_ones
set_option maxRecDepth 100000 in
set_option maxHeartbeats 4000000 in
theorem S_X6_ones : sSS (cX6_ones, wsX6_ones, RX6, (some .int), 1, 21, 3, vwCl, RX6, false) 0 0 B_X6_ones :=
  (ss_seq (pcA := 2) (ss_decI_n (pcA := 1) (se_iconst dX6_ones_0 (by decide +kernel) rfl) dX6_ones_1 rfl (Nat.le_of_ble_eq_true rfl) rfl)
    (ss_seq (pcA := 30) (ss_blk (ss_seq (pcA := 4) (ss_decI_n (pcA := 3) (se_iconst dX6_ones_2 (by decide +kernel) rfl) dX6_ones_3 rfl (Nat.le_of_ble_eq_true rfl) rfl)
    (ss_while (pcB := 12) (sc_Flt (pcA := 5) (pcB := 9) (se_iload_n dX6_ones_4 rfl rfl) (se_get (pcA := 6) (T := TX6) (k := 2) (index := 26) (se_aload_n dX6_ones_5 rfl rfl) rfl in_X6_ones_X6 (Nat.le_of_ble_eq_true rfl) lk_X6_ones_26 rfl dX6_ones_6 rfl) dX6_ones_9 rfl rfl)
    (ss_seq (pcA := 24) (ss_if (pcT := 21) (pcF := 24) (sc_Feq (pcA := 17) (pcB := 18) (se_callVI (pcA := 14) (ci := 5) (index := 66) (sa_cr (pcA := 13) (se_aload_n dX6_ones_12 rfl rfl) (sa_ci (pcA := 14) (se_iload_n dX6_ones_13 rfl rfl) sa_nil)) T_X6_numberOf (s_Rcv_of 5 _ _) rfl gX6_ones_X6_numberOf rfl (by decide +kernel) (Nat.le_of_ble_eq_true rfl) (Nat.le_of_ble_eq_true rfl) (s_LenR (s_LenI s_Len0)) (Nat.le_of_ble_eq_true rfl) dX6_ones_14 rfl) (se_iconst dX6_ones_17 (by decide +kernel) rfl) dX6_ones_18 rfl rfl)
    (ss_inc dX6_ones_21 (Nat.le_of_ble_eq_true rfl) (by decide +kernel) rfl) ss_skip)
    (ss_goto (pcG := 27) (ss_inc dX6_ones_24 (Nat.le_of_ble_eq_true rfl) (by decide +kernel) rfl) dX6_ones_27 rfl)))))
    (ss_retI (pcA := 31) (se_iload_n dX6_ones_30 rfl rfl) dX6_ones_31 rfl)))
theorem T_X6_ones : sMet vwCl RX6 yX6_ones wsX6_ones 1 21 M_X6_ones := sMet_of rfl (by decide +kernel) rfl rfl (fun h => by cases h) (m_ofV_run _ _ _) S_X6_ones (m_ofV_cat _ _ _ (Nat.le_of_ble_eq_true rfl))
abbrev C_X6_dividesBelow_1 : sCd := (c_cmp i_lt (e_i 3) (e_i 1))
abbrev W_X6_dividesBelow_1 : sStm :=
  (s_seq (s_if (c_cmp0 i_ne (e_callI M_X7_divides (a_ci (e_i 2) (a_ci (e_callI M_X6_numberOf (a_cr (e_r 0) (a_ci (e_i 3) a_nil))) a_nil))))
    (s_retZ (e_k (nI 1))) s_skip)
    (s_inc 3 (nI 1)))
def B_X6_dividesBelow : sStm :=
  (s_seq (s_blk 3 (s_seq (s_decI 3 (e_k (nI 0)))
    (s_while C_X6_dividesBelow_1 W_X6_dividesBelow_1)))
    (s_retZ (e_k (nI 0))))
def M_X6_dividesBelow : sSem := m_ofV 5 3 B_X6_dividesBelow
set_option maxRecDepth 100000 in
set_option maxHeartbeats 4000000 in
theorem S_X6_dividesBelow : sSS (cX6_dividesBelow, wsX6_dividesBelow, RX6, (some .boolean), 1, 21, 4, vwCl, RX6, false) 0 0 B_X6_dividesBelow :=
  (ss_seq (pcA := 27) (ss_blk (ss_seq (pcA := 2) (ss_decI_n (pcA := 1) (se_iconst dX6_dividesBelow_0 (by decide +kernel) rfl) dX6_dividesBelow_1 rfl (Nat.le_of_ble_eq_true rfl) rfl)
    (ss_while (pcB := 7) (sc_Flt (pcA := 3) (pcB := 4) (se_iload_n dX6_dividesBelow_2 rfl rfl) (se_iload_n dX6_dividesBelow_3 rfl rfl) dX6_dividesBelow_4 rfl rfl)
    (ss_seq (pcA := 21) (ss_if (pcT := 19) (pcF := 21) (sc_Fne0 (pcB := 16) (se_callSI (pcA := 13) (index := 90) (sa_ci (pcA := 8) (se_iload_n dX6_dividesBelow_7 rfl rfl) (sa_ci (pcA := 13) (se_callVI (pcA := 10) (ci := 5) (index := 66) (sa_cr (pcA := 9) (se_aload_n dX6_dividesBelow_8 rfl rfl) (sa_ci (pcA := 10) (se_iload_n dX6_dividesBelow_9 rfl rfl) sa_nil)) T_X6_numberOf (s_Rcv_of 5 _ _) rfl gX6_dividesBelow_X6_numberOf rfl (by decide +kernel) (Nat.le_of_ble_eq_true rfl) (Nat.le_of_ble_eq_true rfl) (s_LenR (s_LenI s_Len0)) (Nat.le_of_ble_eq_true rfl) dX6_dividesBelow_10 rfl) sa_nil)) T_X7_divides gX6_dividesBelow_X7_divides rfl (by decide +kernel) (Nat.le_of_ble_eq_true rfl) (Nat.le_of_ble_eq_true rfl) (s_LenI (s_LenI s_Len0)) (Nat.le_of_ble_eq_true rfl) dX6_dividesBelow_13 rfl) dX6_dividesBelow_16 rfl rfl)
    (ss_retZ (pcA := 20) (se_iconst dX6_dividesBelow_19 (by decide +kernel) rfl) dX6_dividesBelow_20 rfl) ss_skip)
    (ss_goto (pcG := 24) (ss_inc dX6_dividesBelow_21 (Nat.le_of_ble_eq_true rfl) (by decide +kernel) rfl) dX6_dividesBelow_24 rfl)))))
    (ss_retZ (pcA := 28) (se_iconst dX6_dividesBelow_27 (by decide +kernel) rfl) dX6_dividesBelow_28 rfl))
theorem T_X6_dividesBelow : sMet vwCl RX6 yX6_dividesBelow wsX6_dividesBelow 1 21 M_X6_dividesBelow := sMet_of rfl (by decide +kernel) rfl rfl (fun h => by cases h) (m_ofV_run _ _ _) S_X6_dividesBelow (m_ofV_cat _ _ _ (Nat.le_of_ble_eq_true rfl))
theorem in_X6_differentPrimes_X6 : ∀ w ∈ u_ws RX6 TX6 6, w ∈ wsX6_differentPrimes := by decide +kernel
theorem lk_X6_differentPrimes_26 : Cond.fieldLink RX6 26 RX6 "size" "I" ∈ wsX6_differentPrimes := by decide +kernel
abbrev C_X6_differentPrimes_1 : sCd := (c_and (c_cmp i_lt (e_i 4) (e_k (nI 13))) (c_cmp i_gt (e_i 3) (e_k (nI 1))))
abbrev W_X6_differentPrimes_1 : sStm :=
  (s_seq (s_blk 5 (s_seq (s_decI 5 (e_callI M_X7_leastPrime (a_ci (e_i 3) a_nil)))
    (s_seq (s_if (c_not (c_cmp0 i_ne (e_callI M_X6_dividesBelow (a_cr (e_r 0) (a_ci (e_i 2) (a_ci (e_i 5) a_nil))))))
    (s_inc 1 (nI 1)) s_skip)
    (s_setI 3 (e_callI M_X7_withoutPrime (a_ci (e_i 3) (a_ci (e_i 5) a_nil)))))))
    (s_inc 4 (nI 1)))
abbrev C_X6_differentPrimes_2 : sCd := (c_cmp i_lt (e_i 2) (e_get 5 2 (e_r 0)))
abbrev W_X6_differentPrimes_2 : sStm :=
  (s_seq (s_blk 3 (s_seq (s_decI 3 (e_callI M_X6_numberOf (a_cr (e_r 0) (a_ci (e_i 2) a_nil))))
    (s_blk 4 (s_seq (s_decI 4 (e_k (nI 0)))
    (s_while C_X6_differentPrimes_1 W_X6_differentPrimes_1)))))
    (s_inc 2 (nI 1)))
def B_X6_differentPrimes : sStm :=
  (s_seq (s_decI 1 (e_k (nI 0)))
    (s_seq (s_blk 2 (s_seq (s_decI 2 (e_k (nI 0)))
    (s_while C_X6_differentPrimes_2 W_X6_differentPrimes_2)))
    (s_retI (e_i 1))))
def M_X6_differentPrimes : sSem := m_ofV 5 1 B_X6_differentPrimes
set_option maxRecDepth 100000 in
set_option maxHeartbeats 4000000 in
theorem S_X6_differentPrimes : sSS (cX6_differentPrimes, wsX6_differentPrimes, RX6, (some .int), 3, 68, 6, vwCl, RX6, false) 0 0 B_X6_differentPrimes :=
  (ss_seq (pcA := 2) (ss_decI_n (pcA := 1) (se_iconst dX6_differentPrimes_0 (by decide +kernel) rfl) dX6_differentPrimes_1 rfl (Nat.le_of_ble_eq_true rfl) rfl)
    (ss_seq (pcA := 71) (ss_blk (ss_seq (pcA := 4) (ss_decI_n (pcA := 3) (se_iconst dX6_differentPrimes_2 (by decide +kernel) rfl) dX6_differentPrimes_3 rfl (Nat.le_of_ble_eq_true rfl) rfl)
    (ss_while (pcB := 12) (sc_Flt (pcA := 5) (pcB := 9) (se_iload_n dX6_differentPrimes_4 rfl rfl) (se_get (pcA := 6) (T := TX6) (k := 2) (index := 26) (se_aload_n dX6_differentPrimes_5 rfl rfl) rfl in_X6_differentPrimes_X6 (Nat.le_of_ble_eq_true rfl) lk_X6_differentPrimes_26 rfl dX6_differentPrimes_6 rfl) dX6_differentPrimes_9 rfl rfl)
    (ss_seq (pcA := 65) (ss_blk (ss_seq (pcA := 18) (ss_decI_n (pcA := 17) (se_callVI (pcA := 14) (ci := 5) (index := 66) (sa_cr (pcA := 13) (se_aload_n dX6_differentPrimes_12 rfl rfl) (sa_ci (pcA := 14) (se_iload_n dX6_differentPrimes_13 rfl rfl) sa_nil)) T_X6_numberOf (s_Rcv_of 5 _ _) rfl gX6_differentPrimes_X6_numberOf rfl (by decide +kernel) (Nat.le_of_ble_eq_true rfl) (Nat.le_of_ble_eq_true rfl) (s_LenR (s_LenI s_Len0)) (Nat.le_of_ble_eq_true rfl) dX6_differentPrimes_14 rfl) dX6_differentPrimes_17 rfl (Nat.le_of_ble_eq_true rfl) rfl)
    (ss_blk (ss_seq (pcA := 21) (ss_decI (pcA := 19) (se_iconst dX6_differentPrimes_18 (by decide +kernel) rfl) dX6_differentPrimes_19 (Nat.le_of_ble_eq_true rfl) rfl)
    (ss_while (pcB := 33) (sc_and (pcA := 28) (sc_Flt (pcA := 23) (pcB := 25) (se_iload dX6_differentPrimes_21 rfl) (se_bipush dX6_differentPrimes_23 (by decide +kernel) rfl) dX6_differentPrimes_25 rfl rfl) (sc_Fgt (pcA := 29) (pcB := 30) (se_iload_n dX6_differentPrimes_28 rfl rfl) (se_iconst dX6_differentPrimes_29 (by decide +kernel) rfl) dX6_differentPrimes_30 rfl rfl))
    (ss_seq (pcA := 59) (ss_blk (ss_seq (pcA := 39) (ss_decI (pcA := 37) (se_callSI (pcA := 34) (index := 121) (sa_ci (pcA := 34) (se_iload_n dX6_differentPrimes_33 rfl rfl) sa_nil) T_X7_leastPrime gX6_differentPrimes_X7_leastPrime rfl (by decide +kernel) (Nat.le_of_ble_eq_true rfl) (Nat.le_of_ble_eq_true rfl) (s_LenI s_Len0) (Nat.le_of_ble_eq_true rfl) dX6_differentPrimes_34 rfl) dX6_differentPrimes_37 (Nat.le_of_ble_eq_true rfl) rfl)
    (ss_seq (pcA := 52) (ss_if (pcT := 49) (pcF := 52) (sc_not (sc_Tne0 (pcB := 46) (se_callVI (pcA := 43) (ci := 5) (index := 124) (sa_cr (pcA := 40) (se_aload_n dX6_differentPrimes_39 rfl rfl) (sa_ci (pcA := 41) (se_iload_n dX6_differentPrimes_40 rfl rfl) (sa_ci (pcA := 43) (se_iload dX6_differentPrimes_41 rfl) sa_nil))) T_X6_dividesBelow (s_Rcv_of 5 _ _) rfl gX6_differentPrimes_X6_dividesBelow rfl (by decide +kernel) (Nat.le_of_ble_eq_true rfl) (Nat.le_of_ble_eq_true rfl) (s_LenR (s_LenI (s_LenI s_Len0))) (Nat.le_of_ble_eq_true rfl) dX6_differentPrimes_43 rfl) dX6_differentPrimes_46 rfl rfl))
    (ss_inc dX6_differentPrimes_49 (Nat.le_of_ble_eq_true rfl) (by decide +kernel) rfl) ss_skip)
    (ss_setI_n (pcA := 58) (se_callSI (pcA := 55) (index := 127) (sa_ci (pcA := 53) (se_iload_n dX6_differentPrimes_52 rfl rfl) (sa_ci (pcA := 55) (se_iload dX6_differentPrimes_53 rfl) sa_nil)) T_X7_withoutPrime gX6_differentPrimes_X7_withoutPrime rfl (by decide +kernel) (Nat.le_of_ble_eq_true rfl) (Nat.le_of_ble_eq_true rfl) (s_LenI (s_LenI s_Len0)) (Nat.le_of_ble_eq_true rfl) dX6_differentPrimes_55 rfl) dX6_differentPrimes_58 rfl (Nat.le_of_ble_eq_true rfl) rfl))))
    (ss_goto (pcG := 62) (ss_inc dX6_differentPrimes_59 (Nat.le_of_ble_eq_true rfl) (by decide +kernel) rfl) dX6_differentPrimes_62 rfl)))))))
    (ss_goto (pcG := 68) (ss_inc dX6_differentPrimes_65 (Nat.le_of_ble_eq_true rfl) (by decide +kernel) rfl) dX6_differentPrimes_68 rfl)))))
    (ss_retI (pcA := 72) (se_iload_n dX6_differentPrimes_71 rfl rfl) dX6_differentPrimes_72 rfl)))
theorem T_X6_differentPrimes : sMet vwCl RX6 yX6_differentPrimes wsX6_differentPrimes 3 68 M_X6_differentPrimes := sMet_of rfl (by decide +kernel) rfl rfl (fun h => by cases h) (m_ofV_run _ _ _) S_X6_differentPrimes (m_ofV_cat _ _ _ (Nat.le_of_ble_eq_true rfl))
