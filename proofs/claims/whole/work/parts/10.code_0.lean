/-! printed by wip/whole/j2l.py out of the Java texts and the listing -/
def B_X5_at : sStm :=
  (s_retI (e_if (c_and (c_and (c_nn (e_r 0)) (c_cmp0 i_ge (e_i 1))) (c_cmp i_lt (e_i 1) (e_len (e_r 0)))) (e_ald (e_r 0) (e_i 1)) (e_k (nI 0))))
def M_X5_at : sSem := m_of 2 B_X5_at
set_option maxRecDepth 100000 in
set_option maxHeartbeats 4000000 in
theorem S_X5_at : sSS (cX5_at, wsX5_at, RX5, (some .int), 0, 0, 2, vwCl, RX6, false) 0 0 B_X5_at :=
  (ss_retI (pcA := 21) (se_if (pcT := 14) (pcF := 20) (pcG := 17) (sc_and (pcA := 8) (sc_and (pcA := 4) (sc_Fnn (pcB := 1) (se_aload_n dX5_at_0 rfl rfl) dX5_at_1 rfl rfl) (sc_Fge0 (pcB := 5) (se_iload_n dX5_at_4 rfl rfl) dX5_at_5 rfl rfl)) (sc_Flt (pcA := 9) (pcB := 11) (se_iload_n dX5_at_8 rfl rfl) (se_len (pcA := 10) (se_aload_n dX5_at_9 rfl rfl) dX5_at_10 rfl) dX5_at_11 rfl rfl)) (se_ald (pcA := 15) (pcB := 16) (se_aload_n dX5_at_14 rfl rfl) (se_iload_n dX5_at_15 rfl rfl) dX5_at_16 rfl) dX5_at_17 rfl (se_iconst dX5_at_20 (by decide +kernel) rfl)) dX5_at_21 rfl)
theorem T_X5_at : sMet vwCl RX6 yX5_at wsX5_at 0 0 M_X5_at := sMet_of rfl (by decide +kernel) rfl rfl (fun h => by cases h) (m_of_run _ _) S_X5_at (m_of_cat _ _ (Nat.le_of_ble_eq_true rfl))
def B_X5_put : sStm :=
  (s_seq (s_if (c_and (c_and (c_nn (e_r 0)) (c_cmp0 i_ge (e_i 1))) (c_cmp i_lt (e_i 1) (e_len (e_r 0))))
    (s_ast (e_r 0) (e_i 1) (e_i 2)) s_skip)
    s_ret0)
def M_X5_put : sSem := m_of 3 B_X5_put
set_option maxRecDepth 100000 in
set_option maxHeartbeats 4000000 in
theorem S_X5_put : sSS (cX5_put, wsX5_put, RX5, none, 0, 0, 3, vwCl, RX6, false) 0 0 B_X5_put :=
  (ss_seq (pcA := 18) (ss_if (pcT := 14) (pcF := 18) (sc_and (pcA := 8) (sc_and (pcA := 4) (sc_Fnn (pcB := 1) (se_aload_n dX5_put_0 rfl rfl) dX5_put_1 rfl rfl) (sc_Fge0 (pcB := 5) (se_iload_n dX5_put_4 rfl rfl) dX5_put_5 rfl rfl)) (sc_Flt (pcA := 9) (pcB := 11) (se_iload_n dX5_put_8 rfl rfl) (se_len (pcA := 10) (se_aload_n dX5_put_9 rfl rfl) dX5_put_10 rfl) dX5_put_11 rfl rfl))
    (ss_ast (pcA := 15) (pcI := 16) (pcB := 17) (se_aload_n dX5_put_14 rfl rfl) (se_iload_n dX5_put_15 rfl rfl) (se_iload_n dX5_put_16 rfl rfl) dX5_put_17 rfl) ss_skip)
    (ss_ret0 dX5_put_18 rfl))
theorem T_X5_put : sMet vwCl RX6 yX5_put wsX5_put 0 0 M_X5_put := sMet_of rfl (by decide +kernel) rfl rfl (fun h => by cases h) (m_of_run _ _) S_X5_put (m_of_cat _ _ (Nat.le_of_ble_eq_true rfl))
def B_X5_copy : sStm :=
  (s_seq (s_blk 3 (s_seq (s_decI 3 (e_k (nI 0)))
    (s_while (c_cmp i_lt (e_i 3) (e_i 2))
    (s_seq (s_callV M_X5_put (a_cr (e_r 1) (a_ci (e_i 3) (a_ci (e_callI M_X5_at (a_cr (e_r 0) (a_ci (e_i 3) a_nil))) a_nil))))
    (s_inc 3 (nI 1))))))
    s_ret0)
def M_X5_copy : sSem := m_of 3 B_X5_copy
set_option maxRecDepth 100000 in
set_option maxHeartbeats 4000000 in
theorem S_X5_copy : sSS (cX5_copy, wsX5_copy, RX5, none, 1, 22, 4, vwCl, RX6, false) 0 0 B_X5_copy :=
  (ss_seq (pcA := 23) (ss_blk (ss_seq (pcA := 2) (ss_decI_n (pcA := 1) (se_iconst dX5_copy_0 (by decide +kernel) rfl) dX5_copy_1 rfl (Nat.le_of_ble_eq_true rfl) rfl)
    (ss_while (pcB := 7) (sc_Flt (pcA := 3) (pcB := 4) (se_iload_n dX5_copy_2 rfl rfl) (se_iload_n dX5_copy_3 rfl rfl) dX5_copy_4 rfl rfl)
    (ss_seq (pcA := 17) (ss_callVS (pcA := 14) (index := 13) (sa_cr (pcA := 8) (se_aload_n dX5_copy_7 rfl rfl) (sa_ci (pcA := 9) (se_iload_n dX5_copy_8 rfl rfl) (sa_ci (pcA := 14) (se_callSI (pcA := 11) (index := 7) (sa_cr (pcA := 10) (se_aload_n dX5_copy_9 rfl rfl) (sa_ci (pcA := 11) (se_iload_n dX5_copy_10 rfl rfl) sa_nil)) T_X5_at gX5_copy_X5_at rfl (by decide +kernel) (Nat.le_of_ble_eq_true rfl) (Nat.le_of_ble_eq_true rfl) (s_LenR (s_LenI s_Len0)) (Nat.le_of_ble_eq_true rfl) dX5_copy_11 rfl) sa_nil))) T_X5_put gX5_copy_X5_put rfl (by decide +kernel) (Nat.le_of_ble_eq_true rfl) (Nat.le_of_ble_eq_true rfl) (s_LenR (s_LenI (s_LenI s_Len0))) dX5_copy_14 rfl)
    (ss_goto (pcG := 20) (ss_inc dX5_copy_17 (Nat.le_of_ble_eq_true rfl) (by decide +kernel) rfl) dX5_copy_20 rfl)))))
    (ss_ret0 dX5_copy_23 rfl))
theorem T_X5_copy : sMet vwCl RX6 yX5_copy wsX5_copy 1 22 M_X5_copy := sMet_of rfl (by decide +kernel) rfl rfl (fun h => by cases h) (m_of_run _ _) S_X5_copy (m_of_cat _ _ (Nat.le_of_ble_eq_true rfl))
theorem na_X5_longer : Cond.arrayClass .int ∈ wsX5_longer := by decide +kernel

