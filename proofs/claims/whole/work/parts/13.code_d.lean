/-! printed by wip/whole/j2l.py out of the Java texts and the listing -/
theorem ml_X9_init_1 : Cond.methodLink RX9 1 objectInit ∈ wsX9_init := by decide +kernel
theorem mo_X9_init : Cond.instanceMethod objectInit ∈ wsX9_init := by decide +kernel
theorem mc_X9_init : Cond.code objectInit ⟨#[0xb1]⟩ 1 none ∈ wsX9_init := by decide +kernel
theorem na_X9_init : Cond.arrayClass .int ∈ wsX9_init := by decide +kernel
theorem in_X9_init_X9 : ∀ w ∈ u_ws RX9 TX9 18, w ∈ wsX9_init := by decide +kernel
theorem lk_X9_init_7 : Cond.fieldLink RX9 7 RX9 "s" "[I" ∈ wsX9_init := by decide +kernel
theorem lk_X9_init_13 : Cond.fieldLink RX9 13 RX9 "past" "[I" ∈ wsX9_init := by decide +kernel
theorem lk_X9_init_16 : Cond.fieldLink RX9 16 RX9 "kept" "[I" ∈ wsX9_init := by decide +kernel
theorem lk_X9_init_19 : Cond.fieldLink RX9 19 RX9 "spare" "[I" ∈ wsX9_init := by decide +kernel
theorem lk_X9_init_22 : Cond.fieldLink RX9 22 RX9 "primes" "[I" ∈ wsX9_init := by decide +kernel
theorem lk_X9_init_25 : Cond.fieldLink RX9 25 RX9 "pad" "[I" ∈ wsX9_init := by decide +kernel
theorem lk_X9_init_28 : Cond.fieldLink RX9 28 RX9 "stop" "[I" ∈ wsX9_init := by decide +kernel
theorem lk_X9_init_31 : Cond.fieldLink RX9 31 RX9 "family" "[I" ∈ wsX9_init := by decide +kernel
theorem lk_X9_init_34 : Cond.fieldLink RX9 34 RX9 "read" "[I" ∈ wsX9_init := by decide +kernel
theorem lk_X9_init_37 : Cond.fieldLink RX9 37 RX9 "worth" "[I" ∈ wsX9_init := by decide +kernel
theorem lk_X9_init_40 : Cond.fieldLink RX9 40 RX9 "follows" "[I" ∈ wsX9_init := by decide +kernel
abbrev C_X9_init_1 : sCd := (c_and (c_and (c_cmp i_lt (e_i 4) (e_i 1)) (c_cmp0 i_ne (e_i 3))) (c_cmp i_le (e_mul (e_ald (e_getR 7 4 (e_r 0)) (e_i 4)) (e_ald (e_getR 7 4 (e_r 0)) (e_i 4))) (e_i 2)))
abbrev W_X9_init_1 : sStm :=
  (s_seq (s_setI 3 (e_if (c_cmp0 i_ne (e_rem (e_i 2) (e_ald (e_getR 7 4 (e_r 0)) (e_i 4)))) (e_k (nI 1)) (e_k (nI 0))))
    (s_inc 4 (nI 1)))
abbrev C_X9_init_2 : sCd := (c_cmp i_le (e_i 2) (e_k (nI 9999)))
abbrev W_X9_init_2 : sStm :=
  (s_seq (s_blk 3 (s_seq (s_decI 3 (e_k (nI 1)))
    (s_seq (s_blk 4 (s_seq (s_decI 4 (e_k (nI 0)))
    (s_while C_X9_init_1 W_X9_init_1)))
    (s_if (c_cmp0 i_ne (e_i 3))
    (s_seq (s_ast (e_getR 7 4 (e_r 0)) (e_i 1) (e_i 2))
    (s_inc 1 (nI 1))) s_skip))))
    (s_inc 2 (nI 1)))
def B_X9_init : sStm :=
  (s_seq (s_seq (s_super (e_r 0))
    (s_seq (s_putR 7 0 (e_r 0) (e_newa (e_k (nI 1245))))
    (s_seq (s_putR 7 1 (e_r 0) (e_newa (e_k (nI 4980))))
    (s_seq (s_putR 7 2 (e_r 0) (e_newa (e_k (nI 1245))))
    (s_seq (s_putR 7 3 (e_r 0) (e_newa (e_k (nI 1245))))
    (s_seq (s_putR 7 4 (e_r 0) (e_newa (e_k (nI 1229))))
    (s_seq (s_putR 7 8 (e_r 0) (e_newa (e_k (nI 60))))
    (s_seq (s_putR 7 11 (e_r 0) (e_newa (e_k (nI 3))))
    (s_seq (s_putR 7 12 (e_r 0) (e_newa (e_k (nI 12))))
    (s_seq (s_putR 7 15 (e_r 0) (e_newa (e_k (nI 124))))
    (s_seq (s_putR 7 16 (e_r 0) (e_newa (e_k (nI 12))))
    (s_seq (s_putR 7 17 (e_r 0) (e_newa (e_k (nI 12))))
    (s_seq (s_ast (e_getR 7 0 (e_r 0)) (e_k (nI 1)) (e_k (nI 2)))
    (s_seq (s_decI 1 (e_k (nI 0)))
    (s_blk 2 (s_seq (s_decI 2 (e_k (nI 2)))
    (s_while C_X9_init_2 W_X9_init_2)))))))))))))))))
    s_ret0)
def M_X9_init : sSem := m_of 1 B_X9_init
set_option maxRecDepth 100000 in
set_option maxHeartbeats 4000000 in
theorem S_X9_init : sSS (cX9_init, wsX9_init, RX9, none, 1, 20, 5, vwCl, RX6, true) 0 0 B_X9_init :=
  (ss_seq (pcA := 192) (ss_seq (pcA := 4) (ss_objInit (pcA := 1) (se_aload_n dX9_init_0 rfl rfl) ml_X9_init_1 mo_X9_init mc_X9_init dX9_init_1 ⟨(Nat.le_of_ble_eq_true rfl), (Nat.le_of_ble_eq_true rfl)⟩ rfl)
    (ss_seq (pcA := 13) (ss_putRF (pcA := 5) (pcB := 10) (T := TX9) (index := 7) (se_aload_n dX9_init_4 rfl rfl) (se_newa (pcA := 8) (se_sipush dX9_init_5 (by decide +kernel) rfl) na_X9_init dX9_init_8 rfl) rfl in_X9_init_X9 tyX9 tyX9_ok nmX9 (Nat.le_of_ble_eq_true rfl) lk_X9_init_7 rfl rfl rfl rfl (Or.inr ⟨_, rfl⟩) dX9_init_10 rfl)
    (ss_seq (pcA := 22) (ss_putRF (pcA := 14) (pcB := 19) (T := TX9) (index := 13) (se_aload_n dX9_init_13 rfl rfl) (se_newa (pcA := 17) (se_sipush dX9_init_14 (by decide +kernel) rfl) na_X9_init dX9_init_17 rfl) rfl in_X9_init_X9 tyX9 tyX9_ok nmX9 (Nat.le_of_ble_eq_true rfl) lk_X9_init_13 rfl rfl rfl rfl (Or.inr ⟨_, rfl⟩) dX9_init_19 rfl)
    (ss_seq (pcA := 31) (ss_putRF (pcA := 23) (pcB := 28) (T := TX9) (index := 16) (se_aload_n dX9_init_22 rfl rfl) (se_newa (pcA := 26) (se_sipush dX9_init_23 (by decide +kernel) rfl) na_X9_init dX9_init_26 rfl) rfl in_X9_init_X9 tyX9 tyX9_ok nmX9 (Nat.le_of_ble_eq_true rfl) lk_X9_init_16 rfl rfl rfl rfl (Or.inr ⟨_, rfl⟩) dX9_init_28 rfl)
    (ss_seq (pcA := 40) (ss_putRF (pcA := 32) (pcB := 37) (T := TX9) (index := 19) (se_aload_n dX9_init_31 rfl rfl) (se_newa (pcA := 35) (se_sipush dX9_init_32 (by decide +kernel) rfl) na_X9_init dX9_init_35 rfl) rfl in_X9_init_X9 tyX9 tyX9_ok nmX9 (Nat.le_of_ble_eq_true rfl) lk_X9_init_19 rfl rfl rfl rfl (Or.inr ⟨_, rfl⟩) dX9_init_37 rfl)
    (ss_seq (pcA := 49) (ss_putRF (pcA := 41) (pcB := 46) (T := TX9) (index := 22) (se_aload_n dX9_init_40 rfl rfl) (se_newa (pcA := 44) (se_sipush dX9_init_41 (by decide +kernel) rfl) na_X9_init dX9_init_44 rfl) rfl in_X9_init_X9 tyX9 tyX9_ok nmX9 (Nat.le_of_ble_eq_true rfl) lk_X9_init_22 rfl rfl rfl rfl (Or.inr ⟨_, rfl⟩) dX9_init_46 rfl)
    (ss_seq (pcA := 57) (ss_putRF (pcA := 50) (pcB := 54) (T := TX9) (index := 25) (se_aload_n dX9_init_49 rfl rfl) (se_newa (pcA := 52) (se_bipush dX9_init_50 (by decide +kernel) rfl) na_X9_init dX9_init_52 rfl) rfl in_X9_init_X9 tyX9 tyX9_ok nmX9 (Nat.le_of_ble_eq_true rfl) lk_X9_init_25 rfl rfl rfl rfl (Or.inr ⟨_, rfl⟩) dX9_init_54 rfl)
    (ss_seq (pcA := 64) (ss_putRF (pcA := 58) (pcB := 61) (T := TX9) (index := 28) (se_aload_n dX9_init_57 rfl rfl) (se_newa (pcA := 59) (se_iconst dX9_init_58 (by decide +kernel) rfl) na_X9_init dX9_init_59 rfl) rfl in_X9_init_X9 tyX9 tyX9_ok nmX9 (Nat.le_of_ble_eq_true rfl) lk_X9_init_28 rfl rfl rfl rfl (Or.inr ⟨_, rfl⟩) dX9_init_61 rfl)
    (ss_seq (pcA := 72) (ss_putRF (pcA := 65) (pcB := 69) (T := TX9) (index := 31) (se_aload_n dX9_init_64 rfl rfl) (se_newa (pcA := 67) (se_bipush dX9_init_65 (by decide +kernel) rfl) na_X9_init dX9_init_67 rfl) rfl in_X9_init_X9 tyX9 tyX9_ok nmX9 (Nat.le_of_ble_eq_true rfl) lk_X9_init_31 rfl rfl rfl rfl (Or.inr ⟨_, rfl⟩) dX9_init_69 rfl)
    (ss_seq (pcA := 80) (ss_putRF (pcA := 73) (pcB := 77) (T := TX9) (index := 34) (se_aload_n dX9_init_72 rfl rfl) (se_newa (pcA := 75) (se_bipush dX9_init_73 (by decide +kernel) rfl) na_X9_init dX9_init_75 rfl) rfl in_X9_init_X9 tyX9 tyX9_ok nmX9 (Nat.le_of_ble_eq_true rfl) lk_X9_init_34 rfl rfl rfl rfl (Or.inr ⟨_, rfl⟩) dX9_init_77 rfl)
    (ss_seq (pcA := 88) (ss_putRF (pcA := 81) (pcB := 85) (T := TX9) (index := 37) (se_aload_n dX9_init_80 rfl rfl) (se_newa (pcA := 83) (se_bipush dX9_init_81 (by decide +kernel) rfl) na_X9_init dX9_init_83 rfl) rfl in_X9_init_X9 tyX9 tyX9_ok nmX9 (Nat.le_of_ble_eq_true rfl) lk_X9_init_37 rfl rfl rfl rfl (Or.inr ⟨_, rfl⟩) dX9_init_85 rfl)
    (ss_seq (pcA := 96) (ss_putRF (pcA := 89) (pcB := 93) (T := TX9) (index := 40) (se_aload_n dX9_init_88 rfl rfl) (se_newa (pcA := 91) (se_bipush dX9_init_89 (by decide +kernel) rfl) na_X9_init dX9_init_91 rfl) rfl in_X9_init_X9 tyX9 tyX9_ok nmX9 (Nat.le_of_ble_eq_true rfl) lk_X9_init_40 rfl rfl rfl rfl (Or.inr ⟨_, rfl⟩) dX9_init_93 rfl)
    (ss_seq (pcA := 103) (ss_ast (pcA := 100) (pcI := 101) (pcB := 102) (se_getR (pcA := 97) (T := TX9) (k := 0) (index := 7) (se_aload_n dX9_init_96 rfl rfl) rfl in_X9_init_X9 (Nat.le_of_ble_eq_true rfl) lk_X9_init_7 rfl dX9_init_97 rfl) (se_iconst dX9_init_100 (by decide +kernel) rfl) (se_iconst dX9_init_101 (by decide +kernel) rfl) dX9_init_102 rfl)
    (ss_seq (pcA := 105) (ss_decI_n (pcA := 104) (se_iconst dX9_init_103 (by decide +kernel) rfl) dX9_init_104 rfl (Nat.le_of_ble_eq_true rfl) rfl)
    (ss_blk (ss_seq (pcA := 107) (ss_decI_n (pcA := 106) (se_iconst dX9_init_105 (by decide +kernel) rfl) dX9_init_106 rfl (Nat.le_of_ble_eq_true rfl) rfl)
    (ss_while (pcB := 114) (sc_Fle (pcA := 108) (pcB := 111) (se_iload_n dX9_init_107 rfl rfl) (se_sipush dX9_init_108 (by decide +kernel) rfl) dX9_init_111 rfl rfl)
    (ss_seq (pcA := 186) (ss_blk (ss_seq (pcA := 116) (ss_decI_n (pcA := 115) (se_iconst dX9_init_114 (by decide +kernel) rfl) dX9_init_115 rfl (Nat.le_of_ble_eq_true rfl) rfl)
    (ss_seq (pcA := 172) (ss_blk (ss_seq (pcA := 119) (ss_decI (pcA := 117) (se_iconst dX9_init_116 (by decide +kernel) rfl) dX9_init_117 (Nat.le_of_ble_eq_true rfl) rfl)
    (ss_while (pcB := 148) (sc_and (pcA := 129) (sc_and (pcA := 125) (sc_Flt (pcA := 121) (pcB := 122) (se_iload dX9_init_119 rfl) (se_iload_n dX9_init_121 rfl rfl) dX9_init_122 rfl rfl) (sc_Fne0 (pcB := 126) (se_iload_n dX9_init_125 rfl rfl) dX9_init_126 rfl rfl)) (sc_Fle (pcA := 144) (pcB := 145) (se_mul (pcA := 136) (pcB := 143) (se_ald (pcA := 133) (pcB := 135) (se_getR (pcA := 130) (T := TX9) (k := 4) (index := 22) (se_aload_n dX9_init_129 rfl rfl) rfl in_X9_init_X9 (Nat.le_of_ble_eq_true rfl) lk_X9_init_22 rfl dX9_init_130 rfl) (se_iload dX9_init_133 rfl) dX9_init_135 rfl) (se_ald (pcA := 140) (pcB := 142) (se_getR (pcA := 137) (T := TX9) (k := 4) (index := 22) (se_aload_n dX9_init_136 rfl rfl) rfl in_X9_init_X9 (Nat.le_of_ble_eq_true rfl) lk_X9_init_22 rfl dX9_init_137 rfl) (se_iload dX9_init_140 rfl) dX9_init_142 rfl) dX9_init_143 rfl) (se_iload_n dX9_init_144 rfl rfl) dX9_init_145 rfl rfl))
    (ss_seq (pcA := 166) (ss_setI_n (pcA := 165) (se_if (pcT := 160) (pcF := 164) (pcG := 161) (sc_Fne0 (pcB := 157) (se_rem (pcA := 149) (pcB := 156) (se_iload_n dX9_init_148 rfl rfl) (se_ald (pcA := 153) (pcB := 155) (se_getR (pcA := 150) (T := TX9) (k := 4) (index := 22) (se_aload_n dX9_init_149 rfl rfl) rfl in_X9_init_X9 (Nat.le_of_ble_eq_true rfl) lk_X9_init_22 rfl dX9_init_150 rfl) (se_iload dX9_init_153 rfl) dX9_init_155 rfl) dX9_init_156 rfl) dX9_init_157 rfl rfl) (se_iconst dX9_init_160 (by decide +kernel) rfl) dX9_init_161 rfl (se_iconst dX9_init_164 (by decide +kernel) rfl)) dX9_init_165 rfl (Nat.le_of_ble_eq_true rfl) rfl)
    (ss_goto (pcG := 169) (ss_inc dX9_init_166 (Nat.le_of_ble_eq_true rfl) (by decide +kernel) rfl) dX9_init_169 rfl)))))
    (ss_if (pcT := 176) (pcF := 186) (sc_Fne0 (pcB := 173) (se_iload_n dX9_init_172 rfl rfl) dX9_init_173 rfl rfl)
    (ss_seq (pcA := 183) (ss_ast (pcA := 180) (pcI := 181) (pcB := 182) (se_getR (pcA := 177) (T := TX9) (k := 4) (index := 22) (se_aload_n dX9_init_176 rfl rfl) rfl in_X9_init_X9 (Nat.le_of_ble_eq_true rfl) lk_X9_init_22 rfl dX9_init_177 rfl) (se_iload_n dX9_init_180 rfl rfl) (se_iload_n dX9_init_181 rfl rfl) dX9_init_182 rfl)
    (ss_inc dX9_init_183 (Nat.le_of_ble_eq_true rfl) (by decide +kernel) rfl)) ss_skip))))
    (ss_goto (pcG := 189) (ss_inc dX9_init_186 (Nat.le_of_ble_eq_true rfl) (by decide +kernel) rfl) dX9_init_189 rfl)))))))))))))))))))
    (ss_ret0 dX9_init_192 rfl))
theorem T_X9_init : sMet vwCl RX6 yX9_init wsX9_init 1 20 M_X9_init := sMet_of rfl (by decide +kernel) rfl rfl (fun _ => rfl) (m_of_run _ _) S_X9_init (m_of_cat _ _ (Nat.le_of_ble_eq_true rfl))
def B_X9_in : sStm :=
  (s_retZ (e_if (c_and (c_cmp i_ge (e_i 0) (e_i 1)) (c_cmp i_le (e_i 0) (e_i 2))) (e_k (nI 1)) (e_k (nI 0))))
def M_X9_in : sSem := m_of 3 B_X9_in
set_option maxRecDepth 100000 in
set_option maxHeartbeats 4000000 in
theorem S_X9_in : sSS (cX9_in, wsX9_in, RX9, (some .boolean), 0, 0, 3, vwCl, RX6, false) 0 0 B_X9_in :=
  (ss_retZ (pcA := 15) (se_if (pcT := 10) (pcF := 14) (pcG := 11) (sc_and (pcA := 5) (sc_Fge (pcA := 1) (pcB := 2) (se_iload_n dX9_in_0 rfl rfl) (se_iload_n dX9_in_1 rfl rfl) dX9_in_2 rfl rfl) (sc_Fle (pcA := 6) (pcB := 7) (se_iload_n dX9_in_5 rfl rfl) (se_iload_n dX9_in_6 rfl rfl) dX9_in_7 rfl rfl)) (se_iconst dX9_in_10 (by decide +kernel) rfl) dX9_in_11 rfl (se_iconst dX9_in_14 (by decide +kernel) rfl)) dX9_in_15 rfl)
theorem T_X9_in : sMet vwCl RX6 yX9_in wsX9_in 0 0 M_X9_in := sMet_of rfl (by decide +kernel) rfl rfl (fun h => by cases h) (m_of_run _ _) S_X9_in (m_of_cat _ _ (Nat.le_of_ble_eq_true rfl))
theorem in_X9_changes_X9 : ∀ w ∈ u_ws RX9 TX9 18, w ∈ wsX9_changes := by decide +kernel
theorem lk_X9_changes_43 : Cond.fieldLink RX9 43 RX9 "runs" "Z" ∈ wsX9_changes := by decide +kernel
theorem lk_X9_changes_47 : Cond.fieldLink RX9 47 RX9 "pasts" "I" ∈ wsX9_changes := by decide +kernel
theorem lk_X9_changes_13 : Cond.fieldLink RX9 13 RX9 "past" "[I" ∈ wsX9_changes := by decide +kernel
theorem lk_X9_changes_7 : Cond.fieldLink RX9 7 RX9 "s" "[I" ∈ wsX9_changes := by decide +kernel
abbrev C_X9_changes_1 : sCd := (c_cmp i_lt (e_i 1) (e_k (nI 3735)))
abbrev W_X9_changes_1 : sStm :=
  (s_seq (s_ast (e_getR 7 1 (e_r 0)) (e_i 1) (e_ald (e_getR 7 1 (e_r 0)) (e_add (e_i 1) (e_k (nI 1245)))))
    (s_inc 1 (nI 1)))
abbrev C_X9_changes_2 : sCd := (c_cmp i_lt (e_i 1) (e_k (nI 1245)))
abbrev W_X9_changes_2 : sStm :=
  (s_seq (s_ast (e_getR 7 1 (e_r 0)) (e_add (e_mul (e_k (nI 1245)) (e_get 7 6 (e_r 0))) (e_i 1)) (e_ald (e_getR 7 0 (e_r 0)) (e_i 1)))
    (s_inc 1 (nI 1)))
def B_X9_changes : sStm :=
  (s_seq (s_seq (s_if (c_cmp0 i_ne (e_get 7 7 (e_r 0)))
    s_ret0 s_skip)
    (s_seq (s_if (c_cmp i_eq (e_get 7 6 (e_r 0)) (e_k (nI 4)))
    (s_seq (s_blk 1 (s_seq (s_decI 1 (e_k (nI 0)))
    (s_while C_X9_changes_1 W_X9_changes_1)))
    (s_putop 7 6 (e_r 0) (fun x z => x - z) (e_k (nI 1)))) s_skip)
    (s_seq (s_blk 1 (s_seq (s_decI 1 (e_k (nI 0)))
    (s_while C_X9_changes_2 W_X9_changes_2)))
    (s_putop 7 6 (e_r 0) (fun x z => x + z) (e_k (nI 1))))))
    s_ret0)
def M_X9_changes : sSem := m_ofV 7 1 B_X9_changes
set_option maxRecDepth 100000 in
set_option maxHeartbeats 4000000 in
theorem S_X9_changes : sSS (cX9_changes, wsX9_changes, RX9, none, 0, 0, 2, vwCl, RX6, false) 0 0 B_X9_changes :=
  (ss_seq (pcA := 103) (ss_seq (pcA := 8) (ss_if (pcT := 7) (pcF := 8) (sc_Fne0 (pcB := 4) (se_get (pcA := 1) (T := TX9) (k := 7) (index := 43) (se_aload_n dX9_changes_0 rfl rfl) rfl in_X9_changes_X9 (Nat.le_of_ble_eq_true rfl) lk_X9_changes_43 rfl dX9_changes_1 rfl) dX9_changes_4 rfl rfl)
    (ss_ret0 dX9_changes_7 rfl) ss_skip)
    (ss_seq (pcA := 57) (ss_if (pcT := 16) (pcF := 57) (sc_Feq (pcA := 12) (pcB := 13) (se_get (pcA := 9) (T := TX9) (k := 6) (index := 47) (se_aload_n dX9_changes_8 rfl rfl) rfl in_X9_changes_X9 (Nat.le_of_ble_eq_true rfl) lk_X9_changes_47 rfl dX9_changes_9 rfl) (se_iconst dX9_changes_12 (by decide +kernel) rfl) dX9_changes_13 rfl rfl)
    (ss_seq (pcA := 47) (ss_blk (ss_seq (pcA := 18) (ss_decI_n (pcA := 17) (se_iconst dX9_changes_16 (by decide +kernel) rfl) dX9_changes_17 rfl (Nat.le_of_ble_eq_true rfl) rfl)
    (ss_while (pcB := 25) (sc_Flt (pcA := 19) (pcB := 22) (se_iload_n dX9_changes_18 rfl rfl) (se_sipush dX9_changes_19 (by decide +kernel) rfl) dX9_changes_22 rfl rfl)
    (ss_seq (pcA := 41) (ss_ast (pcA := 29) (pcI := 30) (pcB := 40) (se_getR (pcA := 26) (T := TX9) (k := 1) (index := 13) (se_aload_n dX9_changes_25 rfl rfl) rfl in_X9_changes_X9 (Nat.le_of_ble_eq_true rfl) lk_X9_changes_13 rfl dX9_changes_26 rfl) (se_iload_n dX9_changes_29 rfl rfl) (se_ald (pcA := 34) (pcB := 39) (se_getR (pcA := 31) (T := TX9) (k := 1) (index := 13) (se_aload_n dX9_changes_30 rfl rfl) rfl in_X9_changes_X9 (Nat.le_of_ble_eq_true rfl) lk_X9_changes_13 rfl dX9_changes_31 rfl) (se_add (pcA := 35) (pcB := 38) (se_iload_n dX9_changes_34 rfl rfl) (se_sipush dX9_changes_35 (by decide +kernel) rfl) dX9_changes_38 rfl) dX9_changes_39 rfl) dX9_changes_40 rfl)
    (ss_goto (pcG := 44) (ss_inc dX9_changes_41 (Nat.le_of_ble_eq_true rfl) (by decide +kernel) rfl) dX9_changes_44 rfl)))))
    (ss_putop (pcA := 48) (pcD := 49) (pcG := 52) (pcB := 53) (pcO := 54) (T := TX9) (index := 47) (se_aload_n dX9_changes_47 rfl rfl) dX9_changes_48 rfl rfl in_X9_changes_X9 tyX9 tyX9_ok nmX9 (Nat.le_of_ble_eq_true rfl) lk_X9_changes_47 rfl dX9_changes_49 rfl (se_iconst dX9_changes_52 (by decide +kernel) rfl) (Or.inr ⟨dX9_changes_53, rfl⟩) rfl rfl rfl dX9_changes_54 rfl)) ss_skip)
    (ss_seq (pcA := 93) (ss_blk (ss_seq (pcA := 59) (ss_decI_n (pcA := 58) (se_iconst dX9_changes_57 (by decide +kernel) rfl) dX9_changes_58 rfl (Nat.le_of_ble_eq_true rfl) rfl)
    (ss_while (pcB := 66) (sc_Flt (pcA := 60) (pcB := 63) (se_iload_n dX9_changes_59 rfl rfl) (se_sipush dX9_changes_60 (by decide +kernel) rfl) dX9_changes_63 rfl rfl)
    (ss_seq (pcA := 87) (ss_ast (pcA := 70) (pcI := 80) (pcB := 86) (se_getR (pcA := 67) (T := TX9) (k := 1) (index := 13) (se_aload_n dX9_changes_66 rfl rfl) rfl in_X9_changes_X9 (Nat.le_of_ble_eq_true rfl) lk_X9_changes_13 rfl dX9_changes_67 rfl) (se_add (pcA := 78) (pcB := 79) (se_mul (pcA := 73) (pcB := 77) (se_sipush dX9_changes_70 (by decide +kernel) rfl) (se_get (pcA := 74) (T := TX9) (k := 6) (index := 47) (se_aload_n dX9_changes_73 rfl rfl) rfl in_X9_changes_X9 (Nat.le_of_ble_eq_true rfl) lk_X9_changes_47 rfl dX9_changes_74 rfl) dX9_changes_77 rfl) (se_iload_n dX9_changes_78 rfl rfl) dX9_changes_79 rfl) (se_ald (pcA := 84) (pcB := 85) (se_getR (pcA := 81) (T := TX9) (k := 0) (index := 7) (se_aload_n dX9_changes_80 rfl rfl) rfl in_X9_changes_X9 (Nat.le_of_ble_eq_true rfl) lk_X9_changes_7 rfl dX9_changes_81 rfl) (se_iload_n dX9_changes_84 rfl rfl) dX9_changes_85 rfl) dX9_changes_86 rfl)
    (ss_goto (pcG := 90) (ss_inc dX9_changes_87 (Nat.le_of_ble_eq_true rfl) (by decide +kernel) rfl) dX9_changes_90 rfl)))))
    (ss_putop (pcA := 94) (pcD := 95) (pcG := 98) (pcB := 99) (pcO := 100) (T := TX9) (index := 47) (se_aload_n dX9_changes_93 rfl rfl) dX9_changes_94 rfl rfl in_X9_changes_X9 tyX9 tyX9_ok nmX9 (Nat.le_of_ble_eq_true rfl) lk_X9_changes_47 rfl dX9_changes_95 rfl (se_iconst dX9_changes_98 (by decide +kernel) rfl) (Or.inl ⟨dX9_changes_99, rfl⟩) rfl rfl rfl dX9_changes_100 rfl))))
    (ss_ret0 dX9_changes_103 rfl))
theorem T_X9_changes : sMet vwCl RX6 yX9_changes wsX9_changes 0 0 M_X9_changes := sMet_of rfl (by decide +kernel) rfl rfl (fun h => by cases h) (m_ofV_run _ _ _) S_X9_changes (m_ofV_cat _ _ _ (Nat.le_of_ble_eq_true rfl))
theorem in_X9_putsAside_X9 : ∀ w ∈ u_ws RX9 TX9 18, w ∈ wsX9_putsAside := by decide +kernel
theorem lk_X9_putsAside_19 : Cond.fieldLink RX9 19 RX9 "spare" "[I" ∈ wsX9_putsAside := by decide +kernel
theorem lk_X9_putsAside_7 : Cond.fieldLink RX9 7 RX9 "s" "[I" ∈ wsX9_putsAside := by decide +kernel
abbrev C_X9_putsAside_1 : sCd := (c_cmp i_lt (e_i 1) (e_k (nI 1245)))
abbrev W_X9_putsAside_1 : sStm :=
  (s_seq (s_ast (e_getR 7 3 (e_r 0)) (e_i 1) (e_ald (e_getR 7 0 (e_r 0)) (e_i 1)))
    (s_inc 1 (nI 1)))
def B_X9_putsAside : sStm :=
  (s_seq (s_blk 1 (s_seq (s_decI 1 (e_k (nI 0)))
    (s_while C_X9_putsAside_1 W_X9_putsAside_1)))
    s_ret0)
def M_X9_putsAside : sSem := m_ofV 7 1 B_X9_putsAside
set_option maxRecDepth 100000 in
set_option maxHeartbeats 4000000 in
theorem S_X9_putsAside : sSS (cX9_putsAside, wsX9_putsAside, RX9, none, 0, 0, 2, vwCl, RX6, false) 0 0 B_X9_putsAside :=
  (ss_seq (pcA := 27) (ss_blk (ss_seq (pcA := 2) (ss_decI_n (pcA := 1) (se_iconst dX9_putsAside_0 (by decide +kernel) rfl) dX9_putsAside_1 rfl (Nat.le_of_ble_eq_true rfl) rfl)
    (ss_while (pcB := 9) (sc_Flt (pcA := 3) (pcB := 6) (se_iload_n dX9_putsAside_2 rfl rfl) (se_sipush dX9_putsAside_3 (by decide +kernel) rfl) dX9_putsAside_6 rfl rfl)
    (ss_seq (pcA := 21) (ss_ast (pcA := 13) (pcI := 14) (pcB := 20) (se_getR (pcA := 10) (T := TX9) (k := 3) (index := 19) (se_aload_n dX9_putsAside_9 rfl rfl) rfl in_X9_putsAside_X9 (Nat.le_of_ble_eq_true rfl) lk_X9_putsAside_19 rfl dX9_putsAside_10 rfl) (se_iload_n dX9_putsAside_13 rfl rfl) (se_ald (pcA := 18) (pcB := 19) (se_getR (pcA := 15) (T := TX9) (k := 0) (index := 7) (se_aload_n dX9_putsAside_14 rfl rfl) rfl in_X9_putsAside_X9 (Nat.le_of_ble_eq_true rfl) lk_X9_putsAside_7 rfl dX9_putsAside_15 rfl) (se_iload_n dX9_putsAside_18 rfl rfl) dX9_putsAside_19 rfl) dX9_putsAside_20 rfl)
    (ss_goto (pcG := 24) (ss_inc dX9_putsAside_21 (Nat.le_of_ble_eq_true rfl) (by decide +kernel) rfl) dX9_putsAside_24 rfl)))))
    (ss_ret0 dX9_putsAside_27 rfl))
theorem T_X9_putsAside : sMet vwCl RX6 yX9_putsAside wsX9_putsAside 0 0 M_X9_putsAside := sMet_of rfl (by decide +kernel) rfl rfl (fun h => by cases h) (m_ofV_run _ _ _) S_X9_putsAside (m_ofV_cat _ _ _ (Nat.le_of_ble_eq_true rfl))
theorem in_X9_putsBack_X9 : ∀ w ∈ u_ws RX9 TX9 18, w ∈ wsX9_putsBack := by decide +kernel
theorem lk_X9_putsBack_7 : Cond.fieldLink RX9 7 RX9 "s" "[I" ∈ wsX9_putsBack := by decide +kernel
theorem lk_X9_putsBack_19 : Cond.fieldLink RX9 19 RX9 "spare" "[I" ∈ wsX9_putsBack := by decide +kernel
abbrev C_X9_putsBack_1 : sCd := (c_cmp i_lt (e_i 1) (e_k (nI 1245)))
abbrev W_X9_putsBack_1 : sStm :=
  (s_seq (s_ast (e_getR 7 0 (e_r 0)) (e_i 1) (e_ald (e_getR 7 3 (e_r 0)) (e_i 1)))
    (s_inc 1 (nI 1)))
def B_X9_putsBack : sStm :=
  (s_seq (s_blk 1 (s_seq (s_decI 1 (e_k (nI 0)))
    (s_while C_X9_putsBack_1 W_X9_putsBack_1)))
    s_ret0)
def M_X9_putsBack : sSem := m_ofV 7 1 B_X9_putsBack
set_option maxRecDepth 100000 in
set_option maxHeartbeats 4000000 in
theorem S_X9_putsBack : sSS (cX9_putsBack, wsX9_putsBack, RX9, none, 0, 0, 2, vwCl, RX6, false) 0 0 B_X9_putsBack :=
  (ss_seq (pcA := 27) (ss_blk (ss_seq (pcA := 2) (ss_decI_n (pcA := 1) (se_iconst dX9_putsBack_0 (by decide +kernel) rfl) dX9_putsBack_1 rfl (Nat.le_of_ble_eq_true rfl) rfl)
    (ss_while (pcB := 9) (sc_Flt (pcA := 3) (pcB := 6) (se_iload_n dX9_putsBack_2 rfl rfl) (se_sipush dX9_putsBack_3 (by decide +kernel) rfl) dX9_putsBack_6 rfl rfl)
    (ss_seq (pcA := 21) (ss_ast (pcA := 13) (pcI := 14) (pcB := 20) (se_getR (pcA := 10) (T := TX9) (k := 0) (index := 7) (se_aload_n dX9_putsBack_9 rfl rfl) rfl in_X9_putsBack_X9 (Nat.le_of_ble_eq_true rfl) lk_X9_putsBack_7 rfl dX9_putsBack_10 rfl) (se_iload_n dX9_putsBack_13 rfl rfl) (se_ald (pcA := 18) (pcB := 19) (se_getR (pcA := 15) (T := TX9) (k := 3) (index := 19) (se_aload_n dX9_putsBack_14 rfl rfl) rfl in_X9_putsBack_X9 (Nat.le_of_ble_eq_true rfl) lk_X9_putsBack_19 rfl dX9_putsBack_15 rfl) (se_iload_n dX9_putsBack_18 rfl rfl) dX9_putsBack_19 rfl) dX9_putsBack_20 rfl)
    (ss_goto (pcG := 24) (ss_inc dX9_putsBack_21 (Nat.le_of_ble_eq_true rfl) (by decide +kernel) rfl) dX9_putsBack_24 rfl)))))
    (ss_ret0 dX9_putsBack_27 rfl))
theorem T_X9_putsBack : sMet vwCl RX6 yX9_putsBack wsX9_putsBack 0 0 M_X9_putsBack := sMet_of rfl (by decide +kernel) rfl rfl (fun h => by cases h) (m_ofV_run _ _ _) S_X9_putsBack (m_ofV_cat _ _ _ (Nat.le_of_ble_eq_true rfl))
theorem in_X9_of_X9 : ∀ w ∈ u_ws RX9 TX9 18, w ∈ wsX9_of := by decide +kernel
theorem lk_X9_of_7 : Cond.fieldLink RX9 7 RX9 "s" "[I" ∈ wsX9_of := by decide +kernel
def B_X9_of : sStm :=
  (s_retI (e_ald (e_getR 7 0 (e_r 0)) (e_add (e_k (nI 4)) (e_i 1))))
def M_X9_of : sSem := m_ofV 7 2 B_X9_of
set_option maxRecDepth 100000 in
set_option maxHeartbeats 4000000 in
theorem S_X9_of : sSS (cX9_of, wsX9_of, RX9, (some .int), 0, 0, 2, vwCl, RX6, false) 0 0 B_X9_of :=
  (ss_retI (pcA := 8) (se_ald (pcA := 4) (pcB := 7) (se_getR (pcA := 1) (T := TX9) (k := 0) (index := 7) (se_aload_n dX9_of_0 rfl rfl) rfl in_X9_of_X9 (Nat.le_of_ble_eq_true rfl) lk_X9_of_7 rfl dX9_of_1 rfl) (se_add (pcA := 5) (pcB := 6) (se_iconst dX9_of_4 (by decide +kernel) rfl) (se_iload_n dX9_of_5 rfl rfl) dX9_of_6 rfl) dX9_of_7 rfl) dX9_of_8 rfl)
theorem T_X9_of : sMet vwCl RX6 yX9_of wsX9_of 0 0 M_X9_of := sMet_of rfl (by decide +kernel) rfl rfl (fun h => by cases h) (m_ofV_run _ _ _) S_X9_of (m_ofV_cat _ _ _ (Nat.le_of_ble_eq_true rfl))
theorem in_X9_isStep_X9 : ∀ w ∈ u_ws RX9 TX9 18, w ∈ wsX9_isStep := by decide +kernel
theorem lk_X9_isStep_7 : Cond.fieldLink RX9 7 RX9 "s" "[I" ∈ wsX9_isStep := by decide +kernel
def B_X9_isStep : sStm :=
  (s_retZ (e_callI M_X9_in (a_ci (e_i 1) (a_ci (e_k (nI 0)) (a_ci (e_sub (e_ald (e_getR 7 0 (e_r 0)) (e_k (nI 2))) (e_k (nI 1))) a_nil)))))
def M_X9_isStep : sSem := m_ofV 7 2 B_X9_isStep
set_option maxRecDepth 100000 in
set_option maxHeartbeats 4000000 in
theorem S_X9_isStep : sSS (cX9_isStep, wsX9_isStep, RX9, (some .boolean), 1, 22, 2, vwCl, RX6, false) 0 0 B_X9_isStep :=
  (ss_retZ (pcA := 13) (se_callSI (pcA := 10) (index := 51) (sa_ci (pcA := 1) (se_iload_n dX9_isStep_0 rfl rfl) (sa_ci (pcA := 2) (se_iconst dX9_isStep_1 (by decide +kernel) rfl) (sa_ci (pcA := 10) (se_sub (pcA := 8) (pcB := 9) (se_ald (pcA := 6) (pcB := 7) (se_getR (pcA := 3) (T := TX9) (k := 0) (index := 7) (se_aload_n dX9_isStep_2 rfl rfl) rfl in_X9_isStep_X9 (Nat.le_of_ble_eq_true rfl) lk_X9_isStep_7 rfl dX9_isStep_3 rfl) (se_iconst dX9_isStep_6 (by decide +kernel) rfl) dX9_isStep_7 rfl) (se_iconst dX9_isStep_8 (by decide +kernel) rfl) dX9_isStep_9 rfl) sa_nil))) T_X9_in gX9_isStep_X9_in rfl (by decide +kernel) (Nat.le_of_ble_eq_true rfl) (Nat.le_of_ble_eq_true rfl) (s_LenI (s_LenI (s_LenI s_Len0))) (Nat.le_of_ble_eq_true rfl) dX9_isStep_10 rfl) dX9_isStep_13 rfl)
theorem T_X9_isStep : sMet vwCl RX6 yX9_isStep wsX9_isStep 1 22 M_X9_isStep := sMet_of rfl (by decide +kernel) rfl rfl (fun h => by cases h) (m_ofV_run _ _ _) S_X9_isStep (m_ofV_cat _ _ _ (Nat.le_of_ble_eq_true rfl))
theorem in_X9_rank_X9 : ∀ w ∈ u_ws RX9 TX9 18, w ∈ wsX9_rank := by decide +kernel
theorem lk_X9_rank_22 : Cond.fieldLink RX9 22 RX9 "primes" "[I" ∈ wsX9_rank := by decide +kernel
abbrev C_X9_rank_1 : sCd := (c_cmp i_lt (e_i 2) (e_i 3))
abbrev W_X9_rank_1 : sStm :=
  (s_blk 4 (s_seq (s_decI 4 (e_div (e_add (e_i 2) (e_i 3)) (e_k (nI 2))))
    (s_seq (s_setI 2 (e_if (c_cmp i_lt (e_ald (e_getR 7 4 (e_r 0)) (e_i 4)) (e_i 1)) (e_add (e_i 4) (e_k (nI 1))) (e_i 2)))
    (s_setI 3 (e_if (c_cmp i_lt (e_ald (e_getR 7 4 (e_r 0)) (e_i 4)) (e_i 1)) (e_i 3) (e_i 4))))))
def B_X9_rank : sStm :=
  (s_seq (s_decI 2 (e_k (nI 0)))
    (s_seq (s_decI 3 (e_k (nI 1228)))
    (s_seq (s_while C_X9_rank_1 W_X9_rank_1)
    (s_retI (e_if (c_cmp i_eq (e_ald (e_getR 7 4 (e_r 0)) (e_i 2)) (e_i 1)) (e_i 2) (e_k (-4)))))))
def M_X9_rank : sSem := m_ofV 7 2 B_X9_rank
set_option maxRecDepth 100000 in
set_option maxHeartbeats 4000000 in
theorem S_X9_rank : sSS (cX9_rank, wsX9_rank, RX9, (some .int), 0, 0, 5, vwCl, RX6, false) 0 0 B_X9_rank :=
  (ss_seq (pcA := 2) (ss_decI_n (pcA := 1) (se_iconst dX9_rank_0 (by decide +kernel) rfl) dX9_rank_1 rfl (Nat.le_of_ble_eq_true rfl) rfl)
    (ss_seq (pcA := 6) (ss_decI_n (pcA := 5) (se_sipush dX9_rank_2 (by decide +kernel) rfl) dX9_rank_5 rfl (Nat.le_of_ble_eq_true rfl) rfl)
    (ss_seq (pcA := 59) (ss_while (pcB := 11) (sc_Flt (pcA := 7) (pcB := 8) (se_iload_n dX9_rank_6 rfl rfl) (se_iload_n dX9_rank_7 rfl rfl) dX9_rank_8 rfl rfl)
    (ss_blk (ss_seq (pcA := 18) (ss_decI (pcA := 16) (se_div (pcA := 14) (pcB := 15) (se_add (pcA := 12) (pcB := 13) (se_iload_n dX9_rank_11 rfl rfl) (se_iload_n dX9_rank_12 rfl rfl) dX9_rank_13 rfl) (se_iconst dX9_rank_14 (by decide +kernel) rfl) dX9_rank_15 rfl) dX9_rank_16 (Nat.le_of_ble_eq_true rfl) rfl)
    (ss_seq (pcA := 38) (ss_setI_n (pcA := 37) (se_if (pcT := 29) (pcF := 36) (pcG := 33) (sc_Flt (pcA := 25) (pcB := 26) (se_ald (pcA := 22) (pcB := 24) (se_getR (pcA := 19) (T := TX9) (k := 4) (index := 22) (se_aload_n dX9_rank_18 rfl rfl) rfl in_X9_rank_X9 (Nat.le_of_ble_eq_true rfl) lk_X9_rank_22 rfl dX9_rank_19 rfl) (se_iload dX9_rank_22 rfl) dX9_rank_24 rfl) (se_iload_n dX9_rank_25 rfl rfl) dX9_rank_26 rfl rfl) (se_add (pcA := 31) (pcB := 32) (se_iload dX9_rank_29 rfl) (se_iconst dX9_rank_31 (by decide +kernel) rfl) dX9_rank_32 rfl) dX9_rank_33 rfl (se_iload_n dX9_rank_36 rfl rfl)) dX9_rank_37 rfl (Nat.le_of_ble_eq_true rfl) rfl)
    (ss_goto (pcG := 56) (ss_setI_n (pcA := 55) (se_if (pcT := 49) (pcF := 53) (pcG := 50) (sc_Flt (pcA := 45) (pcB := 46) (se_ald (pcA := 42) (pcB := 44) (se_getR (pcA := 39) (T := TX9) (k := 4) (index := 22) (se_aload_n dX9_rank_38 rfl rfl) rfl in_X9_rank_X9 (Nat.le_of_ble_eq_true rfl) lk_X9_rank_22 rfl dX9_rank_39 rfl) (se_iload dX9_rank_42 rfl) dX9_rank_44 rfl) (se_iload_n dX9_rank_45 rfl rfl) dX9_rank_46 rfl rfl) (se_iload_n dX9_rank_49 rfl rfl) dX9_rank_50 rfl (se_iload dX9_rank_53 rfl)) dX9_rank_55 rfl (Nat.le_of_ble_eq_true rfl) rfl) dX9_rank_56 rfl)))))
    (ss_retI (pcA := 75) (se_if (pcT := 69) (pcF := 73) (pcG := 70) (sc_Feq (pcA := 65) (pcB := 66) (se_ald (pcA := 63) (pcB := 64) (se_getR (pcA := 60) (T := TX9) (k := 4) (index := 22) (se_aload_n dX9_rank_59 rfl rfl) rfl in_X9_rank_X9 (Nat.le_of_ble_eq_true rfl) lk_X9_rank_22 rfl dX9_rank_60 rfl) (se_iload_n dX9_rank_63 rfl rfl) dX9_rank_64 rfl) (se_iload_n dX9_rank_65 rfl rfl) dX9_rank_66 rfl rfl) (se_iload_n dX9_rank_69 rfl rfl) dX9_rank_70 rfl (se_bipush dX9_rank_73 (by decide +kernel) rfl)) dX9_rank_75 rfl))))
theorem T_X9_rank : sMet vwCl RX6 yX9_rank wsX9_rank 0 0 M_X9_rank := sMet_of rfl (by decide +kernel) rfl rfl (fun h => by cases h) (m_ofV_run _ _ _) S_X9_rank (m_ofV_cat _ _ _ (Nat.le_of_ble_eq_true rfl))
abbrev C_X9_divisor_1 : sCd := (c_cmp0 i_gt (e_i 3))
abbrev W_X9_divisor_1 : sStm :=
  (s_blk 4 (s_seq (s_decI 4 (e_rem (e_i 2) (e_i 3)))
    (s_seq (s_setI 2 (e_i 3))
    (s_setI 3 (e_i 4)))))
def B_X9_divisor : sStm :=
  (s_seq (s_decI 2 (e_i 0))
    (s_seq (s_decI 3 (e_i 1))
    (s_seq (s_while C_X9_divisor_1 W_X9_divisor_1)
    (s_retI (e_i 2)))))
def M_X9_divisor : sSem := m_of 2 B_X9_divisor
set_option maxRecDepth 100000 in
set_option maxHeartbeats 4000000 in
theorem S_X9_divisor : sSS (cX9_divisor, wsX9_divisor, RX9, (some .int), 0, 0, 5, vwCl, RX6, false) 0 0 B_X9_divisor :=
  (ss_seq (pcA := 2) (ss_decI_n (pcA := 1) (se_iload_n dX9_divisor_0 rfl rfl) dX9_divisor_1 rfl (Nat.le_of_ble_eq_true rfl) rfl)
    (ss_seq (pcA := 4) (ss_decI_n (pcA := 3) (se_iload_n dX9_divisor_2 rfl rfl) dX9_divisor_3 rfl (Nat.le_of_ble_eq_true rfl) rfl)
    (ss_seq (pcA := 21) (ss_while (pcB := 8) (sc_Fgt0 (pcB := 5) (se_iload_n dX9_divisor_4 rfl rfl) dX9_divisor_5 rfl rfl)
    (ss_blk (ss_seq (pcA := 13) (ss_decI (pcA := 11) (se_rem (pcA := 9) (pcB := 10) (se_iload_n dX9_divisor_8 rfl rfl) (se_iload_n dX9_divisor_9 rfl rfl) dX9_divisor_10 rfl) dX9_divisor_11 (Nat.le_of_ble_eq_true rfl) rfl)
    (ss_seq (pcA := 15) (ss_setI_n (pcA := 14) (se_iload_n dX9_divisor_13 rfl rfl) dX9_divisor_14 rfl (Nat.le_of_ble_eq_true rfl) rfl)
    (ss_goto (pcG := 18) (ss_setI_n (pcA := 17) (se_iload dX9_divisor_15 rfl) dX9_divisor_17 rfl (Nat.le_of_ble_eq_true rfl) rfl) dX9_divisor_18 rfl)))))
    (ss_retI (pcA := 22) (se_iload_n dX9_divisor_21 rfl rfl) dX9_divisor_22 rfl))))
theorem T_X9_divisor : sMet vwCl RX6 yX9_divisor wsX9_divisor 0 0 M_X9_divisor := sMet_of rfl (by decide +kernel) rfl rfl (fun h => by cases h) (m_of_run _ _) S_X9_divisor (m_of_cat _ _ (Nat.le_of_ble_eq_true rfl))
abbrev C_X9_exponent_1 : sCd := (c_cmp0 i_eq (e_rem (e_i 2) (e_i 1)))
abbrev W_X9_exponent_1 : sStm :=
  (s_seq (s_setI 2 (e_div (e_i 2) (e_i 1)))
    (s_inc 3 (nI 1)))
def B_X9_exponent : sStm :=
  (s_seq (s_decI 2 (e_i 0))
    (s_seq (s_decI 3 (e_k (nI 0)))
    (s_seq (s_while C_X9_exponent_1 W_X9_exponent_1)
    (s_retI (e_i 3)))))
def M_X9_exponent : sSem := m_of 2 B_X9_exponent
set_option maxRecDepth 100000 in
set_option maxHeartbeats 4000000 in
theorem S_X9_exponent : sSS (cX9_exponent, wsX9_exponent, RX9, (some .int), 0, 0, 4, vwCl, RX6, false) 0 0 B_X9_exponent :=
  (ss_seq (pcA := 2) (ss_decI_n (pcA := 1) (se_iload_n dX9_exponent_0 rfl rfl) dX9_exponent_1 rfl (Nat.le_of_ble_eq_true rfl) rfl)
    (ss_seq (pcA := 4) (ss_decI_n (pcA := 3) (se_iconst dX9_exponent_2 (by decide +kernel) rfl) dX9_exponent_3 rfl (Nat.le_of_ble_eq_true rfl) rfl)
    (ss_seq (pcA := 20) (ss_while (pcB := 10) (sc_Feq0 (pcB := 7) (se_rem (pcA := 5) (pcB := 6) (se_iload_n dX9_exponent_4 rfl rfl) (se_iload_n dX9_exponent_5 rfl rfl) dX9_exponent_6 rfl) dX9_exponent_7 rfl rfl)
    (ss_seq (pcA := 14) (ss_setI_n (pcA := 13) (se_div (pcA := 11) (pcB := 12) (se_iload_n dX9_exponent_10 rfl rfl) (se_iload_n dX9_exponent_11 rfl rfl) dX9_exponent_12 rfl) dX9_exponent_13 rfl (Nat.le_of_ble_eq_true rfl) rfl)
    (ss_goto (pcG := 17) (ss_inc dX9_exponent_14 (Nat.le_of_ble_eq_true rfl) (by decide +kernel) rfl) dX9_exponent_17 rfl)))
    (ss_retI (pcA := 21) (se_iload_n dX9_exponent_20 rfl rfl) dX9_exponent_21 rfl))))
theorem T_X9_exponent : sMet vwCl RX6 yX9_exponent wsX9_exponent 0 0 M_X9_exponent := sMet_of rfl (by decide +kernel) rfl rfl (fun h => by cases h) (m_of_run _ _) S_X9_exponent (m_of_cat _ _ (Nat.le_of_ble_eq_true rfl))
abbrev C_X9_leastFactor_1 : sCd := (c_cmp0 i_ne (e_rem (e_i 0) (e_i 1)))
abbrev W_X9_leastFactor_1 : sStm :=
  (s_inc 1 (nI 1))
def B_X9_leastFactor : sStm :=
  (s_seq (s_decI 1 (e_k (nI 2)))
    (s_seq (s_while C_X9_leastFactor_1 W_X9_leastFactor_1)
    (s_retI (e_i 1))))
def M_X9_leastFactor : sSem := m_of 1 B_X9_leastFactor
set_option maxRecDepth 100000 in
set_option maxHeartbeats 4000000 in
theorem S_X9_leastFactor : sSS (cX9_leastFactor, wsX9_leastFactor, RX9, (some .int), 0, 0, 2, vwCl, RX6, false) 0 0 B_X9_leastFactor :=
  (ss_seq (pcA := 2) (ss_decI_n (pcA := 1) (se_iconst dX9_leastFactor_0 (by decide +kernel) rfl) dX9_leastFactor_1 rfl (Nat.le_of_ble_eq_true rfl) rfl)
    (ss_seq (pcA := 14) (ss_while (pcB := 8) (sc_Fne0 (pcB := 5) (se_rem (pcA := 3) (pcB := 4) (se_iload_n dX9_leastFactor_2 rfl rfl) (se_iload_n dX9_leastFactor_3 rfl rfl) dX9_leastFactor_4 rfl) dX9_leastFactor_5 rfl rfl)
    (ss_goto (pcG := 11) (ss_inc dX9_leastFactor_8 (Nat.le_of_ble_eq_true rfl) (by decide +kernel) rfl) dX9_leastFactor_11 rfl))
    (ss_retI (pcA := 15) (se_iload_n dX9_leastFactor_14 rfl rfl) dX9_leastFactor_15 rfl)))
theorem T_X9_leastFactor : sMet vwCl RX6 yX9_leastFactor wsX9_leastFactor 0 0 M_X9_leastFactor := sMet_of rfl (by decide +kernel) rfl rfl (fun h => by cases h) (m_of_run _ _) S_X9_leastFactor (m_of_cat _ _ (Nat.le_of_ble_eq_true rfl))
abbrev C_X9_factorOf_1 : sCd := (c_cmp i_gt (e_i 2) (e_k (nI 1)))
abbrev W_X9_factorOf_1 : sStm :=
  (s_seq (s_blk 4 (s_seq (s_decI 4 (e_callI M_X9_leastFactor (a_ci (e_i 2) a_nil)))
    (s_seq (s_if (c_cmp i_eq (e_i 3) (e_i 1))
    (s_retI (e_i 4)) s_skip)
    (s_setI 2 (e_div (e_i 2) (e_i 4))))))
    (s_inc 3 (nI 1)))
def B_X9_factorOf : sStm :=
  (s_seq (s_decI 2 (e_i 0))
    (s_seq (s_blk 3 (s_seq (s_decI 3 (e_k (nI 0)))
    (s_while C_X9_factorOf_1 W_X9_factorOf_1)))
    (s_retI (e_k (-4)))))
def M_X9_factorOf : sSem := m_of 2 B_X9_factorOf
set_option maxRecDepth 100000 in
set_option maxHeartbeats 4000000 in
theorem S_X9_factorOf : sSS (cX9_factorOf, wsX9_factorOf, RX9, (some .int), 1, 21, 5, vwCl, RX6, false) 0 0 B_X9_factorOf :=
  (ss_seq (pcA := 2) (ss_decI_n (pcA := 1) (se_iload_n dX9_factorOf_0 rfl rfl) dX9_factorOf_1 rfl (Nat.le_of_ble_eq_true rfl) rfl)
    (ss_seq (pcA := 34) (ss_blk (ss_seq (pcA := 4) (ss_decI_n (pcA := 3) (se_iconst dX9_factorOf_2 (by decide +kernel) rfl) dX9_factorOf_3 rfl (Nat.le_of_ble_eq_true rfl) rfl)
    (ss_while (pcB := 9) (sc_Fgt (pcA := 5) (pcB := 6) (se_iload_n dX9_factorOf_4 rfl rfl) (se_iconst dX9_factorOf_5 (by decide +kernel) rfl) dX9_factorOf_6 rfl rfl)
    (ss_seq (pcA := 28) (ss_blk (ss_seq (pcA := 15) (ss_decI (pcA := 13) (se_callSI (pcA := 10) (index := 55) (sa_ci (pcA := 10) (se_iload_n dX9_factorOf_9 rfl rfl) sa_nil) T_X9_leastFactor gX9_factorOf_X9_leastFactor rfl (by decide +kernel) (Nat.le_of_ble_eq_true rfl) (Nat.le_of_ble_eq_true rfl) (s_LenI s_Len0) (Nat.le_of_ble_eq_true rfl) dX9_factorOf_10 rfl) dX9_factorOf_13 (Nat.le_of_ble_eq_true rfl) rfl)
    (ss_seq (pcA := 23) (ss_if (pcT := 20) (pcF := 23) (sc_Feq (pcA := 16) (pcB := 17) (se_iload_n dX9_factorOf_15 rfl rfl) (se_iload_n dX9_factorOf_16 rfl rfl) dX9_factorOf_17 rfl rfl)
    (ss_retI (pcA := 22) (se_iload dX9_factorOf_20 rfl) dX9_factorOf_22 rfl) ss_skip)
    (ss_setI_n (pcA := 27) (se_div (pcA := 24) (pcB := 26) (se_iload_n dX9_factorOf_23 rfl rfl) (se_iload dX9_factorOf_24 rfl) dX9_factorOf_26 rfl) dX9_factorOf_27 rfl (Nat.le_of_ble_eq_true rfl) rfl))))
    (ss_goto (pcG := 31) (ss_inc dX9_factorOf_28 (Nat.le_of_ble_eq_true rfl) (by decide +kernel) rfl) dX9_factorOf_31 rfl)))))
    (ss_retI (pcA := 36) (se_bipush dX9_factorOf_34 (by decide +kernel) rfl) dX9_factorOf_36 rfl)))
theorem T_X9_factorOf : sMet vwCl RX6 yX9_factorOf wsX9_factorOf 1 21 M_X9_factorOf := sMet_of rfl (by decide +kernel) rfl rfl (fun h => by cases h) (m_of_run _ _) S_X9_factorOf (m_of_cat _ _ (Nat.le_of_ble_eq_true rfl))
abbrev C_X9_factors_1 : sCd := (c_and (c_not (c_cmp0 i_ne (e_i 1))) (c_cmp0 i_eq (e_rem (e_i 2) (e_i 4))))
abbrev W_X9_factors_1 : sStm :=
  (s_setI 2 (e_div (e_i 2) (e_i 4)))
abbrev C_X9_factors_2 : sCd := (c_cmp i_gt (e_i 2) (e_k (nI 1)))
abbrev W_X9_factors_2 : sStm :=
  (s_blk 4 (s_seq (s_decI 4 (e_callI M_X9_leastFactor (a_ci (e_i 2) a_nil)))
    (s_seq (s_inc 3 (nI 1))
    (s_seq (s_setI 2 (e_div (e_i 2) (e_i 4)))
    (s_while C_X9_factors_1 W_X9_factors_1)))))
def B_X9_factors : sStm :=
  (s_seq (s_decI 2 (e_i 0))
    (s_seq (s_decI 3 (e_k (nI 0)))
    (s_seq (s_while C_X9_factors_2 W_X9_factors_2)
    (s_retI (e_i 3)))))
def M_X9_factors : sSem := m_of 2 B_X9_factors
set_option maxRecDepth 100000 in
set_option maxHeartbeats 4000000 in
theorem S_X9_factors : sSS (cX9_factors, wsX9_factors, RX9, (some .int), 1, 21, 5, vwCl, RX6, false) 0 0 B_X9_factors :=
  (ss_seq (pcA := 2) (ss_decI_n (pcA := 1) (se_iload_n dX9_factors_0 rfl rfl) dX9_factors_1 rfl (Nat.le_of_ble_eq_true rfl) rfl)
    (ss_seq (pcA := 4) (ss_decI_n (pcA := 3) (se_iconst dX9_factors_2 (by decide +kernel) rfl) dX9_factors_3 rfl (Nat.le_of_ble_eq_true rfl) rfl)
    (ss_seq (pcA := 45) (ss_while (pcB := 9) (sc_Fgt (pcA := 5) (pcB := 6) (se_iload_n dX9_factors_4 rfl rfl) (se_iconst dX9_factors_5 (by decide +kernel) rfl) dX9_factors_6 rfl rfl)
    (ss_blk (ss_seq (pcA := 15) (ss_decI (pcA := 13) (se_callSI (pcA := 10) (index := 55) (sa_ci (pcA := 10) (se_iload_n dX9_factors_9 rfl rfl) sa_nil) T_X9_leastFactor gX9_factors_X9_leastFactor rfl (by decide +kernel) (Nat.le_of_ble_eq_true rfl) (Nat.le_of_ble_eq_true rfl) (s_LenI s_Len0) (Nat.le_of_ble_eq_true rfl) dX9_factors_10 rfl) dX9_factors_13 (Nat.le_of_ble_eq_true rfl) rfl)
    (ss_seq (pcA := 18) (ss_inc dX9_factors_15 (Nat.le_of_ble_eq_true rfl) (by decide +kernel) rfl)
    (ss_seq (pcA := 23) (ss_setI_n (pcA := 22) (se_div (pcA := 19) (pcB := 21) (se_iload_n dX9_factors_18 rfl rfl) (se_iload dX9_factors_19 rfl) dX9_factors_21 rfl) dX9_factors_22 rfl (Nat.le_of_ble_eq_true rfl) rfl)
    (ss_goto (pcG := 42) (ss_while (pcB := 34) (sc_and (pcA := 27) (sc_not (sc_Tne0 (pcB := 24) (se_iload_n dX9_factors_23 rfl rfl) dX9_factors_24 rfl rfl)) (sc_Feq0 (pcB := 31) (se_rem (pcA := 28) (pcB := 30) (se_iload_n dX9_factors_27 rfl rfl) (se_iload dX9_factors_28 rfl) dX9_factors_30 rfl) dX9_factors_31 rfl rfl))
    (ss_goto (pcG := 39) (ss_setI_n (pcA := 38) (se_div (pcA := 35) (pcB := 37) (se_iload_n dX9_factors_34 rfl rfl) (se_iload dX9_factors_35 rfl) dX9_factors_37 rfl) dX9_factors_38 rfl (Nat.le_of_ble_eq_true rfl) rfl) dX9_factors_39 rfl)) dX9_factors_42 rfl))))))
    (ss_retI (pcA := 46) (se_iload_n dX9_factors_45 rfl rfl) dX9_factors_46 rfl))))
theorem T_X9_factors : sMet vwCl RX6 yX9_factors wsX9_factors 1 21 M_X9_factors := sMet_of rfl (by decide +kernel) rfl rfl (fun h => by cases h) (m_of_run _ _) S_X9_factors (m_of_cat _ _ (Nat.le_of_ble_eq_true rfl))
theorem in_X9_areKin_X9 : ∀ w ∈ u_ws RX9 TX9 18, w ∈ wsX9_areKin := by decide +kernel
theorem lk_X9_areKin_7 : Cond.fieldLink RX9 7 RX9 "s" "[I" ∈ wsX9_areKin := by decide +kernel
def B_X9_areKin : sStm :=
  (s_seq (s_decI 3 (e_callI M_X9_of (a_cr (e_r 0) (a_ci (e_if (c_cmp i_lt (e_i 1) (e_i 2)) (e_i 1) (e_i 2)) a_nil))))
    (s_seq (s_decI 4 (e_callI M_X9_of (a_cr (e_r 0) (a_ci (e_if (c_cmp i_lt (e_i 1) (e_i 2)) (e_i 2) (e_i 1)) a_nil))))
    (s_seq (s_if (c_cmp i_eq (e_i 1) (e_i 2))
    (s_retZ (e_k (nI 0))) s_skip)
    (s_retZ (e_if (c_cmp0 i_eq (e_ald (e_getR 7 0 (e_r 0)) (e_k (nI 0)))) (e_if (c_cmp i_gt (e_callI M_X9_divisor (a_ci (e_i 3) (a_ci (e_i 4) a_nil))) (e_k (nI 1))) (e_k (nI 1)) (e_k (nI 0))) (e_if (c_or (c_cmp0 i_eq (e_rem (e_i 4) (e_i 3))) (c_and (c_cmp i_eq (e_ald (e_getR 7 0 (e_r 0)) (e_k (nI 0))) (e_k (nI 1))) (c_cmp0 i_eq (e_rem (e_i 3) (e_i 4))))) (e_k (nI 1)) (e_k (nI 0))))))))
def M_X9_areKin : sSem := m_ofV 7 3 B_X9_areKin
set_option maxRecDepth 100000 in
set_option maxHeartbeats 4000000 in
theorem S_X9_areKin : sSS (cX9_areKin, wsX9_areKin, RX9, (some .boolean), 1, 24, 5, vwCl, RX6, false) 0 0 B_X9_areKin :=
  (ss_seq (pcA := 15) (ss_decI_n (pcA := 14) (se_callVI (pcA := 11) (ci := 7) (index := 59) (sa_cr (pcA := 1) (se_aload_n dX9_areKin_0 rfl rfl) (sa_ci (pcA := 11) (se_if (pcT := 6) (pcF := 10) (pcG := 7) (sc_Flt (pcA := 2) (pcB := 3) (se_iload_n dX9_areKin_1 rfl rfl) (se_iload_n dX9_areKin_2 rfl rfl) dX9_areKin_3 rfl rfl) (se_iload_n dX9_areKin_6 rfl rfl) dX9_areKin_7 rfl (se_iload_n dX9_areKin_10 rfl rfl)) sa_nil)) T_X9_of (s_Rcv_of 7 _ _) rfl gX9_areKin_X9_of rfl (by decide +kernel) (Nat.le_of_ble_eq_true rfl) (Nat.le_of_ble_eq_true rfl) (s_LenR (s_LenI s_Len0)) (Nat.le_of_ble_eq_true rfl) dX9_areKin_11 rfl) dX9_areKin_14 rfl (Nat.le_of_ble_eq_true rfl) rfl)
    (ss_seq (pcA := 31) (ss_decI (pcA := 29) (se_callVI (pcA := 26) (ci := 7) (index := 59) (sa_cr (pcA := 16) (se_aload_n dX9_areKin_15 rfl rfl) (sa_ci (pcA := 26) (se_if (pcT := 21) (pcF := 25) (pcG := 22) (sc_Flt (pcA := 17) (pcB := 18) (se_iload_n dX9_areKin_16 rfl rfl) (se_iload_n dX9_areKin_17 rfl rfl) dX9_areKin_18 rfl rfl) (se_iload_n dX9_areKin_21 rfl rfl) dX9_areKin_22 rfl (se_iload_n dX9_areKin_25 rfl rfl)) sa_nil)) T_X9_of (s_Rcv_of 7 _ _) rfl gX9_areKin_X9_of rfl (by decide +kernel) (Nat.le_of_ble_eq_true rfl) (Nat.le_of_ble_eq_true rfl) (s_LenR (s_LenI s_Len0)) (Nat.le_of_ble_eq_true rfl) dX9_areKin_26 rfl) dX9_areKin_29 (Nat.le_of_ble_eq_true rfl) rfl)
    (ss_seq (pcA := 38) (ss_if (pcT := 36) (pcF := 38) (sc_Feq (pcA := 32) (pcB := 33) (se_iload_n dX9_areKin_31 rfl rfl) (se_iload_n dX9_areKin_32 rfl rfl) dX9_areKin_33 rfl rfl)
    (ss_retZ (pcA := 37) (se_iconst dX9_areKin_36 (by decide +kernel) rfl) dX9_areKin_37 rfl) ss_skip)
    (ss_retZ (pcA := 94) (se_ifN (pcT := 47) (pcF := 65) (sc_Feq0 (pcB := 44) (se_ald (pcA := 42) (pcB := 43) (se_getR (pcA := 39) (T := TX9) (k := 0) (index := 7) (se_aload_n dX9_areKin_38 rfl rfl) rfl in_X9_areKin_X9 (Nat.le_of_ble_eq_true rfl) lk_X9_areKin_7 rfl dX9_areKin_39 rfl) (se_iconst dX9_areKin_42 (by decide +kernel) rfl) dX9_areKin_43 rfl) dX9_areKin_44 rfl rfl) (se_if (pcT := 57) (pcF := 61) (pcG := 58) (sc_Fgt (pcA := 53) (pcB := 54) (se_callSI (pcA := 50) (index := 62) (sa_ci (pcA := 48) (se_iload_n dX9_areKin_47 rfl rfl) (sa_ci (pcA := 50) (se_iload dX9_areKin_48 rfl) sa_nil)) T_X9_divisor gX9_areKin_X9_divisor rfl (by decide +kernel) (Nat.le_of_ble_eq_true rfl) (Nat.le_of_ble_eq_true rfl) (s_LenI (s_LenI s_Len0)) (Nat.le_of_ble_eq_true rfl) dX9_areKin_50 rfl) (se_iconst dX9_areKin_53 (by decide +kernel) rfl) dX9_areKin_54 rfl rfl) (se_iconst dX9_areKin_57 (by decide +kernel) rfl) dX9_areKin_58 rfl (se_goto (pcG := 62) (se_iconst dX9_areKin_61 (by decide +kernel) rfl) dX9_areKin_62 rfl)) (se_if (pcT := 89) (pcF := 93) (pcG := 90) (sc_or (pcA := 72) (sc_Teq0 (pcB := 69) (se_rem (pcA := 67) (pcB := 68) (se_iload dX9_areKin_65 rfl) (se_iload_n dX9_areKin_67 rfl rfl) dX9_areKin_68 rfl) dX9_areKin_69 rfl rfl) (sc_and (pcA := 82) (sc_Feq (pcA := 78) (pcB := 79) (se_ald (pcA := 76) (pcB := 77) (se_getR (pcA := 73) (T := TX9) (k := 0) (index := 7) (se_aload_n dX9_areKin_72 rfl rfl) rfl in_X9_areKin_X9 (Nat.le_of_ble_eq_true rfl) lk_X9_areKin_7 rfl dX9_areKin_73 rfl) (se_iconst dX9_areKin_76 (by decide +kernel) rfl) dX9_areKin_77 rfl) (se_iconst dX9_areKin_78 (by decide +kernel) rfl) dX9_areKin_79 rfl rfl) (sc_Feq0 (pcB := 86) (se_rem (pcA := 83) (pcB := 85) (se_iload_n dX9_areKin_82 rfl rfl) (se_iload dX9_areKin_83 rfl) dX9_areKin_85 rfl) dX9_areKin_86 rfl rfl))) (se_iconst dX9_areKin_89 (by decide +kernel) rfl) dX9_areKin_90 rfl (se_iconst dX9_areKin_93 (by decide +kernel) rfl))) dX9_areKin_94 rfl))))
theorem T_X9_areKin : sMet vwCl RX6 yX9_areKin wsX9_areKin 1 24 M_X9_areKin := sMet_of rfl (by decide +kernel) rfl rfl (fun h => by cases h) (m_ofV_run _ _ _) S_X9_areKin (m_ofV_cat _ _ _ (Nat.le_of_ble_eq_true rfl))
theorem in_X9_kinOf_X9 : ∀ w ∈ u_ws RX9 TX9 18, w ∈ wsX9_kinOf := by decide +kernel
theorem lk_X9_kinOf_7 : Cond.fieldLink RX9 7 RX9 "s" "[I" ∈ wsX9_kinOf := by decide +kernel
abbrev C_X9_kinOf_1 : sCd := (c_cmp i_lt (e_i 3) (e_ald (e_getR 7 0 (e_r 0)) (e_k (nI 2))))
abbrev W_X9_kinOf_1 : sStm :=
  (s_seq (s_setI 2 (e_add (e_i 2) (e_if (c_cmp0 i_ne (e_callI M_X9_areKin (a_cr (e_r 0) (a_ci (e_i 1) (a_ci (e_i 3) a_nil))))) (e_k (nI 1)) (e_k (nI 0)))))
    (s_inc 3 (nI 1)))
def B_X9_kinOf : sStm :=
  (s_seq (s_decI 2 (e_k (nI 0)))
    (s_seq (s_blk 3 (s_seq (s_decI 3 (e_k (nI 0)))
    (s_while C_X9_kinOf_1 W_X9_kinOf_1)))
    (s_retI (e_i 2))))
def M_X9_kinOf : sSem := m_ofV 7 2 B_X9_kinOf
set_option maxRecDepth 100000 in
set_option maxHeartbeats 4000000 in
theorem S_X9_kinOf : sSS (cX9_kinOf, wsX9_kinOf, RX9, (some .int), 2, 48, 4, vwCl, RX6, false) 0 0 B_X9_kinOf :=
  (ss_seq (pcA := 2) (ss_decI_n (pcA := 1) (se_iconst dX9_kinOf_0 (by decide +kernel) rfl) dX9_kinOf_1 rfl (Nat.le_of_ble_eq_true rfl) rfl)
    (ss_seq (pcA := 37) (ss_blk (ss_seq (pcA := 4) (ss_decI_n (pcA := 3) (se_iconst dX9_kinOf_2 (by decide +kernel) rfl) dX9_kinOf_3 rfl (Nat.le_of_ble_eq_true rfl) rfl)
    (ss_while (pcB := 14) (sc_Flt (pcA := 5) (pcB := 11) (se_iload_n dX9_kinOf_4 rfl rfl) (se_ald (pcA := 9) (pcB := 10) (se_getR (pcA := 6) (T := TX9) (k := 0) (index := 7) (se_aload_n dX9_kinOf_5 rfl rfl) rfl in_X9_kinOf_X9 (Nat.le_of_ble_eq_true rfl) lk_X9_kinOf_7 rfl dX9_kinOf_6 rfl) (se_iconst dX9_kinOf_9 (by decide +kernel) rfl) dX9_kinOf_10 rfl) dX9_kinOf_11 rfl rfl)
    (ss_seq (pcA := 31) (ss_setI_n (pcA := 30) (se_add (pcA := 15) (pcB := 29) (se_iload_n dX9_kinOf_14 rfl rfl) (se_if (pcT := 24) (pcF := 28) (pcG := 25) (sc_Fne0 (pcB := 21) (se_callVI (pcA := 18) (ci := 7) (index := 66) (sa_cr (pcA := 16) (se_aload_n dX9_kinOf_15 rfl rfl) (sa_ci (pcA := 17) (se_iload_n dX9_kinOf_16 rfl rfl) (sa_ci (pcA := 18) (se_iload_n dX9_kinOf_17 rfl rfl) sa_nil))) T_X9_areKin (s_Rcv_of 7 _ _) rfl gX9_kinOf_X9_areKin rfl (by decide +kernel) (Nat.le_of_ble_eq_true rfl) (Nat.le_of_ble_eq_true rfl) (s_LenR (s_LenI (s_LenI s_Len0))) (Nat.le_of_ble_eq_true rfl) dX9_kinOf_18 rfl) dX9_kinOf_21 rfl rfl) (se_iconst dX9_kinOf_24 (by decide +kernel) rfl) dX9_kinOf_25 rfl (se_iconst dX9_kinOf_28 (by decide +kernel) rfl)) dX9_kinOf_29 rfl) dX9_kinOf_30 rfl (Nat.le_of_ble_eq_true rfl) rfl)
    (ss_goto (pcG := 34) (ss_inc dX9_kinOf_31 (Nat.le_of_ble_eq_true rfl) (by decide +kernel) rfl) dX9_kinOf_34 rfl)))))
    (ss_retI (pcA := 38) (se_iload_n dX9_kinOf_37 rfl rfl) dX9_kinOf_38 rfl)))
theorem T_X9_kinOf : sMet vwCl RX6 yX9_kinOf wsX9_kinOf 2 48 M_X9_kinOf := sMet_of rfl (by decide +kernel) rfl rfl (fun h => by cases h) (m_ofV_run _ _ _) S_X9_kinOf (m_ofV_cat _ _ _ (Nat.le_of_ble_eq_true rfl))
theorem in_X9_pairs_X9 : ∀ w ∈ u_ws RX9 TX9 18, w ∈ wsX9_pairs := by decide +kernel
theorem lk_X9_pairs_7 : Cond.fieldLink RX9 7 RX9 "s" "[I" ∈ wsX9_pairs := by decide +kernel
abbrev C_X9_pairs_1 : sCd := (c_cmp i_lt (e_i 2) (e_ald (e_getR 7 0 (e_r 0)) (e_k (nI 2))))
abbrev W_X9_pairs_1 : sStm :=
  (s_seq (s_setI 1 (e_add (e_i 1) (e_callI M_X9_kinOf (a_cr (e_r 0) (a_ci (e_i 2) a_nil)))))
    (s_inc 2 (nI 1)))
def B_X9_pairs : sStm :=
  (s_seq (s_decI 1 (e_k (nI 0)))
    (s_seq (s_blk 2 (s_seq (s_decI 2 (e_k (nI 0)))
    (s_while C_X9_pairs_1 W_X9_pairs_1)))
    (s_retI (e_div (e_i 1) (e_k (nI 2))))))
def M_X9_pairs : sSem := m_ofV 7 1 B_X9_pairs
set_option maxRecDepth 100000 in
set_option maxHeartbeats 4000000 in
theorem S_X9_pairs : sSS (cX9_pairs, wsX9_pairs, RX9, (some .int), 3, 71, 3, vwCl, RX6, false) 0 0 B_X9_pairs :=
  (ss_seq (pcA := 2) (ss_decI_n (pcA := 1) (se_iconst dX9_pairs_0 (by decide +kernel) rfl) dX9_pairs_1 rfl (Nat.le_of_ble_eq_true rfl) rfl)
    (ss_seq (pcA := 28) (ss_blk (ss_seq (pcA := 4) (ss_decI_n (pcA := 3) (se_iconst dX9_pairs_2 (by decide +kernel) rfl) dX9_pairs_3 rfl (Nat.le_of_ble_eq_true rfl) rfl)
    (ss_while (pcB := 14) (sc_Flt (pcA := 5) (pcB := 11) (se_iload_n dX9_pairs_4 rfl rfl) (se_ald (pcA := 9) (pcB := 10) (se_getR (pcA := 6) (T := TX9) (k := 0) (index := 7) (se_aload_n dX9_pairs_5 rfl rfl) rfl in_X9_pairs_X9 (Nat.le_of_ble_eq_true rfl) lk_X9_pairs_7 rfl dX9_pairs_6 rfl) (se_iconst dX9_pairs_9 (by decide +kernel) rfl) dX9_pairs_10 rfl) dX9_pairs_11 rfl rfl)
    (ss_seq (pcA := 22) (ss_setI_n (pcA := 21) (se_add (pcA := 15) (pcB := 20) (se_iload_n dX9_pairs_14 rfl rfl) (se_callVI (pcA := 17) (ci := 7) (index := 70) (sa_cr (pcA := 16) (se_aload_n dX9_pairs_15 rfl rfl) (sa_ci (pcA := 17) (se_iload_n dX9_pairs_16 rfl rfl) sa_nil)) T_X9_kinOf (s_Rcv_of 7 _ _) rfl gX9_pairs_X9_kinOf rfl (by decide +kernel) (Nat.le_of_ble_eq_true rfl) (Nat.le_of_ble_eq_true rfl) (s_LenR (s_LenI s_Len0)) (Nat.le_of_ble_eq_true rfl) dX9_pairs_17 rfl) dX9_pairs_20 rfl) dX9_pairs_21 rfl (Nat.le_of_ble_eq_true rfl) rfl)
    (ss_goto (pcG := 25) (ss_inc dX9_pairs_22 (Nat.le_of_ble_eq_true rfl) (by decide +kernel) rfl) dX9_pairs_25 rfl)))))
    (ss_retI (pcA := 31) (se_div (pcA := 29) (pcB := 30) (se_iload_n dX9_pairs_28 rfl rfl) (se_iconst dX9_pairs_29 (by decide +kernel) rfl) dX9_pairs_30 rfl) dX9_pairs_31 rfl)))
theorem T_X9_pairs : sMet vwCl RX6 yX9_pairs wsX9_pairs 3 71 M_X9_pairs := sMet_of rfl (by decide +kernel) rfl rfl (fun h => by cases h) (m_ofV_run _ _ _) S_X9_pairs (m_ofV_cat _ _ _ (Nat.le_of_ble_eq_true rfl))
theorem in_X9_joins_X9 : ∀ w ∈ u_ws RX9 TX9 18, w ∈ wsX9_joins := by decide +kernel
theorem lk_X9_joins_31 : Cond.fieldLink RX9 31 RX9 "family" "[I" ∈ wsX9_joins := by decide +kernel
theorem lk_X9_joins_7 : Cond.fieldLink RX9 7 RX9 "s" "[I" ∈ wsX9_joins := by decide +kernel
abbrev C_X9_joins_1 : sCd := (c_cmp i_lt (e_i 1) (e_k (nI 12)))
abbrev W_X9_joins_1 : sStm :=
  (s_seq (s_ast (e_getR 7 12 (e_r 0)) (e_i 1) (e_i 1))
    (s_inc 1 (nI 1)))
abbrev C_X9_joins_2 : sCd := (c_cmp i_lt (e_i 3) (e_ald (e_getR 7 0 (e_r 0)) (e_k (nI 2))))
abbrev W_X9_joins_2 : sStm :=
  (s_seq (s_if (c_and (c_cmp i_lt (e_ald (e_getR 7 12 (e_r 0)) (e_i 3)) (e_ald (e_getR 7 12 (e_r 0)) (e_i 2))) (c_cmp0 i_ne (e_callI M_X9_areKin (a_cr (e_r 0) (a_ci (e_i 2) (a_ci (e_i 3) a_nil))))))
    (s_seq (s_ast (e_getR 7 12 (e_r 0)) (e_i 2) (e_ald (e_getR 7 12 (e_r 0)) (e_i 3)))
    (s_setI 1 (e_k (nI 1)))) s_skip)
    (s_inc 3 (nI 1)))
abbrev C_X9_joins_3 : sCd := (c_cmp i_lt (e_i 2) (e_ald (e_getR 7 0 (e_r 0)) (e_k (nI 2))))
abbrev W_X9_joins_3 : sStm :=
  (s_seq (s_blk 3 (s_seq (s_decI 3 (e_k (nI 0)))
    (s_while C_X9_joins_2 W_X9_joins_2)))
    (s_inc 2 (nI 1)))
abbrev C_X9_joins_4 : sCd := (c_cmp0 i_ne (e_i 1))
abbrev W_X9_joins_4 : sStm :=
  (s_seq (s_setI 1 (e_k (nI 0)))
    (s_blk 2 (s_seq (s_decI 2 (e_k (nI 0)))
    (s_while C_X9_joins_3 W_X9_joins_3))))
def B_X9_joins : sStm :=
  (s_seq (s_seq (s_blk 1 (s_seq (s_decI 1 (e_k (nI 0)))
    (s_while C_X9_joins_1 W_X9_joins_1)))
    (s_seq (s_decI 1 (e_k (nI 1)))
    (s_while C_X9_joins_4 W_X9_joins_4)))
    s_ret0)
def M_X9_joins : sSem := m_ofV 7 1 B_X9_joins
set_option maxRecDepth 100000 in
set_option maxHeartbeats 4000000 in
theorem S_X9_joins : sSS (cX9_joins, wsX9_joins, RX9, none, 2, 48, 4, vwCl, RX6, false) 0 0 B_X9_joins :=
  (ss_seq (pcA := 106) (ss_seq (pcA := 21) (ss_blk (ss_seq (pcA := 2) (ss_decI_n (pcA := 1) (se_iconst dX9_joins_0 (by decide +kernel) rfl) dX9_joins_1 rfl (Nat.le_of_ble_eq_true rfl) rfl)
    (ss_while (pcB := 8) (sc_Flt (pcA := 3) (pcB := 5) (se_iload_n dX9_joins_2 rfl rfl) (se_bipush dX9_joins_3 (by decide +kernel) rfl) dX9_joins_5 rfl rfl)
    (ss_seq (pcA := 15) (ss_ast (pcA := 12) (pcI := 13) (pcB := 14) (se_getR (pcA := 9) (T := TX9) (k := 12) (index := 31) (se_aload_n dX9_joins_8 rfl rfl) rfl in_X9_joins_X9 (Nat.le_of_ble_eq_true rfl) lk_X9_joins_31 rfl dX9_joins_9 rfl) (se_iload_n dX9_joins_12 rfl rfl) (se_iload_n dX9_joins_13 rfl rfl) dX9_joins_14 rfl)
    (ss_goto (pcG := 18) (ss_inc dX9_joins_15 (Nat.le_of_ble_eq_true rfl) (by decide +kernel) rfl) dX9_joins_18 rfl)))))
    (ss_seq (pcA := 23) (ss_decI_n (pcA := 22) (se_iconst dX9_joins_21 (by decide +kernel) rfl) dX9_joins_22 rfl (Nat.le_of_ble_eq_true rfl) rfl)
    (ss_while (pcB := 27) (sc_Fne0 (pcB := 24) (se_iload_n dX9_joins_23 rfl rfl) dX9_joins_24 rfl rfl)
    (ss_seq (pcA := 29) (ss_setI_n (pcA := 28) (se_iconst dX9_joins_27 (by decide +kernel) rfl) dX9_joins_28 rfl (Nat.le_of_ble_eq_true rfl) rfl)
    (ss_blk (ss_seq (pcA := 31) (ss_decI_n (pcA := 30) (se_iconst dX9_joins_29 (by decide +kernel) rfl) dX9_joins_30 rfl (Nat.le_of_ble_eq_true rfl) rfl)
    (ss_goto (pcG := 103) (ss_while (pcB := 41) (sc_Flt (pcA := 32) (pcB := 38) (se_iload_n dX9_joins_31 rfl rfl) (se_ald (pcA := 36) (pcB := 37) (se_getR (pcA := 33) (T := TX9) (k := 0) (index := 7) (se_aload_n dX9_joins_32 rfl rfl) rfl in_X9_joins_X9 (Nat.le_of_ble_eq_true rfl) lk_X9_joins_7 rfl dX9_joins_33 rfl) (se_iconst dX9_joins_36 (by decide +kernel) rfl) dX9_joins_37 rfl) dX9_joins_38 rfl rfl)
    (ss_seq (pcA := 97) (ss_blk (ss_seq (pcA := 43) (ss_decI_n (pcA := 42) (se_iconst dX9_joins_41 (by decide +kernel) rfl) dX9_joins_42 rfl (Nat.le_of_ble_eq_true rfl) rfl)
    (ss_while (pcB := 53) (sc_Flt (pcA := 44) (pcB := 50) (se_iload_n dX9_joins_43 rfl rfl) (se_ald (pcA := 48) (pcB := 49) (se_getR (pcA := 45) (T := TX9) (k := 0) (index := 7) (se_aload_n dX9_joins_44 rfl rfl) rfl in_X9_joins_X9 (Nat.le_of_ble_eq_true rfl) lk_X9_joins_7 rfl dX9_joins_45 rfl) (se_iconst dX9_joins_48 (by decide +kernel) rfl) dX9_joins_49 rfl) dX9_joins_50 rfl rfl)
    (ss_seq (pcA := 91) (ss_if (pcT := 77) (pcF := 91) (sc_and (pcA := 68) (sc_Flt (pcA := 59) (pcB := 65) (se_ald (pcA := 57) (pcB := 58) (se_getR (pcA := 54) (T := TX9) (k := 12) (index := 31) (se_aload_n dX9_joins_53 rfl rfl) rfl in_X9_joins_X9 (Nat.le_of_ble_eq_true rfl) lk_X9_joins_31 rfl dX9_joins_54 rfl) (se_iload_n dX9_joins_57 rfl rfl) dX9_joins_58 rfl) (se_ald (pcA := 63) (pcB := 64) (se_getR (pcA := 60) (T := TX9) (k := 12) (index := 31) (se_aload_n dX9_joins_59 rfl rfl) rfl in_X9_joins_X9 (Nat.le_of_ble_eq_true rfl) lk_X9_joins_31 rfl dX9_joins_60 rfl) (se_iload_n dX9_joins_63 rfl rfl) dX9_joins_64 rfl) dX9_joins_65 rfl rfl) (sc_Fne0 (pcB := 74) (se_callVI (pcA := 71) (ci := 7) (index := 66) (sa_cr (pcA := 69) (se_aload_n dX9_joins_68 rfl rfl) (sa_ci (pcA := 70) (se_iload_n dX9_joins_69 rfl rfl) (sa_ci (pcA := 71) (se_iload_n dX9_joins_70 rfl rfl) sa_nil))) T_X9_areKin (s_Rcv_of 7 _ _) rfl gX9_joins_X9_areKin rfl (by decide +kernel) (Nat.le_of_ble_eq_true rfl) (Nat.le_of_ble_eq_true rfl) (s_LenR (s_LenI (s_LenI s_Len0))) (Nat.le_of_ble_eq_true rfl) dX9_joins_71 rfl) dX9_joins_74 rfl rfl))
    (ss_seq (pcA := 89) (ss_ast (pcA := 81) (pcI := 82) (pcB := 88) (se_getR (pcA := 78) (T := TX9) (k := 12) (index := 31) (se_aload_n dX9_joins_77 rfl rfl) rfl in_X9_joins_X9 (Nat.le_of_ble_eq_true rfl) lk_X9_joins_31 rfl dX9_joins_78 rfl) (se_iload_n dX9_joins_81 rfl rfl) (se_ald (pcA := 86) (pcB := 87) (se_getR (pcA := 83) (T := TX9) (k := 12) (index := 31) (se_aload_n dX9_joins_82 rfl rfl) rfl in_X9_joins_X9 (Nat.le_of_ble_eq_true rfl) lk_X9_joins_31 rfl dX9_joins_83 rfl) (se_iload_n dX9_joins_86 rfl rfl) dX9_joins_87 rfl) dX9_joins_88 rfl)
    (ss_setI_n (pcA := 90) (se_iconst dX9_joins_89 (by decide +kernel) rfl) dX9_joins_90 rfl (Nat.le_of_ble_eq_true rfl) rfl)) ss_skip)
    (ss_goto (pcG := 94) (ss_inc dX9_joins_91 (Nat.le_of_ble_eq_true rfl) (by decide +kernel) rfl) dX9_joins_94 rfl)))))
    (ss_goto (pcG := 100) (ss_inc dX9_joins_97 (Nat.le_of_ble_eq_true rfl) (by decide +kernel) rfl) dX9_joins_100 rfl))) dX9_joins_103 rfl)))))))
    (ss_ret0 dX9_joins_106 rfl))
theorem T_X9_joins : sMet vwCl RX6 yX9_joins wsX9_joins 2 48 M_X9_joins := sMet_of rfl (by decide +kernel) rfl rfl (fun h => by cases h) (m_ofV_run _ _ _) S_X9_joins (m_ofV_cat _ _ _ (Nat.le_of_ble_eq_true rfl))
theorem in_X9_sizeOf_X9 : ∀ w ∈ u_ws RX9 TX9 18, w ∈ wsX9_sizeOf := by decide +kernel
theorem lk_X9_sizeOf_7 : Cond.fieldLink RX9 7 RX9 "s" "[I" ∈ wsX9_sizeOf := by decide +kernel
theorem lk_X9_sizeOf_31 : Cond.fieldLink RX9 31 RX9 "family" "[I" ∈ wsX9_sizeOf := by decide +kernel
abbrev C_X9_sizeOf_1 : sCd := (c_cmp i_lt (e_i 3) (e_ald (e_getR 7 0 (e_r 0)) (e_k (nI 2))))
abbrev W_X9_sizeOf_1 : sStm :=
  (s_seq (s_setI 2 (e_add (e_i 2) (e_if (c_cmp i_eq (e_ald (e_getR 7 12 (e_r 0)) (e_i 3)) (e_i 1)) (e_k (nI 1)) (e_k (nI 0)))))
    (s_inc 3 (nI 1)))
def B_X9_sizeOf : sStm :=
  (s_seq (s_decI 2 (e_k (nI 0)))
    (s_seq (s_blk 3 (s_seq (s_decI 3 (e_k (nI 0)))
    (s_while C_X9_sizeOf_1 W_X9_sizeOf_1)))
    (s_retI (e_i 2))))
def M_X9_sizeOf : sSem := m_ofV 7 2 B_X9_sizeOf
set_option maxRecDepth 100000 in
set_option maxHeartbeats 4000000 in
theorem S_X9_sizeOf : sSS (cX9_sizeOf, wsX9_sizeOf, RX9, (some .int), 0, 0, 4, vwCl, RX6, false) 0 0 B_X9_sizeOf :=
  (ss_seq (pcA := 2) (ss_decI_n (pcA := 1) (se_iconst dX9_sizeOf_0 (by decide +kernel) rfl) dX9_sizeOf_1 rfl (Nat.le_of_ble_eq_true rfl) rfl)
    (ss_seq (pcA := 38) (ss_blk (ss_seq (pcA := 4) (ss_decI_n (pcA := 3) (se_iconst dX9_sizeOf_2 (by decide +kernel) rfl) dX9_sizeOf_3 rfl (Nat.le_of_ble_eq_true rfl) rfl)
    (ss_while (pcB := 14) (sc_Flt (pcA := 5) (pcB := 11) (se_iload_n dX9_sizeOf_4 rfl rfl) (se_ald (pcA := 9) (pcB := 10) (se_getR (pcA := 6) (T := TX9) (k := 0) (index := 7) (se_aload_n dX9_sizeOf_5 rfl rfl) rfl in_X9_sizeOf_X9 (Nat.le_of_ble_eq_true rfl) lk_X9_sizeOf_7 rfl dX9_sizeOf_6 rfl) (se_iconst dX9_sizeOf_9 (by decide +kernel) rfl) dX9_sizeOf_10 rfl) dX9_sizeOf_11 rfl rfl)
    (ss_seq (pcA := 32) (ss_setI_n (pcA := 31) (se_add (pcA := 15) (pcB := 30) (se_iload_n dX9_sizeOf_14 rfl rfl) (se_if (pcT := 25) (pcF := 29) (pcG := 26) (sc_Feq (pcA := 21) (pcB := 22) (se_ald (pcA := 19) (pcB := 20) (se_getR (pcA := 16) (T := TX9) (k := 12) (index := 31) (se_aload_n dX9_sizeOf_15 rfl rfl) rfl in_X9_sizeOf_X9 (Nat.le_of_ble_eq_true rfl) lk_X9_sizeOf_31 rfl dX9_sizeOf_16 rfl) (se_iload_n dX9_sizeOf_19 rfl rfl) dX9_sizeOf_20 rfl) (se_iload_n dX9_sizeOf_21 rfl rfl) dX9_sizeOf_22 rfl rfl) (se_iconst dX9_sizeOf_25 (by decide +kernel) rfl) dX9_sizeOf_26 rfl (se_iconst dX9_sizeOf_29 (by decide +kernel) rfl)) dX9_sizeOf_30 rfl) dX9_sizeOf_31 rfl (Nat.le_of_ble_eq_true rfl) rfl)
    (ss_goto (pcG := 35) (ss_inc dX9_sizeOf_32 (Nat.le_of_ble_eq_true rfl) (by decide +kernel) rfl) dX9_sizeOf_35 rfl)))))
    (ss_retI (pcA := 39) (se_iload_n dX9_sizeOf_38 rfl rfl) dX9_sizeOf_39 rfl)))
theorem T_X9_sizeOf : sMet vwCl RX6 yX9_sizeOf wsX9_sizeOf 0 0 M_X9_sizeOf := sMet_of rfl (by decide +kernel) rfl rfl (fun h => by cases h) (m_ofV_run _ _ _) S_X9_sizeOf (m_ofV_cat _ _ _ (Nat.le_of_ble_eq_true rfl))
theorem in_X9_families_X9 : ∀ w ∈ u_ws RX9 TX9 18, w ∈ wsX9_families := by decide +kernel
theorem lk_X9_families_7 : Cond.fieldLink RX9 7 RX9 "s" "[I" ∈ wsX9_families := by decide +kernel
theorem lk_X9_families_31 : Cond.fieldLink RX9 31 RX9 "family" "[I" ∈ wsX9_families := by decide +kernel
abbrev C_X9_families_1 : sCd := (c_cmp i_lt (e_i 4) (e_ald (e_getR 7 0 (e_r 0)) (e_k (nI 2))))
abbrev W_X9_families_1 : sStm :=
  (s_seq (s_seq (s_setI 2 (e_add (e_i 2) (e_if (c_cmp i_eq (e_ald (e_getR 7 12 (e_r 0)) (e_i 4)) (e_i 4)) (e_k (nI 1)) (e_k (nI 0)))))
    (s_setI 3 (e_if (c_cmp i_gt (e_callI M_X9_sizeOf (a_cr (e_r 0) (a_ci (e_i 4) a_nil))) (e_i 3)) (e_callI M_X9_sizeOf (a_cr (e_r 0) (a_ci (e_i 4) a_nil))) (e_i 3))))
    (s_inc 4 (nI 1)))
def B_X9_families : sStm :=
  (s_seq (s_callV M_X9_joins (a_cr (e_r 0) a_nil))
    (s_seq (s_decI 2 (e_k (nI 0)))
    (s_seq (s_decI 3 (e_k (nI 0)))
    (s_seq (s_blk 4 (s_seq (s_decI 4 (e_k (nI 0)))
    (s_while C_X9_families_1 W_X9_families_1)))
    (s_retI (e_if (c_cmp0 i_ne (e_i 1)) (e_i 3) (e_i 2)))))))
def M_X9_families : sSem := m_ofV 7 2 B_X9_families
set_option maxRecDepth 100000 in
set_option maxHeartbeats 4000000 in
theorem S_X9_families : sSS (cX9_families, wsX9_families, RX9, (some .int), 3, 71, 5, vwCl, RX6, false) 0 0 B_X9_families :=
  (ss_seq (pcA := 4) (ss_callVV (pcA := 1) (ci := 7) (index := 73) (sa_cr (pcA := 1) (se_aload_n dX9_families_0 rfl rfl) sa_nil) T_X9_joins (s_Rcv_of 7 _ _) rfl gX9_families_X9_joins rfl (by decide +kernel) (Nat.le_of_ble_eq_true rfl) (Nat.le_of_ble_eq_true rfl) (s_LenR s_Len0) dX9_families_1 rfl)
    (ss_seq (pcA := 6) (ss_decI_n (pcA := 5) (se_iconst dX9_families_4 (by decide +kernel) rfl) dX9_families_5 rfl (Nat.le_of_ble_eq_true rfl) rfl)
    (ss_seq (pcA := 8) (ss_decI_n (pcA := 7) (se_iconst dX9_families_6 (by decide +kernel) rfl) dX9_families_7 rfl (Nat.le_of_ble_eq_true rfl) rfl)
    (ss_seq (pcA := 69) (ss_blk (ss_seq (pcA := 11) (ss_decI (pcA := 9) (se_iconst dX9_families_8 (by decide +kernel) rfl) dX9_families_9 (Nat.le_of_ble_eq_true rfl) rfl)
    (ss_while (pcB := 22) (sc_Flt (pcA := 13) (pcB := 19) (se_iload dX9_families_11 rfl) (se_ald (pcA := 17) (pcB := 18) (se_getR (pcA := 14) (T := TX9) (k := 0) (index := 7) (se_aload_n dX9_families_13 rfl rfl) rfl in_X9_families_X9 (Nat.le_of_ble_eq_true rfl) lk_X9_families_7 rfl dX9_families_14 rfl) (se_iconst dX9_families_17 (by decide +kernel) rfl) dX9_families_18 rfl) dX9_families_19 rfl rfl)
    (ss_seq (pcA := 63) (ss_seq (pcA := 42) (ss_setI_n (pcA := 41) (se_add (pcA := 23) (pcB := 40) (se_iload_n dX9_families_22 rfl rfl) (se_if (pcT := 35) (pcF := 39) (pcG := 36) (sc_Feq (pcA := 30) (pcB := 32) (se_ald (pcA := 27) (pcB := 29) (se_getR (pcA := 24) (T := TX9) (k := 12) (index := 31) (se_aload_n dX9_families_23 rfl rfl) rfl in_X9_families_X9 (Nat.le_of_ble_eq_true rfl) lk_X9_families_31 rfl dX9_families_24 rfl) (se_iload dX9_families_27 rfl) dX9_families_29 rfl) (se_iload dX9_families_30 rfl) dX9_families_32 rfl rfl) (se_iconst dX9_families_35 (by decide +kernel) rfl) dX9_families_36 rfl (se_iconst dX9_families_39 (by decide +kernel) rfl)) dX9_families_40 rfl) dX9_families_41 rfl (Nat.le_of_ble_eq_true rfl) rfl)
    (ss_setI_n (pcA := 62) (se_if (pcT := 52) (pcF := 61) (pcG := 58) (sc_Fgt (pcA := 48) (pcB := 49) (se_callVI (pcA := 45) (ci := 7) (index := 76) (sa_cr (pcA := 43) (se_aload_n dX9_families_42 rfl rfl) (sa_ci (pcA := 45) (se_iload dX9_families_43 rfl) sa_nil)) T_X9_sizeOf (s_Rcv_of 7 _ _) rfl gX9_families_X9_sizeOf rfl (by decide +kernel) (Nat.le_of_ble_eq_true rfl) (Nat.le_of_ble_eq_true rfl) (s_LenR (s_LenI s_Len0)) (Nat.le_of_ble_eq_true rfl) dX9_families_45 rfl) (se_iload_n dX9_families_48 rfl rfl) dX9_families_49 rfl rfl) (se_callVI (pcA := 55) (ci := 7) (index := 76) (sa_cr (pcA := 53) (se_aload_n dX9_families_52 rfl rfl) (sa_ci (pcA := 55) (se_iload dX9_families_53 rfl) sa_nil)) T_X9_sizeOf (s_Rcv_of 7 _ _) rfl gX9_families_X9_sizeOf rfl (by decide +kernel) (Nat.le_of_ble_eq_true rfl) (Nat.le_of_ble_eq_true rfl) (s_LenR (s_LenI s_Len0)) (Nat.le_of_ble_eq_true rfl) dX9_families_55 rfl) dX9_families_58 rfl (se_iload_n dX9_families_61 rfl rfl)) dX9_families_62 rfl (Nat.le_of_ble_eq_true rfl) rfl))
    (ss_goto (pcG := 66) (ss_inc dX9_families_63 (Nat.le_of_ble_eq_true rfl) (by decide +kernel) rfl) dX9_families_66 rfl)))))
    (ss_retI (pcA := 78) (se_if (pcT := 73) (pcF := 77) (pcG := 74) (sc_Fne0 (pcB := 70) (se_iload_n dX9_families_69 rfl rfl) dX9_families_70 rfl rfl) (se_iload_n dX9_families_73 rfl rfl) dX9_families_74 rfl (se_iload_n dX9_families_77 rfl rfl)) dX9_families_78 rfl)))))
theorem T_X9_families : sMet vwCl RX6 yX9_families wsX9_families 3 71 M_X9_families := sMet_of rfl (by decide +kernel) rfl rfl (fun h => by cases h) (m_ofV_run _ _ _) S_X9_families (m_ofV_cat _ _ _ (Nat.le_of_ble_eq_true rfl))
theorem in_X9_puts_X9 : ∀ w ∈ u_ws RX9 TX9 18, w ∈ wsX9_puts := by decide +kernel
theorem lk_X9_puts_7 : Cond.fieldLink RX9 7 RX9 "s" "[I" ∈ wsX9_puts := by decide +kernel
abbrev C_X9_puts_1 : sCd := (c_cmp i_gt (e_i 3) (e_i 1))
abbrev W_X9_puts_1 : sStm :=
  (s_seq (s_ast (e_getR 7 0 (e_r 0)) (e_add (e_k (nI 4)) (e_i 3)) (e_ald (e_getR 7 0 (e_r 0)) (e_sub (e_add (e_k (nI 4)) (e_i 3)) (e_k (nI 1)))))
    (s_inc 3 (-1)))
def B_X9_puts : sStm :=
  (s_seq (s_seq (s_blk 3 (s_seq (s_decI 3 (e_ald (e_getR 7 0 (e_r 0)) (e_k (nI 2))))
    (s_while C_X9_puts_1 W_X9_puts_1)))
    (s_seq (s_ast (e_getR 7 0 (e_r 0)) (e_add (e_k (nI 4)) (e_i 1)) (e_i 2))
    (s_astop (e_getR 7 0 (e_r 0)) (e_k (nI 2)) (fun x z => x + z) (e_k (nI 1)))))
    s_ret0)
def M_X9_puts : sSem := m_ofV 7 3 B_X9_puts
set_option maxRecDepth 100000 in
set_option maxHeartbeats 4000000 in
theorem S_X9_puts : sSS (cX9_puts, wsX9_puts, RX9, none, 0, 0, 4, vwCl, RX6, false) 0 0 B_X9_puts :=
  (ss_seq (pcA := 55) (ss_seq (pcA := 36) (ss_blk (ss_seq (pcA := 7) (ss_decI_n (pcA := 6) (se_ald (pcA := 4) (pcB := 5) (se_getR (pcA := 1) (T := TX9) (k := 0) (index := 7) (se_aload_n dX9_puts_0 rfl rfl) rfl in_X9_puts_X9 (Nat.le_of_ble_eq_true rfl) lk_X9_puts_7 rfl dX9_puts_1 rfl) (se_iconst dX9_puts_4 (by decide +kernel) rfl) dX9_puts_5 rfl) dX9_puts_6 rfl (Nat.le_of_ble_eq_true rfl) rfl)
    (ss_while (pcB := 12) (sc_Fgt (pcA := 8) (pcB := 9) (se_iload_n dX9_puts_7 rfl rfl) (se_iload_n dX9_puts_8 rfl rfl) dX9_puts_9 rfl rfl)
    (ss_seq (pcA := 30) (ss_ast (pcA := 16) (pcI := 19) (pcB := 29) (se_getR (pcA := 13) (T := TX9) (k := 0) (index := 7) (se_aload_n dX9_puts_12 rfl rfl) rfl in_X9_puts_X9 (Nat.le_of_ble_eq_true rfl) lk_X9_puts_7 rfl dX9_puts_13 rfl) (se_add (pcA := 17) (pcB := 18) (se_iconst dX9_puts_16 (by decide +kernel) rfl) (se_iload_n dX9_puts_17 rfl rfl) dX9_puts_18 rfl) (se_ald (pcA := 23) (pcB := 28) (se_getR (pcA := 20) (T := TX9) (k := 0) (index := 7) (se_aload_n dX9_puts_19 rfl rfl) rfl in_X9_puts_X9 (Nat.le_of_ble_eq_true rfl) lk_X9_puts_7 rfl dX9_puts_20 rfl) (se_sub (pcA := 26) (pcB := 27) (se_add (pcA := 24) (pcB := 25) (se_iconst dX9_puts_23 (by decide +kernel) rfl) (se_iload_n dX9_puts_24 rfl rfl) dX9_puts_25 rfl) (se_iconst dX9_puts_26 (by decide +kernel) rfl) dX9_puts_27 rfl) dX9_puts_28 rfl) dX9_puts_29 rfl)
    (ss_goto (pcG := 33) (ss_inc dX9_puts_30 (Nat.le_of_ble_eq_true rfl) (by decide +kernel) rfl) dX9_puts_33 rfl)))))
    (ss_seq (pcA := 45) (ss_ast (pcA := 40) (pcI := 43) (pcB := 44) (se_getR (pcA := 37) (T := TX9) (k := 0) (index := 7) (se_aload_n dX9_puts_36 rfl rfl) rfl in_X9_puts_X9 (Nat.le_of_ble_eq_true rfl) lk_X9_puts_7 rfl dX9_puts_37 rfl) (se_add (pcA := 41) (pcB := 42) (se_iconst dX9_puts_40 (by decide +kernel) rfl) (se_iload_n dX9_puts_41 rfl rfl) dX9_puts_42 rfl) (se_iload_n dX9_puts_43 rfl rfl) dX9_puts_44 rfl)
    (ss_astop (pcA := 49) (pcI := 50) (pcD := 51) (pcL := 52) (pcB := 53) (pcO := 54) (se_getR (pcA := 46) (T := TX9) (k := 0) (index := 7) (se_aload_n dX9_puts_45 rfl rfl) rfl in_X9_puts_X9 (Nat.le_of_ble_eq_true rfl) lk_X9_puts_7 rfl dX9_puts_46 rfl) (se_iconst dX9_puts_49 (by decide +kernel) rfl) dX9_puts_50 rfl dX9_puts_51 rfl (se_iconst dX9_puts_52 (by decide +kernel) rfl) (Or.inl ⟨dX9_puts_53, rfl⟩) rfl dX9_puts_54 rfl)))
    (ss_ret0 dX9_puts_55 rfl))
theorem T_X9_puts : sMet vwCl RX6 yX9_puts wsX9_puts 0 0 M_X9_puts := sMet_of rfl (by decide +kernel) rfl rfl (fun h => by cases h) (m_ofV_run _ _ _) S_X9_puts (m_ofV_cat _ _ _ (Nat.le_of_ble_eq_true rfl))
theorem in_X9_takes_X9 : ∀ w ∈ u_ws RX9 TX9 18, w ∈ wsX9_takes := by decide +kernel
theorem lk_X9_takes_7 : Cond.fieldLink RX9 7 RX9 "s" "[I" ∈ wsX9_takes := by decide +kernel
abbrev C_X9_takes_1 : sCd := (c_cmp i_lt (e_i 2) (e_ald (e_getR 7 0 (e_r 0)) (e_k (nI 2))))
abbrev W_X9_takes_1 : sStm :=
  (s_seq (s_ast (e_getR 7 0 (e_r 0)) (e_add (e_k (nI 4)) (e_i 2)) (e_ald (e_getR 7 0 (e_r 0)) (e_add (e_add (e_k (nI 4)) (e_i 2)) (e_k (nI 1)))))
    (s_inc 2 (nI 1)))
def B_X9_takes : sStm :=
  (s_seq (s_seq (s_astop (e_getR 7 0 (e_r 0)) (e_k (nI 2)) (fun x z => x - z) (e_k (nI 1)))
    (s_seq (s_blk 2 (s_seq (s_decI 2 (e_i 1))
    (s_while C_X9_takes_1 W_X9_takes_1)))
    (s_ast (e_getR 7 0 (e_r 0)) (e_add (e_k (nI 4)) (e_ald (e_getR 7 0 (e_r 0)) (e_k (nI 2)))) (e_k (nI 0)))))
    s_ret0)
def M_X9_takes : sSem := m_ofV 7 2 B_X9_takes
set_option maxRecDepth 100000 in
set_option maxHeartbeats 4000000 in
theorem S_X9_takes : sSS (cX9_takes, wsX9_takes, RX9, none, 0, 0, 3, vwCl, RX6, false) 0 0 B_X9_takes :=
  (ss_seq (pcA := 60) (ss_seq (pcA := 10) (ss_astop (pcA := 4) (pcI := 5) (pcD := 6) (pcL := 7) (pcB := 8) (pcO := 9) (se_getR (pcA := 1) (T := TX9) (k := 0) (index := 7) (se_aload_n dX9_takes_0 rfl rfl) rfl in_X9_takes_X9 (Nat.le_of_ble_eq_true rfl) lk_X9_takes_7 rfl dX9_takes_1 rfl) (se_iconst dX9_takes_4 (by decide +kernel) rfl) dX9_takes_5 rfl dX9_takes_6 rfl (se_iconst dX9_takes_7 (by decide +kernel) rfl) (Or.inr ⟨dX9_takes_8, rfl⟩) rfl dX9_takes_9 rfl)
    (ss_seq (pcA := 46) (ss_blk (ss_seq (pcA := 12) (ss_decI_n (pcA := 11) (se_iload_n dX9_takes_10 rfl rfl) dX9_takes_11 rfl (Nat.le_of_ble_eq_true rfl) rfl)
    (ss_while (pcB := 22) (sc_Flt (pcA := 13) (pcB := 19) (se_iload_n dX9_takes_12 rfl rfl) (se_ald (pcA := 17) (pcB := 18) (se_getR (pcA := 14) (T := TX9) (k := 0) (index := 7) (se_aload_n dX9_takes_13 rfl rfl) rfl in_X9_takes_X9 (Nat.le_of_ble_eq_true rfl) lk_X9_takes_7 rfl dX9_takes_14 rfl) (se_iconst dX9_takes_17 (by decide +kernel) rfl) dX9_takes_18 rfl) dX9_takes_19 rfl rfl)
    (ss_seq (pcA := 40) (ss_ast (pcA := 26) (pcI := 29) (pcB := 39) (se_getR (pcA := 23) (T := TX9) (k := 0) (index := 7) (se_aload_n dX9_takes_22 rfl rfl) rfl in_X9_takes_X9 (Nat.le_of_ble_eq_true rfl) lk_X9_takes_7 rfl dX9_takes_23 rfl) (se_add (pcA := 27) (pcB := 28) (se_iconst dX9_takes_26 (by decide +kernel) rfl) (se_iload_n dX9_takes_27 rfl rfl) dX9_takes_28 rfl) (se_ald (pcA := 33) (pcB := 38) (se_getR (pcA := 30) (T := TX9) (k := 0) (index := 7) (se_aload_n dX9_takes_29 rfl rfl) rfl in_X9_takes_X9 (Nat.le_of_ble_eq_true rfl) lk_X9_takes_7 rfl dX9_takes_30 rfl) (se_add (pcA := 36) (pcB := 37) (se_add (pcA := 34) (pcB := 35) (se_iconst dX9_takes_33 (by decide +kernel) rfl) (se_iload_n dX9_takes_34 rfl rfl) dX9_takes_35 rfl) (se_iconst dX9_takes_36 (by decide +kernel) rfl) dX9_takes_37 rfl) dX9_takes_38 rfl) dX9_takes_39 rfl)
    (ss_goto (pcG := 43) (ss_inc dX9_takes_40 (Nat.le_of_ble_eq_true rfl) (by decide +kernel) rfl) dX9_takes_43 rfl)))))
    (ss_ast (pcA := 50) (pcI := 58) (pcB := 59) (se_getR (pcA := 47) (T := TX9) (k := 0) (index := 7) (se_aload_n dX9_takes_46 rfl rfl) rfl in_X9_takes_X9 (Nat.le_of_ble_eq_true rfl) lk_X9_takes_7 rfl dX9_takes_47 rfl) (se_add (pcA := 51) (pcB := 57) (se_iconst dX9_takes_50 (by decide +kernel) rfl) (se_ald (pcA := 55) (pcB := 56) (se_getR (pcA := 52) (T := TX9) (k := 0) (index := 7) (se_aload_n dX9_takes_51 rfl rfl) rfl in_X9_takes_X9 (Nat.le_of_ble_eq_true rfl) lk_X9_takes_7 rfl dX9_takes_52 rfl) (se_iconst dX9_takes_55 (by decide +kernel) rfl) dX9_takes_56 rfl) dX9_takes_57 rfl) (se_iconst dX9_takes_58 (by decide +kernel) rfl) dX9_takes_59 rfl)))
    (ss_ret0 dX9_takes_60 rfl))
theorem T_X9_takes : sMet vwCl RX6 yX9_takes wsX9_takes 0 0 M_X9_takes := sMet_of rfl (by decide +kernel) rfl rfl (fun h => by cases h) (m_ofV_run _ _ _) S_X9_takes (m_ofV_cat _ _ _ (Nat.le_of_ble_eq_true rfl))
theorem in_X9_add_X9 : ∀ w ∈ u_ws RX9 TX9 18, w ∈ wsX9_add := by decide +kernel
theorem lk_X9_add_7 : Cond.fieldLink RX9 7 RX9 "s" "[I" ∈ wsX9_add := by decide +kernel
def B_X9_add : sStm :=
  (s_seq (s_if (c_or (c_not (c_cmp0 i_ne (e_callI M_X9_in (a_ci (e_i 1) (a_ci (e_k (nI 0)) (a_ci (e_ald (e_getR 7 0 (e_r 0)) (e_k (nI 2))) a_nil)))))) (c_not (c_cmp0 i_ne (e_callI M_X9_in (a_ci (e_i 2) (a_ci (e_k (nI 1)) (a_ci (e_k (nI 9999)) a_nil)))))))
    (s_retI (e_k (-1))) s_skip)
    (s_seq (s_if (c_cmp i_eq (e_ald (e_getR 7 0 (e_r 0)) (e_k (nI 2))) (e_k (nI 12)))
    (s_retI (e_k (-3))) s_skip)
    (s_seq (s_callV M_X9_changes (a_cr (e_r 0) a_nil))
    (s_seq (s_callV M_X9_puts (a_cr (e_r 0) (a_ci (e_i 1) (a_ci (e_i 2) a_nil))))
    (s_retI (e_ald (e_getR 7 0 (e_r 0)) (e_k (nI 2))))))))
def M_X9_add : sSem := m_ofV 7 3 B_X9_add
set_option maxRecDepth 100000 in
set_option maxHeartbeats 4000000 in
theorem S_X9_add : sSS (cX9_add, wsX9_add, RX9, (some .int), 1, 23, 3, vwCl, RX6, false) 0 0 B_X9_add :=
  (ss_seq (pcA := 27) (ss_if (pcT := 25) (pcF := 27) (sc_or (pcA := 14) (sc_not (sc_Fne0 (pcB := 11) (se_callSI (pcA := 8) (index := 51) (sa_ci (pcA := 1) (se_iload_n dX9_add_0 rfl rfl) (sa_ci (pcA := 2) (se_iconst dX9_add_1 (by decide +kernel) rfl) (sa_ci (pcA := 8) (se_ald (pcA := 6) (pcB := 7) (se_getR (pcA := 3) (T := TX9) (k := 0) (index := 7) (se_aload_n dX9_add_2 rfl rfl) rfl in_X9_add_X9 (Nat.le_of_ble_eq_true rfl) lk_X9_add_7 rfl dX9_add_3 rfl) (se_iconst dX9_add_6 (by decide +kernel) rfl) dX9_add_7 rfl) sa_nil))) T_X9_in gX9_add_X9_in rfl (by decide +kernel) (Nat.le_of_ble_eq_true rfl) (Nat.le_of_ble_eq_true rfl) (s_LenI (s_LenI (s_LenI s_Len0))) (Nat.le_of_ble_eq_true rfl) dX9_add_8 rfl) dX9_add_11 rfl rfl)) (sc_not (sc_Tne0 (pcB := 22) (se_callSI (pcA := 19) (index := 51) (sa_ci (pcA := 15) (se_iload_n dX9_add_14 rfl rfl) (sa_ci (pcA := 16) (se_iconst dX9_add_15 (by decide +kernel) rfl) (sa_ci (pcA := 19) (se_sipush dX9_add_16 (by decide +kernel) rfl) sa_nil))) T_X9_in gX9_add_X9_in rfl (by decide +kernel) (Nat.le_of_ble_eq_true rfl) (Nat.le_of_ble_eq_true rfl) (s_LenI (s_LenI (s_LenI s_Len0))) (Nat.le_of_ble_eq_true rfl) dX9_add_19 rfl) dX9_add_22 rfl rfl)))
    (ss_retI (pcA := 26) (se_iconst dX9_add_25 (by decide +kernel) rfl) dX9_add_26 rfl) ss_skip)
    (ss_seq (pcA := 41) (ss_if (pcT := 38) (pcF := 41) (sc_Feq (pcA := 33) (pcB := 35) (se_ald (pcA := 31) (pcB := 32) (se_getR (pcA := 28) (T := TX9) (k := 0) (index := 7) (se_aload_n dX9_add_27 rfl rfl) rfl in_X9_add_X9 (Nat.le_of_ble_eq_true rfl) lk_X9_add_7 rfl dX9_add_28 rfl) (se_iconst dX9_add_31 (by decide +kernel) rfl) dX9_add_32 rfl) (se_bipush dX9_add_33 (by decide +kernel) rfl) dX9_add_35 rfl rfl)
    (ss_retI (pcA := 40) (se_bipush dX9_add_38 (by decide +kernel) rfl) dX9_add_40 rfl) ss_skip)
    (ss_seq (pcA := 45) (ss_callVV (pcA := 42) (ci := 7) (index := 79) (sa_cr (pcA := 42) (se_aload_n dX9_add_41 rfl rfl) sa_nil) T_X9_changes (s_Rcv_of 7 _ _) rfl gX9_add_X9_changes rfl (by decide +kernel) (Nat.le_of_ble_eq_true rfl) (Nat.le_of_ble_eq_true rfl) (s_LenR s_Len0) dX9_add_42 rfl)
    (ss_seq (pcA := 51) (ss_callVV (pcA := 48) (ci := 7) (index := 82) (sa_cr (pcA := 46) (se_aload_n dX9_add_45 rfl rfl) (sa_ci (pcA := 47) (se_iload_n dX9_add_46 rfl rfl) (sa_ci (pcA := 48) (se_iload_n dX9_add_47 rfl rfl) sa_nil))) T_X9_puts (s_Rcv_of 7 _ _) rfl gX9_add_X9_puts rfl (by decide +kernel) (Nat.le_of_ble_eq_true rfl) (Nat.le_of_ble_eq_true rfl) (s_LenR (s_LenI (s_LenI s_Len0))) dX9_add_48 rfl)
    (ss_retI (pcA := 57) (se_ald (pcA := 55) (pcB := 56) (se_getR (pcA := 52) (T := TX9) (k := 0) (index := 7) (se_aload_n dX9_add_51 rfl rfl) rfl in_X9_add_X9 (Nat.le_of_ble_eq_true rfl) lk_X9_add_7 rfl dX9_add_52 rfl) (se_iconst dX9_add_55 (by decide +kernel) rfl) dX9_add_56 rfl) dX9_add_57 rfl)))))
theorem T_X9_add : sMet vwCl RX6 yX9_add wsX9_add 1 23 M_X9_add := sMet_of rfl (by decide +kernel) rfl rfl (fun h => by cases h) (m_ofV_run _ _ _) S_X9_add (m_ofV_cat _ _ _ (Nat.le_of_ble_eq_true rfl))
def B_X9_take : sStm :=
  (s_seq (s_if (c_not (c_cmp0 i_ne (e_callI M_X9_isStep (a_cr (e_r 0) (a_ci (e_i 1) a_nil)))))
    (s_retI (e_k (-1))) s_skip)
    (s_seq (s_callV M_X9_changes (a_cr (e_r 0) a_nil))
    (s_seq (s_decI 2 (e_callI M_X9_of (a_cr (e_r 0) (a_ci (e_i 1) a_nil))))
    (s_seq (s_callV M_X9_takes (a_cr (e_r 0) (a_ci (e_i 1) a_nil)))
    (s_retI (e_i 2))))))
def M_X9_take : sSem := m_ofV 7 2 B_X9_take
set_option maxRecDepth 100000 in
set_option maxHeartbeats 4000000 in
theorem S_X9_take : sSS (cX9_take, wsX9_take, RX9, (some .int), 2, 43, 3, vwCl, RX6, false) 0 0 B_X9_take :=
  (ss_seq (pcA := 10) (ss_if (pcT := 8) (pcF := 10) (sc_not (sc_Tne0 (pcB := 5) (se_callVI (pcA := 2) (ci := 7) (index := 86) (sa_cr (pcA := 1) (se_aload_n dX9_take_0 rfl rfl) (sa_ci (pcA := 2) (se_iload_n dX9_take_1 rfl rfl) sa_nil)) T_X9_isStep (s_Rcv_of 7 _ _) rfl gX9_take_X9_isStep rfl (by decide +kernel) (Nat.le_of_ble_eq_true rfl) (Nat.le_of_ble_eq_true rfl) (s_LenR (s_LenI s_Len0)) (Nat.le_of_ble_eq_true rfl) dX9_take_2 rfl) dX9_take_5 rfl rfl))
    (ss_retI (pcA := 9) (se_iconst dX9_take_8 (by decide +kernel) rfl) dX9_take_9 rfl) ss_skip)
    (ss_seq (pcA := 14) (ss_callVV (pcA := 11) (ci := 7) (index := 79) (sa_cr (pcA := 11) (se_aload_n dX9_take_10 rfl rfl) sa_nil) T_X9_changes (s_Rcv_of 7 _ _) rfl gX9_take_X9_changes rfl (by decide +kernel) (Nat.le_of_ble_eq_true rfl) (Nat.le_of_ble_eq_true rfl) (s_LenR s_Len0) dX9_take_11 rfl)
    (ss_seq (pcA := 20) (ss_decI_n (pcA := 19) (se_callVI (pcA := 16) (ci := 7) (index := 59) (sa_cr (pcA := 15) (se_aload_n dX9_take_14 rfl rfl) (sa_ci (pcA := 16) (se_iload_n dX9_take_15 rfl rfl) sa_nil)) T_X9_of (s_Rcv_of 7 _ _) rfl gX9_take_X9_of rfl (by decide +kernel) (Nat.le_of_ble_eq_true rfl) (Nat.le_of_ble_eq_true rfl) (s_LenR (s_LenI s_Len0)) (Nat.le_of_ble_eq_true rfl) dX9_take_16 rfl) dX9_take_19 rfl (Nat.le_of_ble_eq_true rfl) rfl)
    (ss_seq (pcA := 25) (ss_callVV (pcA := 22) (ci := 7) (index := 90) (sa_cr (pcA := 21) (se_aload_n dX9_take_20 rfl rfl) (sa_ci (pcA := 22) (se_iload_n dX9_take_21 rfl rfl) sa_nil)) T_X9_takes (s_Rcv_of 7 _ _) rfl gX9_take_X9_takes rfl (by decide +kernel) (Nat.le_of_ble_eq_true rfl) (Nat.le_of_ble_eq_true rfl) (s_LenR (s_LenI s_Len0)) dX9_take_22 rfl)
    (ss_retI (pcA := 26) (se_iload_n dX9_take_25 rfl rfl) dX9_take_26 rfl)))))
theorem T_X9_take : sMet vwCl RX6 yX9_take wsX9_take 2 43 M_X9_take := sMet_of rfl (by decide +kernel) rfl rfl (fun h => by cases h) (m_ofV_run _ _ _) S_X9_take (m_ofV_cat _ _ _ (Nat.le_of_ble_eq_true rfl))
def B_X9_multiple : sStm :=
  (s_retI (e_mul (e_div (e_callI M_X9_of (a_cr (e_r 0) (a_ci (e_i 1) a_nil))) (e_callI M_X9_divisor (a_ci (e_callI M_X9_of (a_cr (e_r 0) (a_ci (e_i 1) a_nil))) (a_ci (e_callI M_X9_of (a_cr (e_r 0) (a_ci (e_add (e_i 1) (e_k (nI 1))) a_nil))) a_nil)))) (e_callI M_X9_of (a_cr (e_r 0) (a_ci (e_add (e_i 1) (e_k (nI 1))) a_nil)))))
def M_X9_multiple : sSem := m_ofV 7 2 B_X9_multiple
set_option maxRecDepth 100000 in
set_option maxHeartbeats 4000000 in
theorem S_X9_multiple : sSS (cX9_multiple, wsX9_multiple, RX9, (some .int), 1, 24, 2, vwCl, RX6, false) 0 0 B_X9_multiple :=
  (ss_retI (pcA := 29) (se_mul (pcA := 21) (pcB := 28) (se_div (pcA := 5) (pcB := 20) (se_callVI (pcA := 2) (ci := 7) (index := 59) (sa_cr (pcA := 1) (se_aload_n dX9_multiple_0 rfl rfl) (sa_ci (pcA := 2) (se_iload_n dX9_multiple_1 rfl rfl) sa_nil)) T_X9_of (s_Rcv_of 7 _ _) rfl gX9_multiple_X9_of rfl (by decide +kernel) (Nat.le_of_ble_eq_true rfl) (Nat.le_of_ble_eq_true rfl) (s_LenR (s_LenI s_Len0)) (Nat.le_of_ble_eq_true rfl) dX9_multiple_2 rfl) (se_callSI (pcA := 17) (index := 62) (sa_ci (pcA := 10) (se_callVI (pcA := 7) (ci := 7) (index := 59) (sa_cr (pcA := 6) (se_aload_n dX9_multiple_5 rfl rfl) (sa_ci (pcA := 7) (se_iload_n dX9_multiple_6 rfl rfl) sa_nil)) T_X9_of (s_Rcv_of 7 _ _) rfl gX9_multiple_X9_of rfl (by decide +kernel) (Nat.le_of_ble_eq_true rfl) (Nat.le_of_ble_eq_true rfl) (s_LenR (s_LenI s_Len0)) (Nat.le_of_ble_eq_true rfl) dX9_multiple_7 rfl) (sa_ci (pcA := 17) (se_callVI (pcA := 14) (ci := 7) (index := 59) (sa_cr (pcA := 11) (se_aload_n dX9_multiple_10 rfl rfl) (sa_ci (pcA := 14) (se_add (pcA := 12) (pcB := 13) (se_iload_n dX9_multiple_11 rfl rfl) (se_iconst dX9_multiple_12 (by decide +kernel) rfl) dX9_multiple_13 rfl) sa_nil)) T_X9_of (s_Rcv_of 7 _ _) rfl gX9_multiple_X9_of rfl (by decide +kernel) (Nat.le_of_ble_eq_true rfl) (Nat.le_of_ble_eq_true rfl) (s_LenR (s_LenI s_Len0)) (Nat.le_of_ble_eq_true rfl) dX9_multiple_14 rfl) sa_nil)) T_X9_divisor gX9_multiple_X9_divisor rfl (by decide +kernel) (Nat.le_of_ble_eq_true rfl) (Nat.le_of_ble_eq_true rfl) (s_LenI (s_LenI s_Len0)) (Nat.le_of_ble_eq_true rfl) dX9_multiple_17 rfl) dX9_multiple_20 rfl) (se_callVI (pcA := 25) (ci := 7) (index := 59) (sa_cr (pcA := 22) (se_aload_n dX9_multiple_21 rfl rfl) (sa_ci (pcA := 25) (se_add (pcA := 23) (pcB := 24) (se_iload_n dX9_multiple_22 rfl rfl) (se_iconst dX9_multiple_23 (by decide +kernel) rfl) dX9_multiple_24 rfl) sa_nil)) T_X9_of (s_Rcv_of 7 _ _) rfl gX9_multiple_X9_of rfl (by decide +kernel) (Nat.le_of_ble_eq_true rfl) (Nat.le_of_ble_eq_true rfl) (s_LenR (s_LenI s_Len0)) (Nat.le_of_ble_eq_true rfl) dX9_multiple_25 rfl) dX9_multiple_28 rfl) dX9_multiple_29 rfl)
theorem T_X9_multiple : sMet vwCl RX6 yX9_multiple wsX9_multiple 1 24 M_X9_multiple := sMet_of rfl (by decide +kernel) rfl rfl (fun h => by cases h) (m_ofV_run _ _ _) S_X9_multiple (m_ofV_cat _ _ _ (Nat.le_of_ble_eq_true rfl))
theorem in_X9_whyNotShared_X9 : ∀ w ∈ u_ws RX9 TX9 18, w ∈ wsX9_whyNotShared := by decide +kernel
theorem lk_X9_whyNotShared_7 : Cond.fieldLink RX9 7 RX9 "s" "[I" ∈ wsX9_whyNotShared := by decide +kernel
def B_X9_whyNotShared : sStm :=
  (s_seq (s_if (c_not (c_cmp0 i_ne (e_callI M_X9_in (a_ci (e_i 1) (a_ci (e_k (nI 0)) (a_ci (e_sub (e_ald (e_getR 7 0 (e_r 0)) (e_k (nI 2))) (e_k (nI 2))) a_nil))))))
    (s_retI (e_k (-1))) s_skip)
    (s_retI (e_if (c_cmp i_gt (e_callI M_X9_multiple (a_cr (e_r 0) (a_ci (e_i 1) a_nil))) (e_k (nI 9999))) (e_k (-3)) (e_k (nI 0)))))
def M_X9_whyNotShared : sSem := m_ofV 7 2 B_X9_whyNotShared
set_option maxRecDepth 100000 in
set_option maxHeartbeats 4000000 in
theorem S_X9_whyNotShared : sSS (cX9_whyNotShared, wsX9_whyNotShared, RX9, (some .int), 2, 45, 2, vwCl, RX6, false) 0 0 B_X9_whyNotShared :=
  (ss_seq (pcA := 18) (ss_if (pcT := 16) (pcF := 18) (sc_not (sc_Tne0 (pcB := 13) (se_callSI (pcA := 10) (index := 51) (sa_ci (pcA := 1) (se_iload_n dX9_whyNotShared_0 rfl rfl) (sa_ci (pcA := 2) (se_iconst dX9_whyNotShared_1 (by decide +kernel) rfl) (sa_ci (pcA := 10) (se_sub (pcA := 8) (pcB := 9) (se_ald (pcA := 6) (pcB := 7) (se_getR (pcA := 3) (T := TX9) (k := 0) (index := 7) (se_aload_n dX9_whyNotShared_2 rfl rfl) rfl in_X9_whyNotShared_X9 (Nat.le_of_ble_eq_true rfl) lk_X9_whyNotShared_7 rfl dX9_whyNotShared_3 rfl) (se_iconst dX9_whyNotShared_6 (by decide +kernel) rfl) dX9_whyNotShared_7 rfl) (se_iconst dX9_whyNotShared_8 (by decide +kernel) rfl) dX9_whyNotShared_9 rfl) sa_nil))) T_X9_in gX9_whyNotShared_X9_in rfl (by decide +kernel) (Nat.le_of_ble_eq_true rfl) (Nat.le_of_ble_eq_true rfl) (s_LenI (s_LenI (s_LenI s_Len0))) (Nat.le_of_ble_eq_true rfl) dX9_whyNotShared_10 rfl) dX9_whyNotShared_13 rfl rfl))
    (ss_retI (pcA := 17) (se_iconst dX9_whyNotShared_16 (by decide +kernel) rfl) dX9_whyNotShared_17 rfl) ss_skip)
    (ss_retI (pcA := 35) (se_if (pcT := 29) (pcF := 34) (pcG := 31) (sc_Fgt (pcA := 23) (pcB := 26) (se_callVI (pcA := 20) (ci := 7) (index := 94) (sa_cr (pcA := 19) (se_aload_n dX9_whyNotShared_18 rfl rfl) (sa_ci (pcA := 20) (se_iload_n dX9_whyNotShared_19 rfl rfl) sa_nil)) T_X9_multiple (s_Rcv_of 7 _ _) rfl gX9_whyNotShared_X9_multiple rfl (by decide +kernel) (Nat.le_of_ble_eq_true rfl) (Nat.le_of_ble_eq_true rfl) (s_LenR (s_LenI s_Len0)) (Nat.le_of_ble_eq_true rfl) dX9_whyNotShared_20 rfl) (se_sipush dX9_whyNotShared_23 (by decide +kernel) rfl) dX9_whyNotShared_26 rfl rfl) (se_bipush dX9_whyNotShared_29 (by decide +kernel) rfl) dX9_whyNotShared_31 rfl (se_iconst dX9_whyNotShared_34 (by decide +kernel) rfl)) dX9_whyNotShared_35 rfl))
theorem T_X9_whyNotShared : sMet vwCl RX6 yX9_whyNotShared wsX9_whyNotShared 2 45 M_X9_whyNotShared := sMet_of rfl (by decide +kernel) rfl rfl (fun h => by cases h) (m_ofV_run _ _ _) S_X9_whyNotShared (m_ofV_cat _ _ _ (Nat.le_of_ble_eq_true rfl))
theorem in_X9_shares_X9 : ∀ w ∈ u_ws RX9 TX9 18, w ∈ wsX9_shares := by decide +kernel
theorem lk_X9_shares_7 : Cond.fieldLink RX9 7 RX9 "s" "[I" ∈ wsX9_shares := by decide +kernel
def B_X9_shares : sStm :=
  (s_seq (s_decI 2 (e_callI M_X9_multiple (a_cr (e_r 0) (a_ci (e_i 1) a_nil))))
    (s_seq (s_ast (e_getR 7 0 (e_r 0)) (e_add (e_k (nI 4)) (e_i 1)) (e_callI M_X9_divisor (a_ci (e_callI M_X9_of (a_cr (e_r 0) (a_ci (e_i 1) a_nil))) (a_ci (e_callI M_X9_of (a_cr (e_r 0) (a_ci (e_add (e_i 1) (e_k (nI 1))) a_nil))) a_nil))))
    (s_seq (s_ast (e_getR 7 0 (e_r 0)) (e_add (e_add (e_k (nI 4)) (e_i 1)) (e_k (nI 1))) (e_i 2))
    (s_retI (e_callI M_X9_of (a_cr (e_r 0) (a_ci (e_i 1) a_nil)))))))
def M_X9_shares : sSem := m_ofV 7 2 B_X9_shares
set_option maxRecDepth 100000 in
set_option maxHeartbeats 4000000 in
theorem S_X9_shares : sSS (cX9_shares, wsX9_shares, RX9, (some .int), 2, 45, 3, vwCl, RX6, false) 0 0 B_X9_shares :=
  (ss_seq (pcA := 6) (ss_decI_n (pcA := 5) (se_callVI (pcA := 2) (ci := 7) (index := 94) (sa_cr (pcA := 1) (se_aload_n dX9_shares_0 rfl rfl) (sa_ci (pcA := 2) (se_iload_n dX9_shares_1 rfl rfl) sa_nil)) T_X9_multiple (s_Rcv_of 7 _ _) rfl gX9_shares_X9_multiple rfl (by decide +kernel) (Nat.le_of_ble_eq_true rfl) (Nat.le_of_ble_eq_true rfl) (s_LenR (s_LenI s_Len0)) (Nat.le_of_ble_eq_true rfl) dX9_shares_2 rfl) dX9_shares_5 rfl (Nat.le_of_ble_eq_true rfl) rfl)
    (ss_seq (pcA := 29) (ss_ast (pcA := 10) (pcI := 13) (pcB := 28) (se_getR (pcA := 7) (T := TX9) (k := 0) (index := 7) (se_aload_n dX9_shares_6 rfl rfl) rfl in_X9_shares_X9 (Nat.le_of_ble_eq_true rfl) lk_X9_shares_7 rfl dX9_shares_7 rfl) (se_add (pcA := 11) (pcB := 12) (se_iconst dX9_shares_10 (by decide +kernel) rfl) (se_iload_n dX9_shares_11 rfl rfl) dX9_shares_12 rfl) (se_callSI (pcA := 25) (index := 62) (sa_ci (pcA := 18) (se_callVI (pcA := 15) (ci := 7) (index := 59) (sa_cr (pcA := 14) (se_aload_n dX9_shares_13 rfl rfl) (sa_ci (pcA := 15) (se_iload_n dX9_shares_14 rfl rfl) sa_nil)) T_X9_of (s_Rcv_of 7 _ _) rfl gX9_shares_X9_of rfl (by decide +kernel) (Nat.le_of_ble_eq_true rfl) (Nat.le_of_ble_eq_true rfl) (s_LenR (s_LenI s_Len0)) (Nat.le_of_ble_eq_true rfl) dX9_shares_15 rfl) (sa_ci (pcA := 25) (se_callVI (pcA := 22) (ci := 7) (index := 59) (sa_cr (pcA := 19) (se_aload_n dX9_shares_18 rfl rfl) (sa_ci (pcA := 22) (se_add (pcA := 20) (pcB := 21) (se_iload_n dX9_shares_19 rfl rfl) (se_iconst dX9_shares_20 (by decide +kernel) rfl) dX9_shares_21 rfl) sa_nil)) T_X9_of (s_Rcv_of 7 _ _) rfl gX9_shares_X9_of rfl (by decide +kernel) (Nat.le_of_ble_eq_true rfl) (Nat.le_of_ble_eq_true rfl) (s_LenR (s_LenI s_Len0)) (Nat.le_of_ble_eq_true rfl) dX9_shares_22 rfl) sa_nil)) T_X9_divisor gX9_shares_X9_divisor rfl (by decide +kernel) (Nat.le_of_ble_eq_true rfl) (Nat.le_of_ble_eq_true rfl) (s_LenI (s_LenI s_Len0)) (Nat.le_of_ble_eq_true rfl) dX9_shares_25 rfl) dX9_shares_28 rfl)
    (ss_seq (pcA := 40) (ss_ast (pcA := 33) (pcI := 38) (pcB := 39) (se_getR (pcA := 30) (T := TX9) (k := 0) (index := 7) (se_aload_n dX9_shares_29 rfl rfl) rfl in_X9_shares_X9 (Nat.le_of_ble_eq_true rfl) lk_X9_shares_7 rfl dX9_shares_30 rfl) (se_add (pcA := 36) (pcB := 37) (se_add (pcA := 34) (pcB := 35) (se_iconst dX9_shares_33 (by decide +kernel) rfl) (se_iload_n dX9_shares_34 rfl rfl) dX9_shares_35 rfl) (se_iconst dX9_shares_36 (by decide +kernel) rfl) dX9_shares_37 rfl) (se_iload_n dX9_shares_38 rfl rfl) dX9_shares_39 rfl)
    (ss_retI (pcA := 45) (se_callVI (pcA := 42) (ci := 7) (index := 59) (sa_cr (pcA := 41) (se_aload_n dX9_shares_40 rfl rfl) (sa_ci (pcA := 42) (se_iload_n dX9_shares_41 rfl rfl) sa_nil)) T_X9_of (s_Rcv_of 7 _ _) rfl gX9_shares_X9_of rfl (by decide +kernel) (Nat.le_of_ble_eq_true rfl) (Nat.le_of_ble_eq_true rfl) (s_LenR (s_LenI s_Len0)) (Nat.le_of_ble_eq_true rfl) dX9_shares_42 rfl) dX9_shares_45 rfl))))
theorem T_X9_shares : sMet vwCl RX6 yX9_shares wsX9_shares 2 45 M_X9_shares := sMet_of rfl (by decide +kernel) rfl rfl (fun h => by cases h) (m_ofV_run _ _ _) S_X9_shares (m_ofV_cat _ _ _ (Nat.le_of_ble_eq_true rfl))
def B_X9_share : sStm :=
  (s_seq (s_decI 2 (e_callI M_X9_whyNotShared (a_cr (e_r 0) (a_ci (e_i 1) a_nil))))
    (s_seq (s_if (c_cmp0 i_lt (e_i 2))
    (s_retI (e_i 2)) s_skip)
    (s_seq (s_callV M_X9_changes (a_cr (e_r 0) a_nil))
    (s_retI (e_callI M_X9_shares (a_cr (e_r 0) (a_ci (e_i 1) a_nil)))))))
def M_X9_share : sSem := m_ofV 7 2 B_X9_share
set_option maxRecDepth 100000 in
set_option maxHeartbeats 4000000 in
theorem S_X9_share : sSS (cX9_share, wsX9_share, RX9, (some .int), 3, 67, 3, vwCl, RX6, false) 0 0 B_X9_share :=
  (ss_seq (pcA := 6) (ss_decI_n (pcA := 5) (se_callVI (pcA := 2) (ci := 7) (index := 97) (sa_cr (pcA := 1) (se_aload_n dX9_share_0 rfl rfl) (sa_ci (pcA := 2) (se_iload_n dX9_share_1 rfl rfl) sa_nil)) T_X9_whyNotShared (s_Rcv_of 7 _ _) rfl gX9_share_X9_whyNotShared rfl (by decide +kernel) (Nat.le_of_ble_eq_true rfl) (Nat.le_of_ble_eq_true rfl) (s_LenR (s_LenI s_Len0)) (Nat.le_of_ble_eq_true rfl) dX9_share_2 rfl) dX9_share_5 rfl (Nat.le_of_ble_eq_true rfl) rfl)
    (ss_seq (pcA := 12) (ss_if (pcT := 10) (pcF := 12) (sc_Flt0 (pcB := 7) (se_iload_n dX9_share_6 rfl rfl) dX9_share_7 rfl rfl)
    (ss_retI (pcA := 11) (se_iload_n dX9_share_10 rfl rfl) dX9_share_11 rfl) ss_skip)
    (ss_seq (pcA := 16) (ss_callVV (pcA := 13) (ci := 7) (index := 79) (sa_cr (pcA := 13) (se_aload_n dX9_share_12 rfl rfl) sa_nil) T_X9_changes (s_Rcv_of 7 _ _) rfl gX9_share_X9_changes rfl (by decide +kernel) (Nat.le_of_ble_eq_true rfl) (Nat.le_of_ble_eq_true rfl) (s_LenR s_Len0) dX9_share_13 rfl)
    (ss_retI (pcA := 21) (se_callVI (pcA := 18) (ci := 7) (index := 100) (sa_cr (pcA := 17) (se_aload_n dX9_share_16 rfl rfl) (sa_ci (pcA := 18) (se_iload_n dX9_share_17 rfl rfl) sa_nil)) T_X9_shares (s_Rcv_of 7 _ _) rfl gX9_share_X9_shares rfl (by decide +kernel) (Nat.le_of_ble_eq_true rfl) (Nat.le_of_ble_eq_true rfl) (s_LenR (s_LenI s_Len0)) (Nat.le_of_ble_eq_true rfl) dX9_share_18 rfl) dX9_share_21 rfl))))
theorem T_X9_share : sMet vwCl RX6 yX9_share wsX9_share 3 67 M_X9_share := sMet_of rfl (by decide +kernel) rfl rfl (fun h => by cases h) (m_ofV_run _ _ _) S_X9_share (m_ofV_cat _ _ _ (Nat.le_of_ble_eq_true rfl))
theorem in_X9_whyNotDivided_X9 : ∀ w ∈ u_ws RX9 TX9 18, w ∈ wsX9_whyNotDivided := by decide +kernel
theorem lk_X9_whyNotDivided_7 : Cond.fieldLink RX9 7 RX9 "s" "[I" ∈ wsX9_whyNotDivided := by decide +kernel
def B_X9_whyNotDivided : sStm :=
  (s_seq (s_if (c_not (c_cmp0 i_ne (e_callI M_X9_in (a_ci (e_i 1) (a_ci (e_k (nI 0)) (a_ci (e_sub (e_ald (e_getR 7 0 (e_r 0)) (e_k (nI 2))) (e_k (nI 2))) a_nil))))))
    (s_retI (e_k (-1))) s_skip)
    (s_retI (e_if (c_cmp0 i_eq (e_rem (e_callI M_X9_of (a_cr (e_r 0) (a_ci (e_add (e_i 1) (e_k (nI 1))) a_nil))) (e_callI M_X9_of (a_cr (e_r 0) (a_ci (e_i 1) a_nil))))) (e_k (nI 0)) (e_k (-2)))))
def M_X9_whyNotDivided : sSem := m_ofV 7 2 B_X9_whyNotDivided
set_option maxRecDepth 100000 in
set_option maxHeartbeats 4000000 in
theorem S_X9_whyNotDivided : sSS (cX9_whyNotDivided, wsX9_whyNotDivided, RX9, (some .int), 1, 22, 2, vwCl, RX6, false) 0 0 B_X9_whyNotDivided :=
  (ss_seq (pcA := 18) (ss_if (pcT := 16) (pcF := 18) (sc_not (sc_Tne0 (pcB := 13) (se_callSI (pcA := 10) (index := 51) (sa_ci (pcA := 1) (se_iload_n dX9_whyNotDivided_0 rfl rfl) (sa_ci (pcA := 2) (se_iconst dX9_whyNotDivided_1 (by decide +kernel) rfl) (sa_ci (pcA := 10) (se_sub (pcA := 8) (pcB := 9) (se_ald (pcA := 6) (pcB := 7) (se_getR (pcA := 3) (T := TX9) (k := 0) (index := 7) (se_aload_n dX9_whyNotDivided_2 rfl rfl) rfl in_X9_whyNotDivided_X9 (Nat.le_of_ble_eq_true rfl) lk_X9_whyNotDivided_7 rfl dX9_whyNotDivided_3 rfl) (se_iconst dX9_whyNotDivided_6 (by decide +kernel) rfl) dX9_whyNotDivided_7 rfl) (se_iconst dX9_whyNotDivided_8 (by decide +kernel) rfl) dX9_whyNotDivided_9 rfl) sa_nil))) T_X9_in gX9_whyNotDivided_X9_in rfl (by decide +kernel) (Nat.le_of_ble_eq_true rfl) (Nat.le_of_ble_eq_true rfl) (s_LenI (s_LenI (s_LenI s_Len0))) (Nat.le_of_ble_eq_true rfl) dX9_whyNotDivided_10 rfl) dX9_whyNotDivided_13 rfl rfl))
    (ss_retI (pcA := 17) (se_iconst dX9_whyNotDivided_16 (by decide +kernel) rfl) dX9_whyNotDivided_17 rfl) ss_skip)
    (ss_retI (pcA := 40) (se_if (pcT := 34) (pcF := 38) (pcG := 35) (sc_Feq0 (pcB := 31) (se_rem (pcA := 25) (pcB := 30) (se_callVI (pcA := 22) (ci := 7) (index := 59) (sa_cr (pcA := 19) (se_aload_n dX9_whyNotDivided_18 rfl rfl) (sa_ci (pcA := 22) (se_add (pcA := 20) (pcB := 21) (se_iload_n dX9_whyNotDivided_19 rfl rfl) (se_iconst dX9_whyNotDivided_20 (by decide +kernel) rfl) dX9_whyNotDivided_21 rfl) sa_nil)) T_X9_of (s_Rcv_of 7 _ _) rfl gX9_whyNotDivided_X9_of rfl (by decide +kernel) (Nat.le_of_ble_eq_true rfl) (Nat.le_of_ble_eq_true rfl) (s_LenR (s_LenI s_Len0)) (Nat.le_of_ble_eq_true rfl) dX9_whyNotDivided_22 rfl) (se_callVI (pcA := 27) (ci := 7) (index := 59) (sa_cr (pcA := 26) (se_aload_n dX9_whyNotDivided_25 rfl rfl) (sa_ci (pcA := 27) (se_iload_n dX9_whyNotDivided_26 rfl rfl) sa_nil)) T_X9_of (s_Rcv_of 7 _ _) rfl gX9_whyNotDivided_X9_of rfl (by decide +kernel) (Nat.le_of_ble_eq_true rfl) (Nat.le_of_ble_eq_true rfl) (s_LenR (s_LenI s_Len0)) (Nat.le_of_ble_eq_true rfl) dX9_whyNotDivided_27 rfl) dX9_whyNotDivided_30 rfl) dX9_whyNotDivided_31 rfl rfl) (se_iconst dX9_whyNotDivided_34 (by decide +kernel) rfl) dX9_whyNotDivided_35 rfl (se_bipush dX9_whyNotDivided_38 (by decide +kernel) rfl)) dX9_whyNotDivided_40 rfl))
theorem T_X9_whyNotDivided : sMet vwCl RX6 yX9_whyNotDivided wsX9_whyNotDivided 1 22 M_X9_whyNotDivided := sMet_of rfl (by decide +kernel) rfl rfl (fun h => by cases h) (m_ofV_run _ _ _) S_X9_whyNotDivided (m_ofV_cat _ _ _ (Nat.le_of_ble_eq_true rfl))
theorem in_X9_breaks_X9 : ∀ w ∈ u_ws RX9 TX9 18, w ∈ wsX9_breaks := by decide +kernel
theorem lk_X9_breaks_7 : Cond.fieldLink RX9 7 RX9 "s" "[I" ∈ wsX9_breaks := by decide +kernel
def B_X9_breaks : sStm :=
  (s_seq (s_if (c_cmp i_eq (e_callI M_X9_of (a_cr (e_r 0) (a_ci (e_i 1) a_nil))) (e_k (nI 1)))
    (s_seq (s_callV M_X9_takes (a_cr (e_r 0) (a_ci (e_i 1) a_nil)))
    (s_astop (e_getR 7 0 (e_r 0)) (e_k (nI 3)) (fun x z => x + z) (e_k (nI 1)))) s_skip)
    s_ret0)
def M_X9_breaks : sSem := m_ofV 7 2 B_X9_breaks
set_option maxRecDepth 100000 in
set_option maxHeartbeats 4000000 in
theorem S_X9_breaks : sSS (cX9_breaks, wsX9_breaks, RX9, none, 1, 22, 2, vwCl, RX6, false) 0 0 B_X9_breaks :=
  (ss_seq (pcA := 24) (ss_if (pcT := 9) (pcF := 24) (sc_Feq (pcA := 5) (pcB := 6) (se_callVI (pcA := 2) (ci := 7) (index := 59) (sa_cr (pcA := 1) (se_aload_n dX9_breaks_0 rfl rfl) (sa_ci (pcA := 2) (se_iload_n dX9_breaks_1 rfl rfl) sa_nil)) T_X9_of (s_Rcv_of 7 _ _) rfl gX9_breaks_X9_of rfl (by decide +kernel) (Nat.le_of_ble_eq_true rfl) (Nat.le_of_ble_eq_true rfl) (s_LenR (s_LenI s_Len0)) (Nat.le_of_ble_eq_true rfl) dX9_breaks_2 rfl) (se_iconst dX9_breaks_5 (by decide +kernel) rfl) dX9_breaks_6 rfl rfl)
    (ss_seq (pcA := 14) (ss_callVV (pcA := 11) (ci := 7) (index := 90) (sa_cr (pcA := 10) (se_aload_n dX9_breaks_9 rfl rfl) (sa_ci (pcA := 11) (se_iload_n dX9_breaks_10 rfl rfl) sa_nil)) T_X9_takes (s_Rcv_of 7 _ _) rfl gX9_breaks_X9_takes rfl (by decide +kernel) (Nat.le_of_ble_eq_true rfl) (Nat.le_of_ble_eq_true rfl) (s_LenR (s_LenI s_Len0)) dX9_breaks_11 rfl)
    (ss_astop (pcA := 18) (pcI := 19) (pcD := 20) (pcL := 21) (pcB := 22) (pcO := 23) (se_getR (pcA := 15) (T := TX9) (k := 0) (index := 7) (se_aload_n dX9_breaks_14 rfl rfl) rfl in_X9_breaks_X9 (Nat.le_of_ble_eq_true rfl) lk_X9_breaks_7 rfl dX9_breaks_15 rfl) (se_iconst dX9_breaks_18 (by decide +kernel) rfl) dX9_breaks_19 rfl dX9_breaks_20 rfl (se_iconst dX9_breaks_21 (by decide +kernel) rfl) (Or.inl ⟨dX9_breaks_22, rfl⟩) rfl dX9_breaks_23 rfl)) ss_skip)
    (ss_ret0 dX9_breaks_24 rfl))
theorem T_X9_breaks : sMet vwCl RX6 yX9_breaks wsX9_breaks 1 22 M_X9_breaks := sMet_of rfl (by decide +kernel) rfl rfl (fun h => by cases h) (m_ofV_run _ _ _) S_X9_breaks (m_ofV_cat _ _ _ (Nat.le_of_ble_eq_true rfl))
theorem in_X9_divides_X9 : ∀ w ∈ u_ws RX9 TX9 18, w ∈ wsX9_divides := by decide +kernel
theorem lk_X9_divides_7 : Cond.fieldLink RX9 7 RX9 "s" "[I" ∈ wsX9_divides := by decide +kernel
abbrev C_X9_divides_1 : sCd := (c_cmp i_gt (e_i 2) (e_k (nI 1)))
abbrev W_X9_divides_1 : sStm :=
  (s_blk 4 (s_seq (s_decI 4 (e_callI M_X9_leastFactor (a_ci (e_i 2) a_nil)))
    (s_seq (s_astop (e_getR 7 0 (e_r 0)) (e_add (e_k (nI 16)) (e_callI M_X9_rank (a_cr (e_r 0) (a_ci (e_i 4) a_nil)))) (fun x z => x + z) (e_k (nI 1)))
    (s_setI 2 (e_div (e_i 2) (e_i 4))))))
def B_X9_divides : sStm :=
  (s_seq (s_decI 2 (e_callI M_X9_of (a_cr (e_r 0) (a_ci (e_i 1) a_nil))))
    (s_seq (s_decI 3 (e_div (e_callI M_X9_of (a_cr (e_r 0) (a_ci (e_add (e_i 1) (e_k (nI 1))) a_nil))) (e_i 2)))
    (s_seq (s_while C_X9_divides_1 W_X9_divides_1)
    (s_seq (s_ast (e_getR 7 0 (e_r 0)) (e_add (e_add (e_k (nI 4)) (e_i 1)) (e_k (nI 1))) (e_i 3))
    (s_seq (s_callV M_X9_breaks (a_cr (e_r 0) (a_ci (e_add (e_i 1) (e_k (nI 1))) a_nil)))
    (s_retI (e_i 3)))))))
def M_X9_divides : sSem := m_ofV 7 2 B_X9_divides
set_option maxRecDepth 100000 in
set_option maxHeartbeats 4000000 in
theorem S_X9_divides : sSS (cX9_divides, wsX9_divides, RX9, (some .int), 2, 43, 5, vwCl, RX6, false) 0 0 B_X9_divides :=
  (ss_seq (pcA := 6) (ss_decI_n (pcA := 5) (se_callVI (pcA := 2) (ci := 7) (index := 59) (sa_cr (pcA := 1) (se_aload_n dX9_divides_0 rfl rfl) (sa_ci (pcA := 2) (se_iload_n dX9_divides_1 rfl rfl) sa_nil)) T_X9_of (s_Rcv_of 7 _ _) rfl gX9_divides_X9_of rfl (by decide +kernel) (Nat.le_of_ble_eq_true rfl) (Nat.le_of_ble_eq_true rfl) (s_LenR (s_LenI s_Len0)) (Nat.le_of_ble_eq_true rfl) dX9_divides_2 rfl) dX9_divides_5 rfl (Nat.le_of_ble_eq_true rfl) rfl)
    (ss_seq (pcA := 16) (ss_decI_n (pcA := 15) (se_div (pcA := 13) (pcB := 14) (se_callVI (pcA := 10) (ci := 7) (index := 59) (sa_cr (pcA := 7) (se_aload_n dX9_divides_6 rfl rfl) (sa_ci (pcA := 10) (se_add (pcA := 8) (pcB := 9) (se_iload_n dX9_divides_7 rfl rfl) (se_iconst dX9_divides_8 (by decide +kernel) rfl) dX9_divides_9 rfl) sa_nil)) T_X9_of (s_Rcv_of 7 _ _) rfl gX9_divides_X9_of rfl (by decide +kernel) (Nat.le_of_ble_eq_true rfl) (Nat.le_of_ble_eq_true rfl) (s_LenR (s_LenI s_Len0)) (Nat.le_of_ble_eq_true rfl) dX9_divides_10 rfl) (se_iload_n dX9_divides_13 rfl rfl) dX9_divides_14 rfl) dX9_divides_15 rfl (Nat.le_of_ble_eq_true rfl) rfl)
    (ss_seq (pcA := 53) (ss_while (pcB := 21) (sc_Fgt (pcA := 17) (pcB := 18) (se_iload_n dX9_divides_16 rfl rfl) (se_iconst dX9_divides_17 (by decide +kernel) rfl) dX9_divides_18 rfl rfl)
    (ss_blk (ss_seq (pcA := 27) (ss_decI (pcA := 25) (se_callSI (pcA := 22) (index := 55) (sa_ci (pcA := 22) (se_iload_n dX9_divides_21 rfl rfl) sa_nil) T_X9_leastFactor gX9_divides_X9_leastFactor rfl (by decide +kernel) (Nat.le_of_ble_eq_true rfl) (Nat.le_of_ble_eq_true rfl) (s_LenI s_Len0) (Nat.le_of_ble_eq_true rfl) dX9_divides_22 rfl) dX9_divides_25 (Nat.le_of_ble_eq_true rfl) rfl)
    (ss_seq (pcA := 45) (ss_astop (pcA := 31) (pcI := 40) (pcD := 41) (pcL := 42) (pcB := 43) (pcO := 44) (se_getR (pcA := 28) (T := TX9) (k := 0) (index := 7) (se_aload_n dX9_divides_27 rfl rfl) rfl in_X9_divides_X9 (Nat.le_of_ble_eq_true rfl) lk_X9_divides_7 rfl dX9_divides_28 rfl) (se_add (pcA := 33) (pcB := 39) (se_bipush dX9_divides_31 (by decide +kernel) rfl) (se_callVI (pcA := 36) (ci := 7) (index := 103) (sa_cr (pcA := 34) (se_aload_n dX9_divides_33 rfl rfl) (sa_ci (pcA := 36) (se_iload dX9_divides_34 rfl) sa_nil)) T_X9_rank (s_Rcv_of 7 _ _) rfl gX9_divides_X9_rank rfl (by decide +kernel) (Nat.le_of_ble_eq_true rfl) (Nat.le_of_ble_eq_true rfl) (s_LenR (s_LenI s_Len0)) (Nat.le_of_ble_eq_true rfl) dX9_divides_36 rfl) dX9_divides_39 rfl) dX9_divides_40 rfl dX9_divides_41 rfl (se_iconst dX9_divides_42 (by decide +kernel) rfl) (Or.inl ⟨dX9_divides_43, rfl⟩) rfl dX9_divides_44 rfl)
    (ss_goto (pcG := 50) (ss_setI_n (pcA := 49) (se_div (pcA := 46) (pcB := 48) (se_iload_n dX9_divides_45 rfl rfl) (se_iload dX9_divides_46 rfl) dX9_divides_48 rfl) dX9_divides_49 rfl (Nat.le_of_ble_eq_true rfl) rfl) dX9_divides_50 rfl)))))
    (ss_seq (pcA := 64) (ss_ast (pcA := 57) (pcI := 62) (pcB := 63) (se_getR (pcA := 54) (T := TX9) (k := 0) (index := 7) (se_aload_n dX9_divides_53 rfl rfl) rfl in_X9_divides_X9 (Nat.le_of_ble_eq_true rfl) lk_X9_divides_7 rfl dX9_divides_54 rfl) (se_add (pcA := 60) (pcB := 61) (se_add (pcA := 58) (pcB := 59) (se_iconst dX9_divides_57 (by decide +kernel) rfl) (se_iload_n dX9_divides_58 rfl rfl) dX9_divides_59 rfl) (se_iconst dX9_divides_60 (by decide +kernel) rfl) dX9_divides_61 rfl) (se_iload_n dX9_divides_62 rfl rfl) dX9_divides_63 rfl)
    (ss_seq (pcA := 71) (ss_callVV (pcA := 68) (ci := 7) (index := 106) (sa_cr (pcA := 65) (se_aload_n dX9_divides_64 rfl rfl) (sa_ci (pcA := 68) (se_add (pcA := 66) (pcB := 67) (se_iload_n dX9_divides_65 rfl rfl) (se_iconst dX9_divides_66 (by decide +kernel) rfl) dX9_divides_67 rfl) sa_nil)) T_X9_breaks (s_Rcv_of 7 _ _) rfl gX9_divides_X9_breaks rfl (by decide +kernel) (Nat.le_of_ble_eq_true rfl) (Nat.le_of_ble_eq_true rfl) (s_LenR (s_LenI s_Len0)) dX9_divides_68 rfl)
    (ss_retI (pcA := 72) (se_iload_n dX9_divides_71 rfl rfl) dX9_divides_72 rfl))))))
theorem T_X9_divides : sMet vwCl RX6 yX9_divides wsX9_divides 2 43 M_X9_divides := sMet_of rfl (by decide +kernel) rfl rfl (fun h => by cases h) (m_ofV_run _ _ _) S_X9_divides (m_ofV_cat _ _ _ (Nat.le_of_ble_eq_true rfl))
def B_X9_divide : sStm :=
  (s_seq (s_decI 2 (e_callI M_X9_whyNotDivided (a_cr (e_r 0) (a_ci (e_i 1) a_nil))))
    (s_seq (s_if (c_cmp0 i_lt (e_i 2))
    (s_retI (e_i 2)) s_skip)
    (s_seq (s_callV M_X9_changes (a_cr (e_r 0) a_nil))
    (s_retI (e_callI M_X9_divides (a_cr (e_r 0) (a_ci (e_i 1) a_nil)))))))
def M_X9_divide : sSem := m_ofV 7 2 B_X9_divide
set_option maxRecDepth 100000 in
set_option maxHeartbeats 4000000 in
theorem S_X9_divide : sSS (cX9_divide, wsX9_divide, RX9, (some .int), 3, 67, 3, vwCl, RX6, false) 0 0 B_X9_divide :=
  (ss_seq (pcA := 6) (ss_decI_n (pcA := 5) (se_callVI (pcA := 2) (ci := 7) (index := 109) (sa_cr (pcA := 1) (se_aload_n dX9_divide_0 rfl rfl) (sa_ci (pcA := 2) (se_iload_n dX9_divide_1 rfl rfl) sa_nil)) T_X9_whyNotDivided (s_Rcv_of 7 _ _) rfl gX9_divide_X9_whyNotDivided rfl (by decide +kernel) (Nat.le_of_ble_eq_true rfl) (Nat.le_of_ble_eq_true rfl) (s_LenR (s_LenI s_Len0)) (Nat.le_of_ble_eq_true rfl) dX9_divide_2 rfl) dX9_divide_5 rfl (Nat.le_of_ble_eq_true rfl) rfl)
    (ss_seq (pcA := 12) (ss_if (pcT := 10) (pcF := 12) (sc_Flt0 (pcB := 7) (se_iload_n dX9_divide_6 rfl rfl) dX9_divide_7 rfl rfl)
    (ss_retI (pcA := 11) (se_iload_n dX9_divide_10 rfl rfl) dX9_divide_11 rfl) ss_skip)
    (ss_seq (pcA := 16) (ss_callVV (pcA := 13) (ci := 7) (index := 79) (sa_cr (pcA := 13) (se_aload_n dX9_divide_12 rfl rfl) sa_nil) T_X9_changes (s_Rcv_of 7 _ _) rfl gX9_divide_X9_changes rfl (by decide +kernel) (Nat.le_of_ble_eq_true rfl) (Nat.le_of_ble_eq_true rfl) (s_LenR s_Len0) dX9_divide_13 rfl)
    (ss_retI (pcA := 21) (se_callVI (pcA := 18) (ci := 7) (index := 112) (sa_cr (pcA := 17) (se_aload_n dX9_divide_16 rfl rfl) (sa_ci (pcA := 18) (se_iload_n dX9_divide_17 rfl rfl) sa_nil)) T_X9_divides (s_Rcv_of 7 _ _) rfl gX9_divide_X9_divides rfl (by decide +kernel) (Nat.le_of_ble_eq_true rfl) (Nat.le_of_ble_eq_true rfl) (s_LenR (s_LenI s_Len0)) (Nat.le_of_ble_eq_true rfl) dX9_divide_18 rfl) dX9_divide_21 rfl))))
theorem T_X9_divide : sMet vwCl RX6 yX9_divide wsX9_divide 3 67 M_X9_divide := sMet_of rfl (by decide +kernel) rfl rfl (fun h => by cases h) (m_ofV_run _ _ _) S_X9_divide (m_ofV_cat _ _ _ (Nat.le_of_ble_eq_true rfl))
theorem in_X9_strikes_X9 : ∀ w ∈ u_ws RX9 TX9 18, w ∈ wsX9_strikes := by decide +kernel
theorem lk_X9_strikes_7 : Cond.fieldLink RX9 7 RX9 "s" "[I" ∈ wsX9_strikes := by decide +kernel
def B_X9_strikes : sStm :=
  (s_seq (s_decI 3 (e_div (e_callI M_X9_of (a_cr (e_r 0) (a_ci (e_i 1) a_nil))) (e_i 2)))
    (s_seq (s_ast (e_getR 7 0 (e_r 0)) (e_add (e_k (nI 4)) (e_i 1)) (e_i 3))
    (s_seq (s_astop (e_getR 7 0 (e_r 0)) (e_add (e_k (nI 16)) (e_callI M_X9_rank (a_cr (e_r 0) (a_ci (e_i 2) a_nil)))) (fun x z => x + z) (e_k (nI 1)))
    (s_seq (s_callV M_X9_breaks (a_cr (e_r 0) (a_ci (e_i 1) a_nil)))
    (s_retI (e_i 3))))))
def M_X9_strikes : sSem := m_ofV 7 3 B_X9_strikes
set_option maxRecDepth 100000 in
set_option maxHeartbeats 4000000 in
theorem S_X9_strikes : sSS (cX9_strikes, wsX9_strikes, RX9, (some .int), 2, 43, 4, vwCl, RX6, false) 0 0 B_X9_strikes :=
  (ss_seq (pcA := 8) (ss_decI_n (pcA := 7) (se_div (pcA := 5) (pcB := 6) (se_callVI (pcA := 2) (ci := 7) (index := 59) (sa_cr (pcA := 1) (se_aload_n dX9_strikes_0 rfl rfl) (sa_ci (pcA := 2) (se_iload_n dX9_strikes_1 rfl rfl) sa_nil)) T_X9_of (s_Rcv_of 7 _ _) rfl gX9_strikes_X9_of rfl (by decide +kernel) (Nat.le_of_ble_eq_true rfl) (Nat.le_of_ble_eq_true rfl) (s_LenR (s_LenI s_Len0)) (Nat.le_of_ble_eq_true rfl) dX9_strikes_2 rfl) (se_iload_n dX9_strikes_5 rfl rfl) dX9_strikes_6 rfl) dX9_strikes_7 rfl (Nat.le_of_ble_eq_true rfl) rfl)
    (ss_seq (pcA := 17) (ss_ast (pcA := 12) (pcI := 15) (pcB := 16) (se_getR (pcA := 9) (T := TX9) (k := 0) (index := 7) (se_aload_n dX9_strikes_8 rfl rfl) rfl in_X9_strikes_X9 (Nat.le_of_ble_eq_true rfl) lk_X9_strikes_7 rfl dX9_strikes_9 rfl) (se_add (pcA := 13) (pcB := 14) (se_iconst dX9_strikes_12 (by decide +kernel) rfl) (se_iload_n dX9_strikes_13 rfl rfl) dX9_strikes_14 rfl) (se_iload_n dX9_strikes_15 rfl rfl) dX9_strikes_16 rfl)
    (ss_seq (pcA := 34) (ss_astop (pcA := 21) (pcI := 29) (pcD := 30) (pcL := 31) (pcB := 32) (pcO := 33) (se_getR (pcA := 18) (T := TX9) (k := 0) (index := 7) (se_aload_n dX9_strikes_17 rfl rfl) rfl in_X9_strikes_X9 (Nat.le_of_ble_eq_true rfl) lk_X9_strikes_7 rfl dX9_strikes_18 rfl) (se_add (pcA := 23) (pcB := 28) (se_bipush dX9_strikes_21 (by decide +kernel) rfl) (se_callVI (pcA := 25) (ci := 7) (index := 103) (sa_cr (pcA := 24) (se_aload_n dX9_strikes_23 rfl rfl) (sa_ci (pcA := 25) (se_iload_n dX9_strikes_24 rfl rfl) sa_nil)) T_X9_rank (s_Rcv_of 7 _ _) rfl gX9_strikes_X9_rank rfl (by decide +kernel) (Nat.le_of_ble_eq_true rfl) (Nat.le_of_ble_eq_true rfl) (s_LenR (s_LenI s_Len0)) (Nat.le_of_ble_eq_true rfl) dX9_strikes_25 rfl) dX9_strikes_28 rfl) dX9_strikes_29 rfl dX9_strikes_30 rfl (se_iconst dX9_strikes_31 (by decide +kernel) rfl) (Or.inl ⟨dX9_strikes_32, rfl⟩) rfl dX9_strikes_33 rfl)
    (ss_seq (pcA := 39) (ss_callVV (pcA := 36) (ci := 7) (index := 106) (sa_cr (pcA := 35) (se_aload_n dX9_strikes_34 rfl rfl) (sa_ci (pcA := 36) (se_iload_n dX9_strikes_35 rfl rfl) sa_nil)) T_X9_breaks (s_Rcv_of 7 _ _) rfl gX9_strikes_X9_breaks rfl (by decide +kernel) (Nat.le_of_ble_eq_true rfl) (Nat.le_of_ble_eq_true rfl) (s_LenR (s_LenI s_Len0)) dX9_strikes_36 rfl)
    (ss_retI (pcA := 40) (se_iload_n dX9_strikes_39 rfl rfl) dX9_strikes_40 rfl)))))
theorem T_X9_strikes : sMet vwCl RX6 yX9_strikes wsX9_strikes 2 43 M_X9_strikes := sMet_of rfl (by decide +kernel) rfl rfl (fun h => by cases h) (m_ofV_run _ _ _) S_X9_strikes (m_ofV_cat _ _ _ (Nat.le_of_ble_eq_true rfl))
def B_X9_strike : sStm :=
  (s_seq (s_if (c_or (c_not (c_cmp0 i_ne (e_callI M_X9_isStep (a_cr (e_r 0) (a_ci (e_i 1) a_nil))))) (c_cmp0 i_lt (e_callI M_X9_rank (a_cr (e_r 0) (a_ci (e_i 2) a_nil)))))
    (s_retI (e_k (-1))) s_skip)
    (s_seq (s_if (c_cmp0 i_ne (e_rem (e_callI M_X9_of (a_cr (e_r 0) (a_ci (e_i 1) a_nil))) (e_i 2)))
    (s_retI (e_k (-2))) s_skip)
    (s_seq (s_callV M_X9_changes (a_cr (e_r 0) a_nil))
    (s_retI (e_callI M_X9_strikes (a_cr (e_r 0) (a_ci (e_i 1) (a_ci (e_i 2) a_nil))))))))
def M_X9_strike : sSem := m_ofV 7 3 B_X9_strike
set_option maxRecDepth 100000 in
set_option maxHeartbeats 4000000 in
theorem S_X9_strike : sSS (cX9_strike, wsX9_strike, RX9, (some .int), 3, 66, 3, vwCl, RX6, false) 0 0 B_X9_strike :=
  (ss_seq (pcA := 18) (ss_if (pcT := 16) (pcF := 18) (sc_or (pcA := 8) (sc_not (sc_Fne0 (pcB := 5) (se_callVI (pcA := 2) (ci := 7) (index := 86) (sa_cr (pcA := 1) (se_aload_n dX9_strike_0 rfl rfl) (sa_ci (pcA := 2) (se_iload_n dX9_strike_1 rfl rfl) sa_nil)) T_X9_isStep (s_Rcv_of 7 _ _) rfl gX9_strike_X9_isStep rfl (by decide +kernel) (Nat.le_of_ble_eq_true rfl) (Nat.le_of_ble_eq_true rfl) (s_LenR (s_LenI s_Len0)) (Nat.le_of_ble_eq_true rfl) dX9_strike_2 rfl) dX9_strike_5 rfl rfl)) (sc_Flt0 (pcB := 13) (se_callVI (pcA := 10) (ci := 7) (index := 103) (sa_cr (pcA := 9) (se_aload_n dX9_strike_8 rfl rfl) (sa_ci (pcA := 10) (se_iload_n dX9_strike_9 rfl rfl) sa_nil)) T_X9_rank (s_Rcv_of 7 _ _) rfl gX9_strike_X9_rank rfl (by decide +kernel) (Nat.le_of_ble_eq_true rfl) (Nat.le_of_ble_eq_true rfl) (s_LenR (s_LenI s_Len0)) (Nat.le_of_ble_eq_true rfl) dX9_strike_10 rfl) dX9_strike_13 rfl rfl))
    (ss_retI (pcA := 17) (se_iconst dX9_strike_16 (by decide +kernel) rfl) dX9_strike_17 rfl) ss_skip)
    (ss_seq (pcA := 31) (ss_if (pcT := 28) (pcF := 31) (sc_Fne0 (pcB := 25) (se_rem (pcA := 23) (pcB := 24) (se_callVI (pcA := 20) (ci := 7) (index := 59) (sa_cr (pcA := 19) (se_aload_n dX9_strike_18 rfl rfl) (sa_ci (pcA := 20) (se_iload_n dX9_strike_19 rfl rfl) sa_nil)) T_X9_of (s_Rcv_of 7 _ _) rfl gX9_strike_X9_of rfl (by decide +kernel) (Nat.le_of_ble_eq_true rfl) (Nat.le_of_ble_eq_true rfl) (s_LenR (s_LenI s_Len0)) (Nat.le_of_ble_eq_true rfl) dX9_strike_20 rfl) (se_iload_n dX9_strike_23 rfl rfl) dX9_strike_24 rfl) dX9_strike_25 rfl rfl)
    (ss_retI (pcA := 30) (se_bipush dX9_strike_28 (by decide +kernel) rfl) dX9_strike_30 rfl) ss_skip)
    (ss_seq (pcA := 35) (ss_callVV (pcA := 32) (ci := 7) (index := 79) (sa_cr (pcA := 32) (se_aload_n dX9_strike_31 rfl rfl) sa_nil) T_X9_changes (s_Rcv_of 7 _ _) rfl gX9_strike_X9_changes rfl (by decide +kernel) (Nat.le_of_ble_eq_true rfl) (Nat.le_of_ble_eq_true rfl) (s_LenR s_Len0) dX9_strike_32 rfl)
    (ss_retI (pcA := 41) (se_callVI (pcA := 38) (ci := 7) (index := 115) (sa_cr (pcA := 36) (se_aload_n dX9_strike_35 rfl rfl) (sa_ci (pcA := 37) (se_iload_n dX9_strike_36 rfl rfl) (sa_ci (pcA := 38) (se_iload_n dX9_strike_37 rfl rfl) sa_nil))) T_X9_strikes (s_Rcv_of 7 _ _) rfl gX9_strike_X9_strikes rfl (by decide +kernel) (Nat.le_of_ble_eq_true rfl) (Nat.le_of_ble_eq_true rfl) (s_LenR (s_LenI (s_LenI s_Len0))) (Nat.le_of_ble_eq_true rfl) dX9_strike_38 rfl) dX9_strike_41 rfl))))
theorem T_X9_strike : sMet vwCl RX6 yX9_strike wsX9_strike 3 66 M_X9_strike := sMet_of rfl (by decide +kernel) rfl rfl (fun h => by cases h) (m_ofV_run _ _ _) S_X9_strike (m_ofV_cat _ _ _ (Nat.le_of_ble_eq_true rfl))
theorem in_X9_isSettled_X9 : ∀ w ∈ u_ws RX9 TX9 18, w ∈ wsX9_isSettled := by decide +kernel
theorem lk_X9_isSettled_7 : Cond.fieldLink RX9 7 RX9 "s" "[I" ∈ wsX9_isSettled := by decide +kernel
abbrev C_X9_isSettled_1 : sCd := (c_cmp i_lt (e_i 2) (e_sub (e_ald (e_getR 7 0 (e_r 0)) (e_k (nI 2))) (e_k (nI 1))))
abbrev W_X9_isSettled_1 : sStm :=
  (s_seq (s_setI 1 (e_if (c_and (c_cmp0 i_ne (e_i 1)) (c_cmp0 i_eq (e_rem (e_callI M_X9_of (a_cr (e_r 0) (a_ci (e_add (e_i 2) (e_k (nI 1))) a_nil))) (e_callI M_X9_of (a_cr (e_r 0) (a_ci (e_i 2) a_nil)))))) (e_k (nI 1)) (e_k (nI 0))))
    (s_inc 2 (nI 1)))
def B_X9_isSettled : sStm :=
  (s_seq (s_decI 1 (e_k (nI 1)))
    (s_seq (s_blk 2 (s_seq (s_decI 2 (e_k (nI 0)))
    (s_while C_X9_isSettled_1 W_X9_isSettled_1)))
    (s_retZ (e_i 1))))
def M_X9_isSettled : sSem := m_ofV 7 1 B_X9_isSettled
set_option maxRecDepth 100000 in
set_option maxHeartbeats 4000000 in
theorem S_X9_isSettled : sSS (cX9_isSettled, wsX9_isSettled, RX9, (some .boolean), 1, 21, 3, vwCl, RX6, false) 0 0 B_X9_isSettled :=
  (ss_seq (pcA := 2) (ss_decI_n (pcA := 1) (se_iconst dX9_isSettled_0 (by decide +kernel) rfl) dX9_isSettled_1 rfl (Nat.le_of_ble_eq_true rfl) rfl)
    (ss_seq (pcA := 48) (ss_blk (ss_seq (pcA := 4) (ss_decI_n (pcA := 3) (se_iconst dX9_isSettled_2 (by decide +kernel) rfl) dX9_isSettled_3 rfl (Nat.le_of_ble_eq_true rfl) rfl)
    (ss_while (pcB := 16) (sc_Flt (pcA := 5) (pcB := 13) (se_iload_n dX9_isSettled_4 rfl rfl) (se_sub (pcA := 11) (pcB := 12) (se_ald (pcA := 9) (pcB := 10) (se_getR (pcA := 6) (T := TX9) (k := 0) (index := 7) (se_aload_n dX9_isSettled_5 rfl rfl) rfl in_X9_isSettled_X9 (Nat.le_of_ble_eq_true rfl) lk_X9_isSettled_7 rfl dX9_isSettled_6 rfl) (se_iconst dX9_isSettled_9 (by decide +kernel) rfl) dX9_isSettled_10 rfl) (se_iconst dX9_isSettled_11 (by decide +kernel) rfl) dX9_isSettled_12 rfl) dX9_isSettled_13 rfl rfl)
    (ss_seq (pcA := 42) (ss_setI_n (pcA := 41) (se_if (pcT := 36) (pcF := 40) (pcG := 37) (sc_and (pcA := 20) (sc_Fne0 (pcB := 17) (se_iload_n dX9_isSettled_16 rfl rfl) dX9_isSettled_17 rfl rfl) (sc_Feq0 (pcB := 33) (se_rem (pcA := 27) (pcB := 32) (se_callVI (pcA := 24) (ci := 7) (index := 59) (sa_cr (pcA := 21) (se_aload_n dX9_isSettled_20 rfl rfl) (sa_ci (pcA := 24) (se_add (pcA := 22) (pcB := 23) (se_iload_n dX9_isSettled_21 rfl rfl) (se_iconst dX9_isSettled_22 (by decide +kernel) rfl) dX9_isSettled_23 rfl) sa_nil)) T_X9_of (s_Rcv_of 7 _ _) rfl gX9_isSettled_X9_of rfl (by decide +kernel) (Nat.le_of_ble_eq_true rfl) (Nat.le_of_ble_eq_true rfl) (s_LenR (s_LenI s_Len0)) (Nat.le_of_ble_eq_true rfl) dX9_isSettled_24 rfl) (se_callVI (pcA := 29) (ci := 7) (index := 59) (sa_cr (pcA := 28) (se_aload_n dX9_isSettled_27 rfl rfl) (sa_ci (pcA := 29) (se_iload_n dX9_isSettled_28 rfl rfl) sa_nil)) T_X9_of (s_Rcv_of 7 _ _) rfl gX9_isSettled_X9_of rfl (by decide +kernel) (Nat.le_of_ble_eq_true rfl) (Nat.le_of_ble_eq_true rfl) (s_LenR (s_LenI s_Len0)) (Nat.le_of_ble_eq_true rfl) dX9_isSettled_29 rfl) dX9_isSettled_32 rfl) dX9_isSettled_33 rfl rfl)) (se_iconst dX9_isSettled_36 (by decide +kernel) rfl) dX9_isSettled_37 rfl (se_iconst dX9_isSettled_40 (by decide +kernel) rfl)) dX9_isSettled_41 rfl (Nat.le_of_ble_eq_true rfl) rfl)
    (ss_goto (pcG := 45) (ss_inc dX9_isSettled_42 (Nat.le_of_ble_eq_true rfl) (by decide +kernel) rfl) dX9_isSettled_45 rfl)))))
    (ss_retZ (pcA := 49) (se_iload_n dX9_isSettled_48 rfl rfl) dX9_isSettled_49 rfl)))
theorem T_X9_isSettled : sMet vwCl RX6 yX9_isSettled wsX9_isSettled 1 21 M_X9_isSettled := sMet_of rfl (by decide +kernel) rfl rfl (fun h => by cases h) (m_ofV_run _ _ _) S_X9_isSettled (m_ofV_cat _ _ _ (Nat.le_of_ble_eq_true rfl))
theorem in_X9_rounds_X9 : ∀ w ∈ u_ws RX9 TX9 18, w ∈ wsX9_rounds := by decide +kernel
theorem lk_X9_rounds_7 : Cond.fieldLink RX9 7 RX9 "s" "[I" ∈ wsX9_rounds := by decide +kernel
abbrev C_X9_rounds_1 : sCd := (c_cmp i_lt (e_i 2) (e_sub (e_ald (e_getR 7 0 (e_r 0)) (e_k (nI 2))) (e_k (nI 1))))
abbrev W_X9_rounds_1 : sStm :=
  (s_seq (s_if (c_or (c_cmp0 i_lt (e_callI M_X9_whyNotShared (a_cr (e_r 0) (a_ci (e_i 2) a_nil)))) (c_cmp i_lt (e_callI M_X9_shares (a_cr (e_r 0) (a_ci (e_i 2) a_nil))) (e_k (nI 1))))
    (s_retI (e_k (-3))) s_skip)
    (s_inc 2 (nI 1)))
abbrev C_X9_rounds_2 : sCd := (c_not (c_cmp0 i_ne (e_callI M_X9_isSettled (a_cr (e_r 0) a_nil))))
abbrev W_X9_rounds_2 : sStm :=
  (s_seq (s_blk 2 (s_seq (s_decI 2 (e_k (nI 0)))
    (s_while C_X9_rounds_1 W_X9_rounds_1)))
    (s_inc 1 (nI 1)))
def B_X9_rounds : sStm :=
  (s_seq (s_decI 1 (e_k (nI 0)))
    (s_seq (s_while C_X9_rounds_2 W_X9_rounds_2)
    (s_retI (e_i 1))))
def M_X9_rounds : sSem := m_ofV 7 1 B_X9_rounds
set_option maxRecDepth 100000 in
set_option maxHeartbeats 4000000 in
theorem S_X9_rounds : sSS (cX9_rounds, wsX9_rounds, RX9, (some .int), 3, 67, 3, vwCl, RX6, false) 0 0 B_X9_rounds :=
  (ss_seq (pcA := 2) (ss_decI_n (pcA := 1) (se_iconst dX9_rounds_0 (by decide +kernel) rfl) dX9_rounds_1 rfl (Nat.le_of_ble_eq_true rfl) rfl)
    (ss_seq (pcA := 55) (ss_while (pcB := 9) (sc_not (sc_Tne0 (pcB := 6) (se_callVI (pcA := 3) (ci := 7) (index := 118) (sa_cr (pcA := 3) (se_aload_n dX9_rounds_2 rfl rfl) sa_nil) T_X9_isSettled (s_Rcv_of 7 _ _) rfl gX9_rounds_X9_isSettled rfl (by decide +kernel) (Nat.le_of_ble_eq_true rfl) (Nat.le_of_ble_eq_true rfl) (s_LenR s_Len0) (Nat.le_of_ble_eq_true rfl) dX9_rounds_3 rfl) dX9_rounds_6 rfl rfl))
    (ss_seq (pcA := 49) (ss_blk (ss_seq (pcA := 11) (ss_decI_n (pcA := 10) (se_iconst dX9_rounds_9 (by decide +kernel) rfl) dX9_rounds_10 rfl (Nat.le_of_ble_eq_true rfl) rfl)
    (ss_while (pcB := 23) (sc_Flt (pcA := 12) (pcB := 20) (se_iload_n dX9_rounds_11 rfl rfl) (se_sub (pcA := 18) (pcB := 19) (se_ald (pcA := 16) (pcB := 17) (se_getR (pcA := 13) (T := TX9) (k := 0) (index := 7) (se_aload_n dX9_rounds_12 rfl rfl) rfl in_X9_rounds_X9 (Nat.le_of_ble_eq_true rfl) lk_X9_rounds_7 rfl dX9_rounds_13 rfl) (se_iconst dX9_rounds_16 (by decide +kernel) rfl) dX9_rounds_17 rfl) (se_iconst dX9_rounds_18 (by decide +kernel) rfl) dX9_rounds_19 rfl) dX9_rounds_20 rfl rfl)
    (ss_seq (pcA := 43) (ss_if (pcT := 40) (pcF := 43) (sc_or (pcA := 31) (sc_Tlt0 (pcB := 28) (se_callVI (pcA := 25) (ci := 7) (index := 97) (sa_cr (pcA := 24) (se_aload_n dX9_rounds_23 rfl rfl) (sa_ci (pcA := 25) (se_iload_n dX9_rounds_24 rfl rfl) sa_nil)) T_X9_whyNotShared (s_Rcv_of 7 _ _) rfl gX9_rounds_X9_whyNotShared rfl (by decide +kernel) (Nat.le_of_ble_eq_true rfl) (Nat.le_of_ble_eq_true rfl) (s_LenR (s_LenI s_Len0)) (Nat.le_of_ble_eq_true rfl) dX9_rounds_25 rfl) dX9_rounds_28 rfl rfl) (sc_Flt (pcA := 36) (pcB := 37) (se_callVI (pcA := 33) (ci := 7) (index := 100) (sa_cr (pcA := 32) (se_aload_n dX9_rounds_31 rfl rfl) (sa_ci (pcA := 33) (se_iload_n dX9_rounds_32 rfl rfl) sa_nil)) T_X9_shares (s_Rcv_of 7 _ _) rfl gX9_rounds_X9_shares rfl (by decide +kernel) (Nat.le_of_ble_eq_true rfl) (Nat.le_of_ble_eq_true rfl) (s_LenR (s_LenI s_Len0)) (Nat.le_of_ble_eq_true rfl) dX9_rounds_33 rfl) (se_iconst dX9_rounds_36 (by decide +kernel) rfl) dX9_rounds_37 rfl rfl))
    (ss_retI (pcA := 42) (se_bipush dX9_rounds_40 (by decide +kernel) rfl) dX9_rounds_42 rfl) ss_skip)
    (ss_goto (pcG := 46) (ss_inc dX9_rounds_43 (Nat.le_of_ble_eq_true rfl) (by decide +kernel) rfl) dX9_rounds_46 rfl)))))
    (ss_goto (pcG := 52) (ss_inc dX9_rounds_49 (Nat.le_of_ble_eq_true rfl) (by decide +kernel) rfl) dX9_rounds_52 rfl)))
    (ss_retI (pcA := 56) (se_iload_n dX9_rounds_55 rfl rfl) dX9_rounds_56 rfl)))
theorem T_X9_rounds : sMet vwCl RX6 yX9_rounds wsX9_rounds 3 67 M_X9_rounds := sMet_of rfl (by decide +kernel) rfl rfl (fun h => by cases h) (m_ofV_run _ _ _) S_X9_rounds (m_ofV_cat _ _ _ (Nat.le_of_ble_eq_true rfl))
def B_X9_settle : sStm :=
  (s_seq (s_callV M_X9_putsAside (a_cr (e_r 0) a_nil))
    (s_seq (s_decI 1 (e_callI M_X9_rounds (a_cr (e_r 0) a_nil)))
    (s_seq (s_callV M_X9_putsBack (a_cr (e_r 0) a_nil))
    (s_seq (s_if (c_cmp0 i_lt (e_i 1))
    (s_retI (e_i 1)) s_skip)
    (s_seq (s_callV M_X9_changes (a_cr (e_r 0) a_nil))
    (s_retI (e_callI M_X9_rounds (a_cr (e_r 0) a_nil))))))))
def M_X9_settle : sSem := m_ofV 7 1 B_X9_settle
set_option maxRecDepth 100000 in
set_option maxHeartbeats 4000000 in
theorem S_X9_settle : sSS (cX9_settle, wsX9_settle, RX9, (some .int), 4, 89, 2, vwCl, RX6, false) 0 0 B_X9_settle :=
  (ss_seq (pcA := 4) (ss_callVV (pcA := 1) (ci := 7) (index := 122) (sa_cr (pcA := 1) (se_aload_n dX9_settle_0 rfl rfl) sa_nil) T_X9_putsAside (s_Rcv_of 7 _ _) rfl gX9_settle_X9_putsAside rfl (by decide +kernel) (Nat.le_of_ble_eq_true rfl) (Nat.le_of_ble_eq_true rfl) (s_LenR s_Len0) dX9_settle_1 rfl)
    (ss_seq (pcA := 9) (ss_decI_n (pcA := 8) (se_callVI (pcA := 5) (ci := 7) (index := 125) (sa_cr (pcA := 5) (se_aload_n dX9_settle_4 rfl rfl) sa_nil) T_X9_rounds (s_Rcv_of 7 _ _) rfl gX9_settle_X9_rounds rfl (by decide +kernel) (Nat.le_of_ble_eq_true rfl) (Nat.le_of_ble_eq_true rfl) (s_LenR s_Len0) (Nat.le_of_ble_eq_true rfl) dX9_settle_5 rfl) dX9_settle_8 rfl (Nat.le_of_ble_eq_true rfl) rfl)
    (ss_seq (pcA := 13) (ss_callVV (pcA := 10) (ci := 7) (index := 129) (sa_cr (pcA := 10) (se_aload_n dX9_settle_9 rfl rfl) sa_nil) T_X9_putsBack (s_Rcv_of 7 _ _) rfl gX9_settle_X9_putsBack rfl (by decide +kernel) (Nat.le_of_ble_eq_true rfl) (Nat.le_of_ble_eq_true rfl) (s_LenR s_Len0) dX9_settle_10 rfl)
    (ss_seq (pcA := 19) (ss_if (pcT := 17) (pcF := 19) (sc_Flt0 (pcB := 14) (se_iload_n dX9_settle_13 rfl rfl) dX9_settle_14 rfl rfl)
    (ss_retI (pcA := 18) (se_iload_n dX9_settle_17 rfl rfl) dX9_settle_18 rfl) ss_skip)
    (ss_seq (pcA := 23) (ss_callVV (pcA := 20) (ci := 7) (index := 79) (sa_cr (pcA := 20) (se_aload_n dX9_settle_19 rfl rfl) sa_nil) T_X9_changes (s_Rcv_of 7 _ _) rfl gX9_settle_X9_changes rfl (by decide +kernel) (Nat.le_of_ble_eq_true rfl) (Nat.le_of_ble_eq_true rfl) (s_LenR s_Len0) dX9_settle_20 rfl)
    (ss_retI (pcA := 27) (se_callVI (pcA := 24) (ci := 7) (index := 125) (sa_cr (pcA := 24) (se_aload_n dX9_settle_23 rfl rfl) sa_nil) T_X9_rounds (s_Rcv_of 7 _ _) rfl gX9_settle_X9_rounds rfl (by decide +kernel) (Nat.le_of_ble_eq_true rfl) (Nat.le_of_ble_eq_true rfl) (s_LenR s_Len0) (Nat.le_of_ble_eq_true rfl) dX9_settle_24 rfl) dX9_settle_27 rfl))))))
theorem T_X9_settle : sMet vwCl RX6 yX9_settle wsX9_settle 4 89 M_X9_settle := sMet_of rfl (by decide +kernel) rfl rfl (fun h => by cases h) (m_ofV_run _ _ _) S_X9_settle (m_ofV_cat _ _ _ (Nat.le_of_ble_eq_true rfl))
theorem in_X9_set_X9 : ∀ w ∈ u_ws RX9 TX9 18, w ∈ wsX9_set := by decide +kernel
theorem lk_X9_set_7 : Cond.fieldLink RX9 7 RX9 "s" "[I" ∈ wsX9_set := by decide +kernel
def B_X9_set : sStm :=
  (s_seq (s_if (c_or (c_not (c_cmp0 i_ne (e_callI M_X9_in (a_ci (e_i 1) (a_ci (e_k (nI 0)) (a_ci (e_k (nI 1)) a_nil)))))) (c_not (c_cmp0 i_ne (e_callI M_X9_in (a_ci (e_i 2) (a_ci (e_i 1) (a_ci (e_if (c_cmp0 i_eq (e_i 1)) (e_k (nI 2)) (e_k (nI 4))) a_nil)))))))
    (s_retI (e_k (-1))) s_skip)
    (s_seq (s_callV M_X9_changes (a_cr (e_r 0) a_nil))
    (s_seq (s_decI 3 (e_ald (e_getR 7 0 (e_r 0)) (e_i 1)))
    (s_seq (s_ast (e_getR 7 0 (e_r 0)) (e_i 1) (e_i 2))
    (s_retI (e_i 3))))))
def M_X9_set : sSem := m_ofV 7 3 B_X9_set
set_option maxRecDepth 100000 in
set_option maxHeartbeats 4000000 in
theorem S_X9_set : sSS (cX9_set, wsX9_set, RX9, (some .int), 1, 22, 4, vwCl, RX6, false) 0 0 B_X9_set :=
  (ss_seq (pcA := 28) (ss_if (pcT := 26) (pcF := 28) (sc_or (pcA := 9) (sc_not (sc_Fne0 (pcB := 6) (se_callSI (pcA := 3) (index := 51) (sa_ci (pcA := 1) (se_iload_n dX9_set_0 rfl rfl) (sa_ci (pcA := 2) (se_iconst dX9_set_1 (by decide +kernel) rfl) (sa_ci (pcA := 3) (se_iconst dX9_set_2 (by decide +kernel) rfl) sa_nil))) T_X9_in gX9_set_X9_in rfl (by decide +kernel) (Nat.le_of_ble_eq_true rfl) (Nat.le_of_ble_eq_true rfl) (s_LenI (s_LenI (s_LenI s_Len0))) (Nat.le_of_ble_eq_true rfl) dX9_set_3 rfl) dX9_set_6 rfl rfl)) (sc_not (sc_Tne0 (pcB := 23) (se_callSI (pcA := 20) (index := 51) (sa_ci (pcA := 10) (se_iload_n dX9_set_9 rfl rfl) (sa_ci (pcA := 11) (se_iload_n dX9_set_10 rfl rfl) (sa_ci (pcA := 20) (se_if (pcT := 15) (pcF := 19) (pcG := 16) (sc_Feq0 (pcB := 12) (se_iload_n dX9_set_11 rfl rfl) dX9_set_12 rfl rfl) (se_iconst dX9_set_15 (by decide +kernel) rfl) dX9_set_16 rfl (se_iconst dX9_set_19 (by decide +kernel) rfl)) sa_nil))) T_X9_in gX9_set_X9_in rfl (by decide +kernel) (Nat.le_of_ble_eq_true rfl) (Nat.le_of_ble_eq_true rfl) (s_LenI (s_LenI (s_LenI s_Len0))) (Nat.le_of_ble_eq_true rfl) dX9_set_20 rfl) dX9_set_23 rfl rfl)))
    (ss_retI (pcA := 27) (se_iconst dX9_set_26 (by decide +kernel) rfl) dX9_set_27 rfl) ss_skip)
    (ss_seq (pcA := 32) (ss_callVV (pcA := 29) (ci := 7) (index := 79) (sa_cr (pcA := 29) (se_aload_n dX9_set_28 rfl rfl) sa_nil) T_X9_changes (s_Rcv_of 7 _ _) rfl gX9_set_X9_changes rfl (by decide +kernel) (Nat.le_of_ble_eq_true rfl) (Nat.le_of_ble_eq_true rfl) (s_LenR s_Len0) dX9_set_29 rfl)
    (ss_seq (pcA := 39) (ss_decI_n (pcA := 38) (se_ald (pcA := 36) (pcB := 37) (se_getR (pcA := 33) (T := TX9) (k := 0) (index := 7) (se_aload_n dX9_set_32 rfl rfl) rfl in_X9_set_X9 (Nat.le_of_ble_eq_true rfl) lk_X9_set_7 rfl dX9_set_33 rfl) (se_iload_n dX9_set_36 rfl rfl) dX9_set_37 rfl) dX9_set_38 rfl (Nat.le_of_ble_eq_true rfl) rfl)
    (ss_seq (pcA := 46) (ss_ast (pcA := 43) (pcI := 44) (pcB := 45) (se_getR (pcA := 40) (T := TX9) (k := 0) (index := 7) (se_aload_n dX9_set_39 rfl rfl) rfl in_X9_set_X9 (Nat.le_of_ble_eq_true rfl) lk_X9_set_7 rfl dX9_set_40 rfl) (se_iload_n dX9_set_43 rfl rfl) (se_iload_n dX9_set_44 rfl rfl) dX9_set_45 rfl)
    (ss_retI (pcA := 47) (se_iload_n dX9_set_46 rfl rfl) dX9_set_47 rfl)))))
theorem T_X9_set : sMet vwCl RX6 yX9_set wsX9_set 1 22 M_X9_set := sMet_of rfl (by decide +kernel) rfl rfl (fun h => by cases h) (m_ofV_run _ _ _) S_X9_set (m_ofV_cat _ _ _ (Nat.le_of_ble_eq_true rfl))
theorem in_X9_append_X9 : ∀ w ∈ u_ws RX9 TX9 18, w ∈ wsX9_append := by decide +kernel
theorem lk_X9_append_132 : Cond.fieldLink RX9 132 RX9 "typed" "I" ∈ wsX9_append := by decide +kernel
theorem lk_X9_append_25 : Cond.fieldLink RX9 25 RX9 "pad" "[I" ∈ wsX9_append := by decide +kernel
def B_X9_append : sStm :=
  (s_seq (s_if (c_not (c_cmp0 i_ne (e_callI M_X9_in (a_ci (e_i 1) (a_ci (e_k (nI 33)) (a_ci (e_k (nI 126)) a_nil))))))
    (s_retI (e_k (-1))) s_skip)
    (s_seq (s_if (c_cmp i_eq (e_get 7 9 (e_r 0)) (e_k (nI 60)))
    (s_retI (e_k (-3))) s_skip)
    (s_seq (s_ast (e_getR 7 8 (e_r 0)) (e_get 7 9 (e_r 0)) (e_i 1))
    (s_seq (s_putop 7 9 (e_r 0) (fun x z => x + z) (e_k (nI 1)))
    (s_retI (e_get 7 9 (e_r 0)))))))
def M_X9_append : sSem := m_ofV 7 2 B_X9_append
set_option maxRecDepth 100000 in
set_option maxHeartbeats 4000000 in
theorem S_X9_append : sSS (cX9_append, wsX9_append, RX9, (some .int), 1, 22, 2, vwCl, RX6, false) 0 0 B_X9_append :=
  (ss_seq (pcA := 13) (ss_if (pcT := 11) (pcF := 13) (sc_not (sc_Tne0 (pcB := 8) (se_callSI (pcA := 5) (index := 51) (sa_ci (pcA := 1) (se_iload_n dX9_append_0 rfl rfl) (sa_ci (pcA := 3) (se_bipush dX9_append_1 (by decide +kernel) rfl) (sa_ci (pcA := 5) (se_bipush dX9_append_3 (by decide +kernel) rfl) sa_nil))) T_X9_in gX9_append_X9_in rfl (by decide +kernel) (Nat.le_of_ble_eq_true rfl) (Nat.le_of_ble_eq_true rfl) (s_LenI (s_LenI (s_LenI s_Len0))) (Nat.le_of_ble_eq_true rfl) dX9_append_5 rfl) dX9_append_8 rfl rfl))
    (ss_retI (pcA := 12) (se_iconst dX9_append_11 (by decide +kernel) rfl) dX9_append_12 rfl) ss_skip)
    (ss_seq (pcA := 25) (ss_if (pcT := 22) (pcF := 25) (sc_Feq (pcA := 17) (pcB := 19) (se_get (pcA := 14) (T := TX9) (k := 9) (index := 132) (se_aload_n dX9_append_13 rfl rfl) rfl in_X9_append_X9 (Nat.le_of_ble_eq_true rfl) lk_X9_append_132 rfl dX9_append_14 rfl) (se_bipush dX9_append_17 (by decide +kernel) rfl) dX9_append_19 rfl rfl)
    (ss_retI (pcA := 24) (se_bipush dX9_append_22 (by decide +kernel) rfl) dX9_append_24 rfl) ss_skip)
    (ss_seq (pcA := 35) (ss_ast (pcA := 29) (pcI := 33) (pcB := 34) (se_getR (pcA := 26) (T := TX9) (k := 8) (index := 25) (se_aload_n dX9_append_25 rfl rfl) rfl in_X9_append_X9 (Nat.le_of_ble_eq_true rfl) lk_X9_append_25 rfl dX9_append_26 rfl) (se_get (pcA := 30) (T := TX9) (k := 9) (index := 132) (se_aload_n dX9_append_29 rfl rfl) rfl in_X9_append_X9 (Nat.le_of_ble_eq_true rfl) lk_X9_append_132 rfl dX9_append_30 rfl) (se_iload_n dX9_append_33 rfl rfl) dX9_append_34 rfl)
    (ss_seq (pcA := 45) (ss_putop (pcA := 36) (pcD := 37) (pcG := 40) (pcB := 41) (pcO := 42) (T := TX9) (index := 132) (se_aload_n dX9_append_35 rfl rfl) dX9_append_36 rfl rfl in_X9_append_X9 tyX9 tyX9_ok nmX9 (Nat.le_of_ble_eq_true rfl) lk_X9_append_132 rfl dX9_append_37 rfl (se_iconst dX9_append_40 (by decide +kernel) rfl) (Or.inl ⟨dX9_append_41, rfl⟩) rfl rfl rfl dX9_append_42 rfl)
    (ss_retI (pcA := 49) (se_get (pcA := 46) (T := TX9) (k := 9) (index := 132) (se_aload_n dX9_append_45 rfl rfl) rfl in_X9_append_X9 (Nat.le_of_ble_eq_true rfl) lk_X9_append_132 rfl dX9_append_46 rfl) dX9_append_49 rfl)))))
theorem T_X9_append : sMet vwCl RX6 yX9_append wsX9_append 1 22 M_X9_append := sMet_of rfl (by decide +kernel) rfl rfl (fun h => by cases h) (m_ofV_run _ _ _) S_X9_append (m_ofV_cat _ _ _ (Nat.le_of_ble_eq_true rfl))
theorem in_X9_clear_X9 : ∀ w ∈ u_ws RX9 TX9 18, w ∈ wsX9_clear := by decide +kernel
theorem lk_X9_clear_132 : Cond.fieldLink RX9 132 RX9 "typed" "I" ∈ wsX9_clear := by decide +kernel
def B_X9_clear : sStm :=
  (s_seq (s_decI 1 (e_get 7 9 (e_r 0)))
    (s_seq (s_putI 7 9 (e_r 0) (e_k (nI 0)))
    (s_retI (e_i 1))))
def M_X9_clear : sSem := m_ofV 7 1 B_X9_clear
set_option maxRecDepth 100000 in
set_option maxHeartbeats 4000000 in
theorem S_X9_clear : sSS (cX9_clear, wsX9_clear, RX9, (some .int), 0, 0, 2, vwCl, RX6, false) 0 0 B_X9_clear :=
  (ss_seq (pcA := 5) (ss_decI_n (pcA := 4) (se_get (pcA := 1) (T := TX9) (k := 9) (index := 132) (se_aload_n dX9_clear_0 rfl rfl) rfl in_X9_clear_X9 (Nat.le_of_ble_eq_true rfl) lk_X9_clear_132 rfl dX9_clear_1 rfl) dX9_clear_4 rfl (Nat.le_of_ble_eq_true rfl) rfl)
    (ss_seq (pcA := 10) (ss_putI (pcA := 6) (pcB := 7) (T := TX9) (index := 132) (se_aload_n dX9_clear_5 rfl rfl) (se_iconst dX9_clear_6 (by decide +kernel) rfl) rfl in_X9_clear_X9 tyX9 tyX9_ok nmX9 (Nat.le_of_ble_eq_true rfl) lk_X9_clear_132 rfl rfl rfl dX9_clear_7 rfl)
    (ss_retI (pcA := 11) (se_iload_n dX9_clear_10 rfl rfl) dX9_clear_11 rfl)))
theorem T_X9_clear : sMet vwCl RX6 yX9_clear wsX9_clear 0 0 M_X9_clear := sMet_of rfl (by decide +kernel) rfl rfl (fun h => by cases h) (m_ofV_run _ _ _) S_X9_clear (m_ofV_cat _ _ _ (Nat.le_of_ble_eq_true rfl))
theorem in_X9_isAt_X9 : ∀ w ∈ u_ws RX9 TX9 18, w ∈ wsX9_isAt := by decide +kernel
theorem lk_X9_isAt_135 : Cond.fieldLink RX9 135 RX9 "spot" "I" ∈ wsX9_isAt := by decide +kernel
theorem lk_X9_isAt_132 : Cond.fieldLink RX9 132 RX9 "typed" "I" ∈ wsX9_isAt := by decide +kernel
theorem lk_X9_isAt_25 : Cond.fieldLink RX9 25 RX9 "pad" "[I" ∈ wsX9_isAt := by decide +kernel
def B_X9_isAt : sStm :=
  (s_retZ (e_if (c_and (c_cmp i_lt (e_get 7 13 (e_r 0)) (e_get 7 9 (e_r 0))) (c_cmp0 i_ne (e_callI M_X9_in (a_ci (e_ald (e_getR 7 8 (e_r 0)) (e_get 7 13 (e_r 0))) (a_ci (e_i 1) (a_ci (e_i 2) a_nil)))))) (e_k (nI 1)) (e_k (nI 0))))
def M_X9_isAt : sSem := m_ofV 7 3 B_X9_isAt
set_option maxRecDepth 100000 in
set_option maxHeartbeats 4000000 in
theorem S_X9_isAt : sSS (cX9_isAt, wsX9_isAt, RX9, (some .boolean), 1, 22, 3, vwCl, RX6, false) 0 0 B_X9_isAt :=
  (ss_retZ (pcA := 33) (se_if (pcT := 28) (pcF := 32) (pcG := 29) (sc_and (pcA := 11) (sc_Flt (pcA := 4) (pcB := 8) (se_get (pcA := 1) (T := TX9) (k := 13) (index := 135) (se_aload_n dX9_isAt_0 rfl rfl) rfl in_X9_isAt_X9 (Nat.le_of_ble_eq_true rfl) lk_X9_isAt_135 rfl dX9_isAt_1 rfl) (se_get (pcA := 5) (T := TX9) (k := 9) (index := 132) (se_aload_n dX9_isAt_4 rfl rfl) rfl in_X9_isAt_X9 (Nat.le_of_ble_eq_true rfl) lk_X9_isAt_132 rfl dX9_isAt_5 rfl) dX9_isAt_8 rfl rfl) (sc_Fne0 (pcB := 25) (se_callSI (pcA := 22) (index := 51) (sa_ci (pcA := 20) (se_ald (pcA := 15) (pcB := 19) (se_getR (pcA := 12) (T := TX9) (k := 8) (index := 25) (se_aload_n dX9_isAt_11 rfl rfl) rfl in_X9_isAt_X9 (Nat.le_of_ble_eq_true rfl) lk_X9_isAt_25 rfl dX9_isAt_12 rfl) (se_get (pcA := 16) (T := TX9) (k := 13) (index := 135) (se_aload_n dX9_isAt_15 rfl rfl) rfl in_X9_isAt_X9 (Nat.le_of_ble_eq_true rfl) lk_X9_isAt_135 rfl dX9_isAt_16 rfl) dX9_isAt_19 rfl) (sa_ci (pcA := 21) (se_iload_n dX9_isAt_20 rfl rfl) (sa_ci (pcA := 22) (se_iload_n dX9_isAt_21 rfl rfl) sa_nil))) T_X9_in gX9_isAt_X9_in rfl (by decide +kernel) (Nat.le_of_ble_eq_true rfl) (Nat.le_of_ble_eq_true rfl) (s_LenI (s_LenI (s_LenI s_Len0))) (Nat.le_of_ble_eq_true rfl) dX9_isAt_22 rfl) dX9_isAt_25 rfl rfl)) (se_iconst dX9_isAt_28 (by decide +kernel) rfl) dX9_isAt_29 rfl (se_iconst dX9_isAt_32 (by decide +kernel) rfl)) dX9_isAt_33 rfl)
theorem T_X9_isAt : sMet vwCl RX6 yX9_isAt wsX9_isAt 1 22 M_X9_isAt := sMet_of rfl (by decide +kernel) rfl rfl (fun h => by cases h) (m_ofV_run _ _ _) S_X9_isAt (m_ofV_cat _ _ _ (Nat.le_of_ble_eq_true rfl))
theorem in_X9_sign_X9 : ∀ w ∈ u_ws RX9 TX9 18, w ∈ wsX9_sign := by decide +kernel
theorem lk_X9_sign_135 : Cond.fieldLink RX9 135 RX9 "spot" "I" ∈ wsX9_sign := by decide +kernel
def B_X9_sign : sStm :=
  (s_seq (s_decI 2 (e_callI M_X9_isAt (a_cr (e_r 0) (a_ci (e_i 1) (a_ci (e_i 1) a_nil)))))
    (s_seq (s_putop 7 13 (e_r 0) (fun x z => x + z) (e_if (c_cmp0 i_ne (e_i 2)) (e_k (nI 1)) (e_k (nI 0))))
    (s_retZ (e_i 2))))
def M_X9_sign : sSem := m_ofV 7 2 B_X9_sign
set_option maxRecDepth 100000 in
set_option maxHeartbeats 4000000 in
theorem S_X9_sign : sSS (cX9_sign, wsX9_sign, RX9, (some .boolean), 2, 44, 3, vwCl, RX6, false) 0 0 B_X9_sign :=
  (ss_seq (pcA := 7) (ss_decI_n (pcA := 6) (se_callVI (pcA := 3) (ci := 7) (index := 138) (sa_cr (pcA := 1) (se_aload_n dX9_sign_0 rfl rfl) (sa_ci (pcA := 2) (se_iload_n dX9_sign_1 rfl rfl) (sa_ci (pcA := 3) (se_iload_n dX9_sign_2 rfl rfl) sa_nil))) T_X9_isAt (s_Rcv_of 7 _ _) rfl gX9_sign_X9_isAt rfl (by decide +kernel) (Nat.le_of_ble_eq_true rfl) (Nat.le_of_ble_eq_true rfl) (s_LenR (s_LenI (s_LenI s_Len0))) (Nat.le_of_ble_eq_true rfl) dX9_sign_3 rfl) dX9_sign_6 rfl (Nat.le_of_ble_eq_true rfl) rfl)
    (ss_seq (pcA := 25) (ss_putop (pcA := 8) (pcD := 9) (pcG := 12) (pcB := 21) (pcO := 22) (T := TX9) (index := 135) (se_aload_n dX9_sign_7 rfl rfl) dX9_sign_8 rfl rfl in_X9_sign_X9 tyX9 tyX9_ok nmX9 (Nat.le_of_ble_eq_true rfl) lk_X9_sign_135 rfl dX9_sign_9 rfl (se_if (pcT := 16) (pcF := 20) (pcG := 17) (sc_Fne0 (pcB := 13) (se_iload_n dX9_sign_12 rfl rfl) dX9_sign_13 rfl rfl) (se_iconst dX9_sign_16 (by decide +kernel) rfl) dX9_sign_17 rfl (se_iconst dX9_sign_20 (by decide +kernel) rfl)) (Or.inl ⟨dX9_sign_21, rfl⟩) rfl rfl rfl dX9_sign_22 rfl)
    (ss_retZ (pcA := 26) (se_iload_n dX9_sign_25 rfl rfl) dX9_sign_26 rfl)))
theorem T_X9_sign : sMet vwCl RX6 yX9_sign wsX9_sign 2 44 M_X9_sign := sMet_of rfl (by decide +kernel) rfl rfl (fun h => by cases h) (m_ofV_run _ _ _) S_X9_sign (m_ofV_cat _ _ _ (Nat.le_of_ble_eq_true rfl))
theorem in_X9_number_X9 : ∀ w ∈ u_ws RX9 TX9 18, w ∈ wsX9_number := by decide +kernel
theorem lk_X9_number_25 : Cond.fieldLink RX9 25 RX9 "pad" "[I" ∈ wsX9_number := by decide +kernel
theorem lk_X9_number_135 : Cond.fieldLink RX9 135 RX9 "spot" "I" ∈ wsX9_number := by decide +kernel
theorem lk_X9_number_34 : Cond.fieldLink RX9 34 RX9 "read" "[I" ∈ wsX9_number := by decide +kernel
theorem lk_X9_number_141 : Cond.fieldLink RX9 141 RX9 "many" "I" ∈ wsX9_number := by decide +kernel
abbrev C_X9_number_1 : sCd := (c_and (c_and (c_cmp0 i_gt (e_i 4)) (c_cmp0 i_ne (e_callI M_X9_isAt (a_cr (e_r 0) (a_ci (e_k (nI 48)) (a_ci (e_k (nI 57)) a_nil)))))) (c_cmp i_le (e_sub (e_add (e_mul (e_k (nI 10)) (e_i 4)) (e_ald (e_getR 7 8 (e_r 0)) (e_get 7 13 (e_r 0)))) (e_k (nI 48))) (e_i 3)))
abbrev W_X9_number_1 : sStm :=
  (s_seq (s_setI 4 (e_sub (e_add (e_mul (e_k (nI 10)) (e_i 4)) (e_ald (e_getR 7 8 (e_r 0)) (e_get 7 13 (e_r 0)))) (e_k (nI 48))))
    (s_putop 7 13 (e_r 0) (fun x z => x + z) (e_k (nI 1))))
def B_X9_number : sStm :=
  (s_seq (s_if (c_not (c_cmp0 i_ne (e_callI M_X9_isAt (a_cr (e_r 0) (a_ci (e_if (c_cmp0 i_eq (e_i 2)) (e_k (nI 48)) (e_k (nI 49))) (a_ci (e_k (nI 57)) a_nil))))))
    (s_retZ (e_k (nI 0))) s_skip)
    (s_seq (s_decI 4 (e_sub (e_ald (e_getR 7 8 (e_r 0)) (e_get 7 13 (e_r 0))) (e_k (nI 48))))
    (s_seq (s_putop 7 13 (e_r 0) (fun x z => x + z) (e_k (nI 1)))
    (s_seq (s_while C_X9_number_1 W_X9_number_1)
    (s_seq (s_ast (e_getR 7 15 (e_r 0)) (e_add (e_mul (e_k (nI 4)) (e_get 7 14 (e_r 0))) (e_i 1)) (e_i 4))
    (s_retZ (e_if (c_cmp i_ge (e_i 4) (e_i 2)) (e_k (nI 1)) (e_k (nI 0)))))))))
def M_X9_number : sSem := m_ofV 7 4 B_X9_number
set_option maxRecDepth 100000 in
set_option maxHeartbeats 4000000 in
theorem S_X9_number : sSS (cX9_number, wsX9_number, RX9, (some .boolean), 2, 44, 5, vwCl, RX6, false) 0 0 B_X9_number :=
  (ss_seq (pcA := 22) (ss_if (pcT := 20) (pcF := 22) (sc_not (sc_Tne0 (pcB := 17) (se_callVI (pcA := 14) (ci := 7) (index := 138) (sa_cr (pcA := 1) (se_aload_n dX9_number_0 rfl rfl) (sa_ci (pcA := 12) (se_if (pcT := 5) (pcF := 10) (pcG := 7) (sc_Feq0 (pcB := 2) (se_iload_n dX9_number_1 rfl rfl) dX9_number_2 rfl rfl) (se_bipush dX9_number_5 (by decide +kernel) rfl) dX9_number_7 rfl (se_bipush dX9_number_10 (by decide +kernel) rfl)) (sa_ci (pcA := 14) (se_bipush dX9_number_12 (by decide +kernel) rfl) sa_nil))) T_X9_isAt (s_Rcv_of 7 _ _) rfl gX9_number_X9_isAt rfl (by decide +kernel) (Nat.le_of_ble_eq_true rfl) (Nat.le_of_ble_eq_true rfl) (s_LenR (s_LenI (s_LenI s_Len0))) (Nat.le_of_ble_eq_true rfl) dX9_number_14 rfl) dX9_number_17 rfl rfl))
    (ss_retZ (pcA := 21) (se_iconst dX9_number_20 (by decide +kernel) rfl) dX9_number_21 rfl) ss_skip)
    (ss_seq (pcA := 36) (ss_decI (pcA := 34) (se_sub (pcA := 31) (pcB := 33) (se_ald (pcA := 26) (pcB := 30) (se_getR (pcA := 23) (T := TX9) (k := 8) (index := 25) (se_aload_n dX9_number_22 rfl rfl) rfl in_X9_number_X9 (Nat.le_of_ble_eq_true rfl) lk_X9_number_25 rfl dX9_number_23 rfl) (se_get (pcA := 27) (T := TX9) (k := 13) (index := 135) (se_aload_n dX9_number_26 rfl rfl) rfl in_X9_number_X9 (Nat.le_of_ble_eq_true rfl) lk_X9_number_135 rfl dX9_number_27 rfl) dX9_number_30 rfl) (se_bipush dX9_number_31 (by decide +kernel) rfl) dX9_number_33 rfl) dX9_number_34 (Nat.le_of_ble_eq_true rfl) rfl)
    (ss_seq (pcA := 46) (ss_putop (pcA := 37) (pcD := 38) (pcG := 41) (pcB := 42) (pcO := 43) (T := TX9) (index := 135) (se_aload_n dX9_number_36 rfl rfl) dX9_number_37 rfl rfl in_X9_number_X9 tyX9 tyX9_ok nmX9 (Nat.le_of_ble_eq_true rfl) lk_X9_number_135 rfl dX9_number_38 rfl (se_iconst dX9_number_41 (by decide +kernel) rfl) (Or.inl ⟨dX9_number_42, rfl⟩) rfl rfl rfl dX9_number_43 rfl)
    (ss_seq (pcA := 117) (ss_while (pcB := 84) (sc_and (pcA := 62) (sc_and (pcA := 51) (sc_Fgt0 (pcB := 48) (se_iload dX9_number_46 rfl) dX9_number_48 rfl rfl) (sc_Fne0 (pcB := 59) (se_callVI (pcA := 56) (ci := 7) (index := 138) (sa_cr (pcA := 52) (se_aload_n dX9_number_51 rfl rfl) (sa_ci (pcA := 54) (se_bipush dX9_number_52 (by decide +kernel) rfl) (sa_ci (pcA := 56) (se_bipush dX9_number_54 (by decide +kernel) rfl) sa_nil))) T_X9_isAt (s_Rcv_of 7 _ _) rfl gX9_number_X9_isAt rfl (by decide +kernel) (Nat.le_of_ble_eq_true rfl) (Nat.le_of_ble_eq_true rfl) (s_LenR (s_LenI (s_LenI s_Len0))) (Nat.le_of_ble_eq_true rfl) dX9_number_56 rfl) dX9_number_59 rfl rfl)) (sc_Fle (pcA := 80) (pcB := 81) (se_sub (pcA := 77) (pcB := 79) (se_add (pcA := 67) (pcB := 76) (se_mul (pcA := 64) (pcB := 66) (se_bipush dX9_number_62 (by decide +kernel) rfl) (se_iload dX9_number_64 rfl) dX9_number_66 rfl) (se_ald (pcA := 71) (pcB := 75) (se_getR (pcA := 68) (T := TX9) (k := 8) (index := 25) (se_aload_n dX9_number_67 rfl rfl) rfl in_X9_number_X9 (Nat.le_of_ble_eq_true rfl) lk_X9_number_25 rfl dX9_number_68 rfl) (se_get (pcA := 72) (T := TX9) (k := 13) (index := 135) (se_aload_n dX9_number_71 rfl rfl) rfl in_X9_number_X9 (Nat.le_of_ble_eq_true rfl) lk_X9_number_135 rfl dX9_number_72 rfl) dX9_number_75 rfl) dX9_number_76 rfl) (se_bipush dX9_number_77 (by decide +kernel) rfl) dX9_number_79 rfl) (se_iload_n dX9_number_80 rfl rfl) dX9_number_81 rfl rfl))
    (ss_seq (pcA := 104) (ss_setI (pcA := 102) (se_sub (pcA := 99) (pcB := 101) (se_add (pcA := 89) (pcB := 98) (se_mul (pcA := 86) (pcB := 88) (se_bipush dX9_number_84 (by decide +kernel) rfl) (se_iload dX9_number_86 rfl) dX9_number_88 rfl) (se_ald (pcA := 93) (pcB := 97) (se_getR (pcA := 90) (T := TX9) (k := 8) (index := 25) (se_aload_n dX9_number_89 rfl rfl) rfl in_X9_number_X9 (Nat.le_of_ble_eq_true rfl) lk_X9_number_25 rfl dX9_number_90 rfl) (se_get (pcA := 94) (T := TX9) (k := 13) (index := 135) (se_aload_n dX9_number_93 rfl rfl) rfl in_X9_number_X9 (Nat.le_of_ble_eq_true rfl) lk_X9_number_135 rfl dX9_number_94 rfl) dX9_number_97 rfl) dX9_number_98 rfl) (se_bipush dX9_number_99 (by decide +kernel) rfl) dX9_number_101 rfl) dX9_number_102 (Nat.le_of_ble_eq_true rfl) rfl)
    (ss_goto (pcG := 114) (ss_putop (pcA := 105) (pcD := 106) (pcG := 109) (pcB := 110) (pcO := 111) (T := TX9) (index := 135) (se_aload_n dX9_number_104 rfl rfl) dX9_number_105 rfl rfl in_X9_number_X9 tyX9 tyX9_ok nmX9 (Nat.le_of_ble_eq_true rfl) lk_X9_number_135 rfl dX9_number_106 rfl (se_iconst dX9_number_109 (by decide +kernel) rfl) (Or.inl ⟨dX9_number_110, rfl⟩) rfl rfl rfl dX9_number_111 rfl) dX9_number_114 rfl)))
    (ss_seq (pcA := 132) (ss_ast (pcA := 121) (pcI := 129) (pcB := 131) (se_getR (pcA := 118) (T := TX9) (k := 15) (index := 34) (se_aload_n dX9_number_117 rfl rfl) rfl in_X9_number_X9 (Nat.le_of_ble_eq_true rfl) lk_X9_number_34 rfl dX9_number_118 rfl) (se_add (pcA := 127) (pcB := 128) (se_mul (pcA := 122) (pcB := 126) (se_iconst dX9_number_121 (by decide +kernel) rfl) (se_get (pcA := 123) (T := TX9) (k := 14) (index := 141) (se_aload_n dX9_number_122 rfl rfl) rfl in_X9_number_X9 (Nat.le_of_ble_eq_true rfl) lk_X9_number_141 rfl dX9_number_123 rfl) dX9_number_126 rfl) (se_iload_n dX9_number_127 rfl rfl) dX9_number_128 rfl) (se_iload dX9_number_129 rfl) dX9_number_131 rfl)
    (ss_retZ (pcA := 143) (se_if (pcT := 138) (pcF := 142) (pcG := 139) (sc_Fge (pcA := 134) (pcB := 135) (se_iload dX9_number_132 rfl) (se_iload_n dX9_number_134 rfl rfl) dX9_number_135 rfl rfl) (se_iconst dX9_number_138 (by decide +kernel) rfl) dX9_number_139 rfl (se_iconst dX9_number_142 (by decide +kernel) rfl)) dX9_number_143 rfl))))))
theorem T_X9_number : sMet vwCl RX6 yX9_number wsX9_number 2 44 M_X9_number := sMet_of rfl (by decide +kernel) rfl rfl (fun h => by cases h) (m_ofV_run _ _ _) S_X9_number (m_ofV_cat _ _ _ (Nat.le_of_ble_eq_true rfl))
theorem in_X9_deed_X9 : ∀ w ∈ u_ws RX9 TX9 18, w ∈ wsX9_deed := by decide +kernel
theorem lk_X9_deed_135 : Cond.fieldLink RX9 135 RX9 "spot" "I" ∈ wsX9_deed := by decide +kernel
theorem lk_X9_deed_132 : Cond.fieldLink RX9 132 RX9 "typed" "I" ∈ wsX9_deed := by decide +kernel
theorem lk_X9_deed_25 : Cond.fieldLink RX9 25 RX9 "pad" "[I" ∈ wsX9_deed := by decide +kernel
theorem lk_X9_deed_34 : Cond.fieldLink RX9 34 RX9 "read" "[I" ∈ wsX9_deed := by decide +kernel
theorem lk_X9_deed_141 : Cond.fieldLink RX9 141 RX9 "many" "I" ∈ wsX9_deed := by decide +kernel
def B_X9_deed : sStm :=
  (s_seq (s_decI 1 (e_if (c_cmp i_lt (e_get 7 13 (e_r 0)) (e_get 7 9 (e_r 0))) (e_ald (e_getR 7 8 (e_r 0)) (e_get 7 13 (e_r 0))) (e_k (nI 0))))
    (s_seq (s_if (c_and (c_and (c_cmp i_ne (e_i 1) (e_k (nI 115))) (c_cmp i_ne (e_i 1) (e_k (nI 100)))) (c_cmp i_ne (e_i 1) (e_k (nI 107))))
    (s_retZ (e_k (nI 0))) s_skip)
    (s_seq (s_ast (e_getR 7 15 (e_r 0)) (e_mul (e_k (nI 4)) (e_get 7 14 (e_r 0))) (e_i 1))
    (s_seq (s_ast (e_getR 7 15 (e_r 0)) (e_add (e_mul (e_k (nI 4)) (e_get 7 14 (e_r 0))) (e_k (nI 3))) (e_get 7 13 (e_r 0)))
    (s_seq (s_putop 7 13 (e_r 0) (fun x z => x + z) (e_k (nI 1)))
    (s_retZ (e_if (c_and (c_cmp0 i_ne (e_callI M_X9_number (a_cr (e_r 0) (a_ci (e_k (nI 1)) (a_ci (e_k (nI 0)) (a_ci (e_k (nI 11)) a_nil)))))) (c_or (c_cmp i_ne (e_i 1) (e_k (nI 107))) (c_and (c_cmp0 i_ne (e_callI M_X9_sign (a_cr (e_r 0) (a_ci (e_k (nI 46)) a_nil)))) (c_cmp0 i_ne (e_callI M_X9_number (a_cr (e_r 0) (a_ci (e_k (nI 2)) (a_ci (e_k (nI 2)) (a_ci (e_k (nI 9999)) a_nil))))))))) (e_k (nI 1)) (e_k (nI 0)))))))))
def M_X9_deed : sSem := m_ofV 7 1 B_X9_deed
set_option maxRecDepth 100000 in
set_option maxHeartbeats 4000000 in
theorem S_X9_deed : sSS (cX9_deed, wsX9_deed, RX9, (some .boolean), 3, 68, 2, vwCl, RX6, false) 0 0 B_X9_deed :=
  (ss_seq (pcA := 25) (ss_decI_n (pcA := 24) (se_if (pcT := 11) (pcF := 23) (pcG := 20) (sc_Flt (pcA := 4) (pcB := 8) (se_get (pcA := 1) (T := TX9) (k := 13) (index := 135) (se_aload_n dX9_deed_0 rfl rfl) rfl in_X9_deed_X9 (Nat.le_of_ble_eq_true rfl) lk_X9_deed_135 rfl dX9_deed_1 rfl) (se_get (pcA := 5) (T := TX9) (k := 9) (index := 132) (se_aload_n dX9_deed_4 rfl rfl) rfl in_X9_deed_X9 (Nat.le_of_ble_eq_true rfl) lk_X9_deed_132 rfl dX9_deed_5 rfl) dX9_deed_8 rfl rfl) (se_ald (pcA := 15) (pcB := 19) (se_getR (pcA := 12) (T := TX9) (k := 8) (index := 25) (se_aload_n dX9_deed_11 rfl rfl) rfl in_X9_deed_X9 (Nat.le_of_ble_eq_true rfl) lk_X9_deed_25 rfl dX9_deed_12 rfl) (se_get (pcA := 16) (T := TX9) (k := 13) (index := 135) (se_aload_n dX9_deed_15 rfl rfl) rfl in_X9_deed_X9 (Nat.le_of_ble_eq_true rfl) lk_X9_deed_135 rfl dX9_deed_16 rfl) dX9_deed_19 rfl) dX9_deed_20 rfl (se_iconst dX9_deed_23 (by decide +kernel) rfl)) dX9_deed_24 rfl (Nat.le_of_ble_eq_true rfl) rfl)
    (ss_seq (pcA := 45) (ss_if (pcT := 43) (pcF := 45) (sc_and (pcA := 37) (sc_and (pcA := 31) (sc_Fne (pcA := 26) (pcB := 28) (se_iload_n dX9_deed_25 rfl rfl) (se_bipush dX9_deed_26 (by decide +kernel) rfl) dX9_deed_28 rfl rfl) (sc_Fne (pcA := 32) (pcB := 34) (se_iload_n dX9_deed_31 rfl rfl) (se_bipush dX9_deed_32 (by decide +kernel) rfl) dX9_deed_34 rfl rfl)) (sc_Fne (pcA := 38) (pcB := 40) (se_iload_n dX9_deed_37 rfl rfl) (se_bipush dX9_deed_38 (by decide +kernel) rfl) dX9_deed_40 rfl rfl))
    (ss_retZ (pcA := 44) (se_iconst dX9_deed_43 (by decide +kernel) rfl) dX9_deed_44 rfl) ss_skip)
    (ss_seq (pcA := 57) (ss_ast (pcA := 49) (pcI := 55) (pcB := 56) (se_getR (pcA := 46) (T := TX9) (k := 15) (index := 34) (se_aload_n dX9_deed_45 rfl rfl) rfl in_X9_deed_X9 (Nat.le_of_ble_eq_true rfl) lk_X9_deed_34 rfl dX9_deed_46 rfl) (se_mul (pcA := 50) (pcB := 54) (se_iconst dX9_deed_49 (by decide +kernel) rfl) (se_get (pcA := 51) (T := TX9) (k := 14) (index := 141) (se_aload_n dX9_deed_50 rfl rfl) rfl in_X9_deed_X9 (Nat.le_of_ble_eq_true rfl) lk_X9_deed_141 rfl dX9_deed_51 rfl) dX9_deed_54 rfl) (se_iload_n dX9_deed_55 rfl rfl) dX9_deed_56 rfl)
    (ss_seq (pcA := 74) (ss_ast (pcA := 61) (pcI := 69) (pcB := 73) (se_getR (pcA := 58) (T := TX9) (k := 15) (index := 34) (se_aload_n dX9_deed_57 rfl rfl) rfl in_X9_deed_X9 (Nat.le_of_ble_eq_true rfl) lk_X9_deed_34 rfl dX9_deed_58 rfl) (se_add (pcA := 67) (pcB := 68) (se_mul (pcA := 62) (pcB := 66) (se_iconst dX9_deed_61 (by decide +kernel) rfl) (se_get (pcA := 63) (T := TX9) (k := 14) (index := 141) (se_aload_n dX9_deed_62 rfl rfl) rfl in_X9_deed_X9 (Nat.le_of_ble_eq_true rfl) lk_X9_deed_141 rfl dX9_deed_63 rfl) dX9_deed_66 rfl) (se_iconst dX9_deed_67 (by decide +kernel) rfl) dX9_deed_68 rfl) (se_get (pcA := 70) (T := TX9) (k := 13) (index := 135) (se_aload_n dX9_deed_69 rfl rfl) rfl in_X9_deed_X9 (Nat.le_of_ble_eq_true rfl) lk_X9_deed_135 rfl dX9_deed_70 rfl) dX9_deed_73 rfl)
    (ss_seq (pcA := 84) (ss_putop (pcA := 75) (pcD := 76) (pcG := 79) (pcB := 80) (pcO := 81) (T := TX9) (index := 135) (se_aload_n dX9_deed_74 rfl rfl) dX9_deed_75 rfl rfl in_X9_deed_X9 tyX9 tyX9_ok nmX9 (Nat.le_of_ble_eq_true rfl) lk_X9_deed_135 rfl dX9_deed_76 rfl (se_iconst dX9_deed_79 (by decide +kernel) rfl) (Or.inl ⟨dX9_deed_80, rfl⟩) rfl rfl rfl dX9_deed_81 rfl)
    (ss_retZ (pcA := 127) (se_if (pcT := 122) (pcF := 126) (pcG := 123) (sc_and (pcA := 95) (sc_Fne0 (pcB := 92) (se_callVI (pcA := 89) (ci := 7) (index := 144) (sa_cr (pcA := 85) (se_aload_n dX9_deed_84 rfl rfl) (sa_ci (pcA := 86) (se_iconst dX9_deed_85 (by decide +kernel) rfl) (sa_ci (pcA := 87) (se_iconst dX9_deed_86 (by decide +kernel) rfl) (sa_ci (pcA := 89) (se_bipush dX9_deed_87 (by decide +kernel) rfl) sa_nil)))) T_X9_number (s_Rcv_of 7 _ _) rfl gX9_deed_X9_number rfl (by decide +kernel) (Nat.le_of_ble_eq_true rfl) (Nat.le_of_ble_eq_true rfl) (s_LenR (s_LenI (s_LenI (s_LenI s_Len0)))) (Nat.le_of_ble_eq_true rfl) dX9_deed_89 rfl) dX9_deed_92 rfl rfl) (sc_or (pcA := 101) (sc_Tne (pcA := 96) (pcB := 98) (se_iload_n dX9_deed_95 rfl rfl) (se_bipush dX9_deed_96 (by decide +kernel) rfl) dX9_deed_98 rfl rfl) (sc_and (pcA := 110) (sc_Fne0 (pcB := 107) (se_callVI (pcA := 104) (ci := 7) (index := 147) (sa_cr (pcA := 102) (se_aload_n dX9_deed_101 rfl rfl) (sa_ci (pcA := 104) (se_bipush dX9_deed_102 (by decide +kernel) rfl) sa_nil)) T_X9_sign (s_Rcv_of 7 _ _) rfl gX9_deed_X9_sign rfl (by decide +kernel) (Nat.le_of_ble_eq_true rfl) (Nat.le_of_ble_eq_true rfl) (s_LenR (s_LenI s_Len0)) (Nat.le_of_ble_eq_true rfl) dX9_deed_104 rfl) dX9_deed_107 rfl rfl) (sc_Fne0 (pcB := 119) (se_callVI (pcA := 116) (ci := 7) (index := 144) (sa_cr (pcA := 111) (se_aload_n dX9_deed_110 rfl rfl) (sa_ci (pcA := 112) (se_iconst dX9_deed_111 (by decide +kernel) rfl) (sa_ci (pcA := 113) (se_iconst dX9_deed_112 (by decide +kernel) rfl) (sa_ci (pcA := 116) (se_sipush dX9_deed_113 (by decide +kernel) rfl) sa_nil)))) T_X9_number (s_Rcv_of 7 _ _) rfl gX9_deed_X9_number rfl (by decide +kernel) (Nat.le_of_ble_eq_true rfl) (Nat.le_of_ble_eq_true rfl) (s_LenR (s_LenI (s_LenI (s_LenI s_Len0)))) (Nat.le_of_ble_eq_true rfl) dX9_deed_116 rfl) dX9_deed_119 rfl rfl)))) (se_iconst dX9_deed_122 (by decide +kernel) rfl) dX9_deed_123 rfl (se_iconst dX9_deed_126 (by decide +kernel) rfl)) dX9_deed_127 rfl))))))
theorem T_X9_deed : sMet vwCl RX6 yX9_deed wsX9_deed 3 68 M_X9_deed := sMet_of rfl (by decide +kernel) rfl rfl (fun h => by cases h) (m_ofV_run _ _ _) S_X9_deed (m_ofV_cat _ _ _ (Nat.le_of_ble_eq_true rfl))
theorem in_X9_fault_X9 : ∀ w ∈ u_ws RX9 TX9 18, w ∈ wsX9_fault := by decide +kernel
theorem lk_X9_fault_135 : Cond.fieldLink RX9 135 RX9 "spot" "I" ∈ wsX9_fault := by decide +kernel
theorem lk_X9_fault_141 : Cond.fieldLink RX9 141 RX9 "many" "I" ∈ wsX9_fault := by decide +kernel
theorem lk_X9_fault_132 : Cond.fieldLink RX9 132 RX9 "typed" "I" ∈ wsX9_fault := by decide +kernel
abbrev C_X9_fault_1 : sCd := (c_cmp0 i_ne (e_i 2))
abbrev W_X9_fault_1 : sStm :=
  (s_seq (s_if (c_not (c_if (c_cmp0 i_eq (e_i 1)) (c_cmp0 i_ne (e_callI M_X9_number (a_cr (e_r 0) (a_ci (e_k (nI 1)) (a_ci (e_k (nI 1)) (a_ci (e_k (nI 9999)) a_nil)))))) (c_cmp0 i_ne (e_callI M_X9_deed (a_cr (e_r 0) a_nil)))))
    (s_retI (e_get 7 13 (e_r 0))) s_skip)
    (s_seq (s_putop 7 14 (e_r 0) (fun x z => x + z) (e_k (nI 1)))
    (s_setI 2 (e_callI M_X9_sign (a_cr (e_r 0) (a_ci (e_if (c_cmp0 i_eq (e_i 1)) (e_k (nI 44)) (e_k (nI 59))) a_nil))))))
def B_X9_fault : sStm :=
  (s_seq (s_if (c_not (c_cmp0 i_ne (e_callI M_X9_in (a_ci (e_i 1) (a_ci (e_k (nI 0)) (a_ci (e_k (nI 1)) a_nil))))))
    (s_retI (e_k (-1))) s_skip)
    (s_seq (s_putI 7 13 (e_r 0) (e_k (nI 0)))
    (s_seq (s_putI 7 14 (e_r 0) (e_k (nI 0)))
    (s_seq (s_decI 2 (e_k (nI 1)))
    (s_seq (s_while C_X9_fault_1 W_X9_fault_1)
    (s_retI (e_if (c_cmp i_eq (e_get 7 13 (e_r 0)) (e_get 7 9 (e_r 0))) (e_k (-4)) (e_get 7 13 (e_r 0)))))))))
def M_X9_fault : sSem := m_ofV 7 2 B_X9_fault
set_option maxRecDepth 100000 in
set_option maxHeartbeats 4000000 in
theorem S_X9_fault : sSS (cX9_fault, wsX9_fault, RX9, (some .int), 4, 89, 3, vwCl, RX6, false) 0 0 B_X9_fault :=
  (ss_seq (pcA := 11) (ss_if (pcT := 9) (pcF := 11) (sc_not (sc_Tne0 (pcB := 6) (se_callSI (pcA := 3) (index := 51) (sa_ci (pcA := 1) (se_iload_n dX9_fault_0 rfl rfl) (sa_ci (pcA := 2) (se_iconst dX9_fault_1 (by decide +kernel) rfl) (sa_ci (pcA := 3) (se_iconst dX9_fault_2 (by decide +kernel) rfl) sa_nil))) T_X9_in gX9_fault_X9_in rfl (by decide +kernel) (Nat.le_of_ble_eq_true rfl) (Nat.le_of_ble_eq_true rfl) (s_LenI (s_LenI (s_LenI s_Len0))) (Nat.le_of_ble_eq_true rfl) dX9_fault_3 rfl) dX9_fault_6 rfl rfl))
    (ss_retI (pcA := 10) (se_iconst dX9_fault_9 (by decide +kernel) rfl) dX9_fault_10 rfl) ss_skip)
    (ss_seq (pcA := 16) (ss_putI (pcA := 12) (pcB := 13) (T := TX9) (index := 135) (se_aload_n dX9_fault_11 rfl rfl) (se_iconst dX9_fault_12 (by decide +kernel) rfl) rfl in_X9_fault_X9 tyX9 tyX9_ok nmX9 (Nat.le_of_ble_eq_true rfl) lk_X9_fault_135 rfl rfl rfl dX9_fault_13 rfl)
    (ss_seq (pcA := 21) (ss_putI (pcA := 17) (pcB := 18) (T := TX9) (index := 141) (se_aload_n dX9_fault_16 rfl rfl) (se_iconst dX9_fault_17 (by decide +kernel) rfl) rfl in_X9_fault_X9 tyX9 tyX9_ok nmX9 (Nat.le_of_ble_eq_true rfl) lk_X9_fault_141 rfl rfl rfl dX9_fault_18 rfl)
    (ss_seq (pcA := 23) (ss_decI_n (pcA := 22) (se_iconst dX9_fault_21 (by decide +kernel) rfl) dX9_fault_22 rfl (Nat.le_of_ble_eq_true rfl) rfl)
    (ss_seq (pcA := 87) (ss_while (pcB := 27) (sc_Fne0 (pcB := 24) (se_iload_n dX9_fault_23 rfl rfl) dX9_fault_24 rfl rfl)
    (ss_seq (pcA := 58) (ss_if (pcT := 53) (pcF := 58) (sc_not (sc_if (pcA := 31) (pcB := 46) (sc_Feq0 (pcB := 28) (se_iload_n dX9_fault_27 rfl rfl) dX9_fault_28 rfl rfl) (sc_gotoT (pcG := 43) (sc_Fne0 (pcB := 40) (se_callVI (pcA := 37) (ci := 7) (index := 144) (sa_cr (pcA := 32) (se_aload_n dX9_fault_31 rfl rfl) (sa_ci (pcA := 33) (se_iconst dX9_fault_32 (by decide +kernel) rfl) (sa_ci (pcA := 34) (se_iconst dX9_fault_33 (by decide +kernel) rfl) (sa_ci (pcA := 37) (se_sipush dX9_fault_34 (by decide +kernel) rfl) sa_nil)))) T_X9_number (s_Rcv_of 7 _ _) rfl gX9_fault_X9_number rfl (by decide +kernel) (Nat.le_of_ble_eq_true rfl) (Nat.le_of_ble_eq_true rfl) (s_LenR (s_LenI (s_LenI (s_LenI s_Len0)))) (Nat.le_of_ble_eq_true rfl) dX9_fault_37 rfl) dX9_fault_40 rfl rfl) dX9_fault_43 rfl) (sc_Tne0 (pcB := 50) (se_callVI (pcA := 47) (ci := 7) (index := 150) (sa_cr (pcA := 47) (se_aload_n dX9_fault_46 rfl rfl) sa_nil) T_X9_deed (s_Rcv_of 7 _ _) rfl gX9_fault_X9_deed rfl (by decide +kernel) (Nat.le_of_ble_eq_true rfl) (Nat.le_of_ble_eq_true rfl) (s_LenR s_Len0) (Nat.le_of_ble_eq_true rfl) dX9_fault_47 rfl) dX9_fault_50 rfl rfl)))
    (ss_retI (pcA := 57) (se_get (pcA := 54) (T := TX9) (k := 13) (index := 135) (se_aload_n dX9_fault_53 rfl rfl) rfl in_X9_fault_X9 (Nat.le_of_ble_eq_true rfl) lk_X9_fault_135 rfl dX9_fault_54 rfl) dX9_fault_57 rfl) ss_skip)
    (ss_seq (pcA := 68) (ss_putop (pcA := 59) (pcD := 60) (pcG := 63) (pcB := 64) (pcO := 65) (T := TX9) (index := 141) (se_aload_n dX9_fault_58 rfl rfl) dX9_fault_59 rfl rfl in_X9_fault_X9 tyX9 tyX9_ok nmX9 (Nat.le_of_ble_eq_true rfl) lk_X9_fault_141 rfl dX9_fault_60 rfl (se_iconst dX9_fault_63 (by decide +kernel) rfl) (Or.inl ⟨dX9_fault_64, rfl⟩) rfl rfl rfl dX9_fault_65 rfl)
    (ss_goto (pcG := 84) (ss_setI_n (pcA := 83) (se_callVI (pcA := 80) (ci := 7) (index := 147) (sa_cr (pcA := 69) (se_aload_n dX9_fault_68 rfl rfl) (sa_ci (pcA := 80) (se_if (pcT := 73) (pcF := 78) (pcG := 75) (sc_Feq0 (pcB := 70) (se_iload_n dX9_fault_69 rfl rfl) dX9_fault_70 rfl rfl) (se_bipush dX9_fault_73 (by decide +kernel) rfl) dX9_fault_75 rfl (se_bipush dX9_fault_78 (by decide +kernel) rfl)) sa_nil)) T_X9_sign (s_Rcv_of 7 _ _) rfl gX9_fault_X9_sign rfl (by decide +kernel) (Nat.le_of_ble_eq_true rfl) (Nat.le_of_ble_eq_true rfl) (s_LenR (s_LenI s_Len0)) (Nat.le_of_ble_eq_true rfl) dX9_fault_80 rfl) dX9_fault_83 rfl (Nat.le_of_ble_eq_true rfl) rfl) dX9_fault_84 rfl))))
    (ss_retI (pcA := 107) (se_if (pcT := 98) (pcF := 103) (pcG := 100) (sc_Feq (pcA := 91) (pcB := 95) (se_get (pcA := 88) (T := TX9) (k := 13) (index := 135) (se_aload_n dX9_fault_87 rfl rfl) rfl in_X9_fault_X9 (Nat.le_of_ble_eq_true rfl) lk_X9_fault_135 rfl dX9_fault_88 rfl) (se_get (pcA := 92) (T := TX9) (k := 9) (index := 132) (se_aload_n dX9_fault_91 rfl rfl) rfl in_X9_fault_X9 (Nat.le_of_ble_eq_true rfl) lk_X9_fault_132 rfl dX9_fault_92 rfl) dX9_fault_95 rfl rfl) (se_bipush dX9_fault_98 (by decide +kernel) rfl) dX9_fault_100 rfl (se_get (pcA := 104) (T := TX9) (k := 13) (index := 135) (se_aload_n dX9_fault_103 rfl rfl) rfl in_X9_fault_X9 (Nat.le_of_ble_eq_true rfl) lk_X9_fault_135 rfl dX9_fault_104 rfl)) dX9_fault_107 rfl))))))
theorem T_X9_fault : sMet vwCl RX6 yX9_fault wsX9_fault 4 89 M_X9_fault := sMet_of rfl (by decide +kernel) rfl rfl (fun h => by cases h) (m_ofV_run _ _ _) S_X9_fault (m_ofV_cat _ _ _ (Nat.le_of_ble_eq_true rfl))
theorem in_X9_read_X9 : ∀ w ∈ u_ws RX9 TX9 18, w ∈ wsX9_read := by decide +kernel
theorem lk_X9_read_7 : Cond.fieldLink RX9 7 RX9 "s" "[I" ∈ wsX9_read := by decide +kernel
theorem lk_X9_read_141 : Cond.fieldLink RX9 141 RX9 "many" "I" ∈ wsX9_read := by decide +kernel
theorem lk_X9_read_34 : Cond.fieldLink RX9 34 RX9 "read" "[I" ∈ wsX9_read := by decide +kernel
theorem lk_X9_read_132 : Cond.fieldLink RX9 132 RX9 "typed" "I" ∈ wsX9_read := by decide +kernel
abbrev C_X9_read_1 : sCd := (c_cmp i_lt (e_i 1) (e_get 7 14 (e_r 0)))
abbrev W_X9_read_1 : sStm :=
  (s_seq (s_callV M_X9_puts (a_cr (e_r 0) (a_ci (e_ald (e_getR 7 0 (e_r 0)) (e_k (nI 2))) (a_ci (e_ald (e_getR 7 15 (e_r 0)) (e_add (e_mul (e_k (nI 4)) (e_i 1)) (e_k (nI 1)))) a_nil))))
    (s_inc 1 (nI 1)))
def B_X9_read : sStm :=
  (s_seq (s_if (c_cmp i_ne (e_callI M_X9_fault (a_cr (e_r 0) (a_ci (e_k (nI 0)) a_nil))) (e_k (-4)))
    (s_retI (e_k (-2))) s_skip)
    (s_seq (s_if (c_cmp i_gt (e_add (e_ald (e_getR 7 0 (e_r 0)) (e_k (nI 2))) (e_get 7 14 (e_r 0))) (e_k (nI 12)))
    (s_retI (e_k (-3))) s_skip)
    (s_seq (s_callV M_X9_changes (a_cr (e_r 0) a_nil))
    (s_seq (s_blk 1 (s_seq (s_decI 1 (e_k (nI 0)))
    (s_while C_X9_read_1 W_X9_read_1)))
    (s_seq (s_putI 7 9 (e_r 0) (e_k (nI 0)))
    (s_retI (e_ald (e_getR 7 0 (e_r 0)) (e_k (nI 2)))))))))
def M_X9_read : sSem := m_ofV 7 1 B_X9_read
set_option maxRecDepth 100000 in
set_option maxHeartbeats 4000000 in
theorem S_X9_read : sSS (cX9_read, wsX9_read, RX9, (some .int), 5, 111, 2, vwCl, RX6, false) 0 0 B_X9_read :=
  (ss_seq (pcA := 13) (ss_if (pcT := 10) (pcF := 13) (sc_Fne (pcA := 5) (pcB := 7) (se_callVI (pcA := 2) (ci := 7) (index := 153) (sa_cr (pcA := 1) (se_aload_n dX9_read_0 rfl rfl) (sa_ci (pcA := 2) (se_iconst dX9_read_1 (by decide +kernel) rfl) sa_nil)) T_X9_fault (s_Rcv_of 7 _ _) rfl gX9_read_X9_fault rfl (by decide +kernel) (Nat.le_of_ble_eq_true rfl) (Nat.le_of_ble_eq_true rfl) (s_LenR (s_LenI s_Len0)) (Nat.le_of_ble_eq_true rfl) dX9_read_2 rfl) (se_bipush dX9_read_5 (by decide +kernel) rfl) dX9_read_7 rfl rfl)
    (ss_retI (pcA := 12) (se_bipush dX9_read_10 (by decide +kernel) rfl) dX9_read_12 rfl) ss_skip)
    (ss_seq (pcA := 32) (ss_if (pcT := 29) (pcF := 32) (sc_Fgt (pcA := 24) (pcB := 26) (se_add (pcA := 19) (pcB := 23) (se_ald (pcA := 17) (pcB := 18) (se_getR (pcA := 14) (T := TX9) (k := 0) (index := 7) (se_aload_n dX9_read_13 rfl rfl) rfl in_X9_read_X9 (Nat.le_of_ble_eq_true rfl) lk_X9_read_7 rfl dX9_read_14 rfl) (se_iconst dX9_read_17 (by decide +kernel) rfl) dX9_read_18 rfl) (se_get (pcA := 20) (T := TX9) (k := 14) (index := 141) (se_aload_n dX9_read_19 rfl rfl) rfl in_X9_read_X9 (Nat.le_of_ble_eq_true rfl) lk_X9_read_141 rfl dX9_read_20 rfl) dX9_read_23 rfl) (se_bipush dX9_read_24 (by decide +kernel) rfl) dX9_read_26 rfl rfl)
    (ss_retI (pcA := 31) (se_bipush dX9_read_29 (by decide +kernel) rfl) dX9_read_31 rfl) ss_skip)
    (ss_seq (pcA := 36) (ss_callVV (pcA := 33) (ci := 7) (index := 79) (sa_cr (pcA := 33) (se_aload_n dX9_read_32 rfl rfl) sa_nil) T_X9_changes (s_Rcv_of 7 _ _) rfl gX9_read_X9_changes rfl (by decide +kernel) (Nat.le_of_ble_eq_true rfl) (Nat.le_of_ble_eq_true rfl) (s_LenR s_Len0) dX9_read_33 rfl)
    (ss_seq (pcA := 72) (ss_blk (ss_seq (pcA := 38) (ss_decI_n (pcA := 37) (se_iconst dX9_read_36 (by decide +kernel) rfl) dX9_read_37 rfl (Nat.le_of_ble_eq_true rfl) rfl)
    (ss_while (pcB := 46) (sc_Flt (pcA := 39) (pcB := 43) (se_iload_n dX9_read_38 rfl rfl) (se_get (pcA := 40) (T := TX9) (k := 14) (index := 141) (se_aload_n dX9_read_39 rfl rfl) rfl in_X9_read_X9 (Nat.le_of_ble_eq_true rfl) lk_X9_read_141 rfl dX9_read_40 rfl) dX9_read_43 rfl rfl)
    (ss_seq (pcA := 66) (ss_callVV (pcA := 63) (ci := 7) (index := 82) (sa_cr (pcA := 47) (se_aload_n dX9_read_46 rfl rfl) (sa_ci (pcA := 53) (se_ald (pcA := 51) (pcB := 52) (se_getR (pcA := 48) (T := TX9) (k := 0) (index := 7) (se_aload_n dX9_read_47 rfl rfl) rfl in_X9_read_X9 (Nat.le_of_ble_eq_true rfl) lk_X9_read_7 rfl dX9_read_48 rfl) (se_iconst dX9_read_51 (by decide +kernel) rfl) dX9_read_52 rfl) (sa_ci (pcA := 63) (se_ald (pcA := 57) (pcB := 62) (se_getR (pcA := 54) (T := TX9) (k := 15) (index := 34) (se_aload_n dX9_read_53 rfl rfl) rfl in_X9_read_X9 (Nat.le_of_ble_eq_true rfl) lk_X9_read_34 rfl dX9_read_54 rfl) (se_add (pcA := 60) (pcB := 61) (se_mul (pcA := 58) (pcB := 59) (se_iconst dX9_read_57 (by decide +kernel) rfl) (se_iload_n dX9_read_58 rfl rfl) dX9_read_59 rfl) (se_iconst dX9_read_60 (by decide +kernel) rfl) dX9_read_61 rfl) dX9_read_62 rfl) sa_nil))) T_X9_puts (s_Rcv_of 7 _ _) rfl gX9_read_X9_puts rfl (by decide +kernel) (Nat.le_of_ble_eq_true rfl) (Nat.le_of_ble_eq_true rfl) (s_LenR (s_LenI (s_LenI s_Len0))) dX9_read_63 rfl)
    (ss_goto (pcG := 69) (ss_inc dX9_read_66 (Nat.le_of_ble_eq_true rfl) (by decide +kernel) rfl) dX9_read_69 rfl)))))
    (ss_seq (pcA := 77) (ss_putI (pcA := 73) (pcB := 74) (T := TX9) (index := 132) (se_aload_n dX9_read_72 rfl rfl) (se_iconst dX9_read_73 (by decide +kernel) rfl) rfl in_X9_read_X9 tyX9 tyX9_ok nmX9 (Nat.le_of_ble_eq_true rfl) lk_X9_read_132 rfl rfl rfl dX9_read_74 rfl)
    (ss_retI (pcA := 83) (se_ald (pcA := 81) (pcB := 82) (se_getR (pcA := 78) (T := TX9) (k := 0) (index := 7) (se_aload_n dX9_read_77 rfl rfl) rfl in_X9_read_X9 (Nat.le_of_ble_eq_true rfl) lk_X9_read_7 rfl dX9_read_78 rfl) (se_iconst dX9_read_81 (by decide +kernel) rfl) dX9_read_82 rfl) dX9_read_83 rfl))))))
theorem T_X9_read : sMet vwCl RX6 yX9_read wsX9_read 5 111 M_X9_read := sMet_of rfl (by decide +kernel) rfl rfl (fun h => by cases h) (m_ofV_run _ _ _) S_X9_read (m_ofV_cat _ _ _ (Nat.le_of_ble_eq_true rfl))
theorem in_X9_does_X9 : ∀ w ∈ u_ws RX9 TX9 18, w ∈ wsX9_does := by decide +kernel
theorem lk_X9_does_34 : Cond.fieldLink RX9 34 RX9 "read" "[I" ∈ wsX9_does := by decide +kernel
def B_X9_does : sStm :=
  (s_seq (s_decI 2 (e_ald (e_getR 7 15 (e_r 0)) (e_add (e_mul (e_k (nI 4)) (e_i 1)) (e_k (nI 1)))))
    (s_sw (e_ald (e_getR 7 15 (e_r 0)) (e_mul (e_k (nI 4)) (e_i 1))) (fun x =>
    if x = nI 115 then (s_retI (e_callI M_X9_share (a_cr (e_r 0) (a_ci (e_i 2) a_nil))))
    else if x = nI 100 then (s_retI (e_callI M_X9_divide (a_cr (e_r 0) (a_ci (e_i 2) a_nil))))
    else (s_retI (e_callI M_X9_strike (a_cr (e_r 0) (a_ci (e_i 2) (a_ci (e_ald (e_getR 7 15 (e_r 0)) (e_add (e_mul (e_k (nI 4)) (e_i 1)) (e_k (nI 2)))) a_nil))))))))
def M_X9_does : sSem := m_ofV 7 2 B_X9_does
set_option maxRecDepth 100000 in
set_option maxHeartbeats 4000000 in
theorem S_X9_does : sSS (cX9_does, wsX9_does, RX9, (some .int), 4, 89, 3, vwCl, RX6, false) 0 0 B_X9_does :=
  (ss_seq (pcA := 11) (ss_decI_n (pcA := 10) (se_ald (pcA := 4) (pcB := 9) (se_getR (pcA := 1) (T := TX9) (k := 15) (index := 34) (se_aload_n dX9_does_0 rfl rfl) rfl in_X9_does_X9 (Nat.le_of_ble_eq_true rfl) lk_X9_does_34 rfl dX9_does_1 rfl) (se_add (pcA := 7) (pcB := 8) (se_mul (pcA := 5) (pcB := 6) (se_iconst dX9_does_4 (by decide +kernel) rfl) (se_iload_n dX9_does_5 rfl rfl) dX9_does_6 rfl) (se_iconst dX9_does_7 (by decide +kernel) rfl) dX9_does_8 rfl) dX9_does_9 rfl) dX9_does_10 rfl (Nat.le_of_ble_eq_true rfl) rfl)
    (ss_sw (pcA := 19) (se_ald (pcA := 15) (pcB := 18) (se_getR (pcA := 12) (T := TX9) (k := 15) (index := 34) (se_aload_n dX9_does_11 rfl rfl) rfl in_X9_does_X9 (Nat.le_of_ble_eq_true rfl) lk_X9_does_34 rfl dX9_does_12 rfl) (se_mul (pcA := 16) (pcB := 17) (se_iconst dX9_does_15 (by decide +kernel) rfl) (se_iload_n dX9_does_16 rfl rfl) dX9_does_17 rfl) dX9_does_18 rfl) (by
    intro x
    by_cases h0 : x = nI 115
    · subst h0
      exact ⟨44, s_Goes_look (off := 25) dX9_does_19 (by decide +kernel) rfl rfl, (ss_retI (pcA := 49) (se_callVI (pcA := 46) (ci := 7) (index := 156) (sa_cr (pcA := 45) (se_aload_n dX9_does_44 rfl rfl) (sa_ci (pcA := 46) (se_iload_n dX9_does_45 rfl rfl) sa_nil)) T_X9_share (s_Rcv_of 7 _ _) rfl gX9_does_X9_share rfl (by decide +kernel) (Nat.le_of_ble_eq_true rfl) (Nat.le_of_ble_eq_true rfl) (s_LenR (s_LenI s_Len0)) (Nat.le_of_ble_eq_true rfl) dX9_does_46 rfl) dX9_does_49 rfl)⟩
    by_cases h1 : x = nI 100
    · subst h1
      exact ⟨50, s_Goes_look (off := 31) dX9_does_19 (by decide +kernel) rfl rfl, (ss_retI (pcA := 55) (se_callVI (pcA := 52) (ci := 7) (index := 159) (sa_cr (pcA := 51) (se_aload_n dX9_does_50 rfl rfl) (sa_ci (pcA := 52) (se_iload_n dX9_does_51 rfl rfl) sa_nil)) T_X9_divide (s_Rcv_of 7 _ _) rfl gX9_does_X9_divide rfl (by decide +kernel) (Nat.le_of_ble_eq_true rfl) (Nat.le_of_ble_eq_true rfl) (s_LenR (s_LenI s_Len0)) (Nat.le_of_ble_eq_true rfl) dX9_does_52 rfl) dX9_does_55 rfl)⟩
    exact ⟨56, s_Goes_look (off := 37) dX9_does_19 (by decide +kernel) (by have e0 : x.toInt ≠ 115 := i_tn (nI 115) h0; have e1 : x.toInt ≠ 100 := i_tn (nI 100) h1; simp [Op.lookupswitch.offset, e0, Ne.symm e0, e1, Ne.symm e1]) rfl, by rw [if_neg h0, if_neg h1]; exact (ss_retI (pcA := 71) (se_callVI (pcA := 68) (ci := 7) (index := 162) (sa_cr (pcA := 57) (se_aload_n dX9_does_56 rfl rfl) (sa_ci (pcA := 58) (se_iload_n dX9_does_57 rfl rfl) (sa_ci (pcA := 68) (se_ald (pcA := 62) (pcB := 67) (se_getR (pcA := 59) (T := TX9) (k := 15) (index := 34) (se_aload_n dX9_does_58 rfl rfl) rfl in_X9_does_X9 (Nat.le_of_ble_eq_true rfl) lk_X9_does_34 rfl dX9_does_59 rfl) (se_add (pcA := 65) (pcB := 66) (se_mul (pcA := 63) (pcB := 64) (se_iconst dX9_does_62 (by decide +kernel) rfl) (se_iload_n dX9_does_63 rfl rfl) dX9_does_64 rfl) (se_iconst dX9_does_65 (by decide +kernel) rfl) dX9_does_66 rfl) dX9_does_67 rfl) sa_nil))) T_X9_strike (s_Rcv_of 7 _ _) rfl gX9_does_X9_strike rfl (by decide +kernel) (Nat.le_of_ble_eq_true rfl) (Nat.le_of_ble_eq_true rfl) (s_LenR (s_LenI (s_LenI s_Len0))) (Nat.le_of_ble_eq_true rfl) dX9_does_68 rfl) dX9_does_71 rfl)⟩)))
theorem T_X9_does : sMet vwCl RX6 yX9_does wsX9_does 4 89 M_X9_does := sMet_of rfl (by decide +kernel) rfl rfl (fun h => by cases h) (m_ofV_run _ _ _) S_X9_does (m_ofV_cat _ _ _ (Nat.le_of_ble_eq_true rfl))
theorem in_X9_carryOut_X9 : ∀ w ∈ u_ws RX9 TX9 18, w ∈ wsX9_carryOut := by decide +kernel
theorem lk_X9_carryOut_132 : Cond.fieldLink RX9 132 RX9 "typed" "I" ∈ wsX9_carryOut := by decide +kernel
theorem lk_X9_carryOut_43 : Cond.fieldLink RX9 43 RX9 "runs" "Z" ∈ wsX9_carryOut := by decide +kernel
theorem lk_X9_carryOut_165 : Cond.fieldLink RX9 165 RX9 "isStopped" "Z" ∈ wsX9_carryOut := by decide +kernel
theorem lk_X9_carryOut_141 : Cond.fieldLink RX9 141 RX9 "many" "I" ∈ wsX9_carryOut := by decide +kernel
theorem lk_X9_carryOut_28 : Cond.fieldLink RX9 28 RX9 "stop" "[I" ∈ wsX9_carryOut := by decide +kernel
theorem lk_X9_carryOut_34 : Cond.fieldLink RX9 34 RX9 "read" "[I" ∈ wsX9_carryOut := by decide +kernel
abbrev C_X9_carryOut_1 : sCd := (c_and (c_cmp i_lt (e_i 1) (e_get 7 14 (e_r 0))) (c_not (c_cmp0 i_ne (e_get 7 10 (e_r 0)))))
abbrev W_X9_carryOut_1 : sStm :=
  (s_blk 2 (s_seq (s_decI 2 (e_callI M_X9_does (a_cr (e_r 0) (a_ci (e_i 1) a_nil))))
    (s_seq (s_putZ 7 10 (e_r 0) (e_if (c_cmp0 i_lt (e_i 2)) (e_k (nI 1)) (e_k (nI 0))))
    (s_seq (s_ast (e_getR 7 11 (e_r 0)) (e_k (nI 0)) (e_i 2))
    (s_seq (s_ast (e_getR 7 11 (e_r 0)) (e_k (nI 1)) (e_i 1))
    (s_seq (s_ast (e_getR 7 11 (e_r 0)) (e_k (nI 2)) (e_ald (e_getR 7 15 (e_r 0)) (e_add (e_mul (e_k (nI 4)) (e_i 1)) (e_k (nI 3)))))
    (s_setI 1 (e_add (e_i 1) (e_if (c_cmp0 i_ne (e_get 7 10 (e_r 0))) (e_k (nI 0)) (e_k (nI 1)))))))))))
def B_X9_carryOut : sStm :=
  (s_seq (s_if (c_cmp i_ne (e_callI M_X9_fault (a_cr (e_r 0) (a_ci (e_k (nI 1)) a_nil))) (e_k (-4)))
    (s_retI (e_k (-2))) s_skip)
    (s_seq (s_callV M_X9_changes (a_cr (e_r 0) a_nil))
    (s_seq (s_putI 7 9 (e_r 0) (e_k (nI 0)))
    (s_seq (s_putZ 7 7 (e_r 0) (e_k (nI 1)))
    (s_seq (s_putZ 7 10 (e_r 0) (e_k (nI 0)))
    (s_seq (s_decI 1 (e_k (nI 0)))
    (s_seq (s_while C_X9_carryOut_1 W_X9_carryOut_1)
    (s_seq (s_putZ 7 7 (e_r 0) (e_k (nI 0)))
    (s_retI (e_i 1))))))))))
def M_X9_carryOut : sSem := m_ofV 7 1 B_X9_carryOut
set_option maxRecDepth 100000 in
set_option maxHeartbeats 4000000 in
theorem S_X9_carryOut : sSS (cX9_carryOut, wsX9_carryOut, RX9, (some .int), 5, 111, 3, vwCl, RX6, false) 0 0 B_X9_carryOut :=
  (ss_seq (pcA := 13) (ss_if (pcT := 10) (pcF := 13) (sc_Fne (pcA := 5) (pcB := 7) (se_callVI (pcA := 2) (ci := 7) (index := 153) (sa_cr (pcA := 1) (se_aload_n dX9_carryOut_0 rfl rfl) (sa_ci (pcA := 2) (se_iconst dX9_carryOut_1 (by decide +kernel) rfl) sa_nil)) T_X9_fault (s_Rcv_of 7 _ _) rfl gX9_carryOut_X9_fault rfl (by decide +kernel) (Nat.le_of_ble_eq_true rfl) (Nat.le_of_ble_eq_true rfl) (s_LenR (s_LenI s_Len0)) (Nat.le_of_ble_eq_true rfl) dX9_carryOut_2 rfl) (se_bipush dX9_carryOut_5 (by decide +kernel) rfl) dX9_carryOut_7 rfl rfl)
    (ss_retI (pcA := 12) (se_bipush dX9_carryOut_10 (by decide +kernel) rfl) dX9_carryOut_12 rfl) ss_skip)
    (ss_seq (pcA := 17) (ss_callVV (pcA := 14) (ci := 7) (index := 79) (sa_cr (pcA := 14) (se_aload_n dX9_carryOut_13 rfl rfl) sa_nil) T_X9_changes (s_Rcv_of 7 _ _) rfl gX9_carryOut_X9_changes rfl (by decide +kernel) (Nat.le_of_ble_eq_true rfl) (Nat.le_of_ble_eq_true rfl) (s_LenR s_Len0) dX9_carryOut_14 rfl)
    (ss_seq (pcA := 22) (ss_putI (pcA := 18) (pcB := 19) (T := TX9) (index := 132) (se_aload_n dX9_carryOut_17 rfl rfl) (se_iconst dX9_carryOut_18 (by decide +kernel) rfl) rfl in_X9_carryOut_X9 tyX9 tyX9_ok nmX9 (Nat.le_of_ble_eq_true rfl) lk_X9_carryOut_132 rfl rfl rfl dX9_carryOut_19 rfl)
    (ss_seq (pcA := 27) (ss_putZ (pcA := 23) (pcB := 24) (T := TX9) (index := 43) (se_aload_n dX9_carryOut_22 rfl rfl) (se_iconst dX9_carryOut_23 (by decide +kernel) rfl) rfl in_X9_carryOut_X9 tyX9 tyX9_ok nmX9 (Nat.le_of_ble_eq_true rfl) lk_X9_carryOut_43 rfl rfl rfl dX9_carryOut_24 rfl)
    (ss_seq (pcA := 32) (ss_putZ (pcA := 28) (pcB := 29) (T := TX9) (index := 165) (se_aload_n dX9_carryOut_27 rfl rfl) (se_iconst dX9_carryOut_28 (by decide +kernel) rfl) rfl in_X9_carryOut_X9 tyX9 tyX9_ok nmX9 (Nat.le_of_ble_eq_true rfl) lk_X9_carryOut_165 rfl rfl rfl dX9_carryOut_29 rfl)
    (ss_seq (pcA := 34) (ss_decI_n (pcA := 33) (se_iconst dX9_carryOut_32 (by decide +kernel) rfl) dX9_carryOut_33 rfl (Nat.le_of_ble_eq_true rfl) rfl)
    (ss_seq (pcA := 116) (ss_while (pcB := 49) (sc_and (pcA := 42) (sc_Flt (pcA := 35) (pcB := 39) (se_iload_n dX9_carryOut_34 rfl rfl) (se_get (pcA := 36) (T := TX9) (k := 14) (index := 141) (se_aload_n dX9_carryOut_35 rfl rfl) rfl in_X9_carryOut_X9 (Nat.le_of_ble_eq_true rfl) lk_X9_carryOut_141 rfl dX9_carryOut_36 rfl) dX9_carryOut_39 rfl rfl) (sc_not (sc_Tne0 (pcB := 46) (se_get (pcA := 43) (T := TX9) (k := 10) (index := 165) (se_aload_n dX9_carryOut_42 rfl rfl) rfl in_X9_carryOut_X9 (Nat.le_of_ble_eq_true rfl) lk_X9_carryOut_165 rfl dX9_carryOut_43 rfl) dX9_carryOut_46 rfl rfl)))
    (ss_blk (ss_seq (pcA := 55) (ss_decI_n (pcA := 54) (se_callVI (pcA := 51) (ci := 7) (index := 168) (sa_cr (pcA := 50) (se_aload_n dX9_carryOut_49 rfl rfl) (sa_ci (pcA := 51) (se_iload_n dX9_carryOut_50 rfl rfl) sa_nil)) T_X9_does (s_Rcv_of 7 _ _) rfl gX9_carryOut_X9_does rfl (by decide +kernel) (Nat.le_of_ble_eq_true rfl) (Nat.le_of_ble_eq_true rfl) (s_LenR (s_LenI s_Len0)) (Nat.le_of_ble_eq_true rfl) dX9_carryOut_51 rfl) dX9_carryOut_54 rfl (Nat.le_of_ble_eq_true rfl) rfl)
    (ss_seq (pcA := 68) (ss_putZ (pcA := 56) (pcB := 65) (T := TX9) (index := 165) (se_aload_n dX9_carryOut_55 rfl rfl) (se_if (pcT := 60) (pcF := 64) (pcG := 61) (sc_Flt0 (pcB := 57) (se_iload_n dX9_carryOut_56 rfl rfl) dX9_carryOut_57 rfl rfl) (se_iconst dX9_carryOut_60 (by decide +kernel) rfl) dX9_carryOut_61 rfl (se_iconst dX9_carryOut_64 (by decide +kernel) rfl)) rfl in_X9_carryOut_X9 tyX9 tyX9_ok nmX9 (Nat.le_of_ble_eq_true rfl) lk_X9_carryOut_165 rfl rfl rfl dX9_carryOut_65 rfl)
    (ss_seq (pcA := 75) (ss_ast (pcA := 72) (pcI := 73) (pcB := 74) (se_getR (pcA := 69) (T := TX9) (k := 11) (index := 28) (se_aload_n dX9_carryOut_68 rfl rfl) rfl in_X9_carryOut_X9 (Nat.le_of_ble_eq_true rfl) lk_X9_carryOut_28 rfl dX9_carryOut_69 rfl) (se_iconst dX9_carryOut_72 (by decide +kernel) rfl) (se_iload_n dX9_carryOut_73 rfl rfl) dX9_carryOut_74 rfl)
    (ss_seq (pcA := 82) (ss_ast (pcA := 79) (pcI := 80) (pcB := 81) (se_getR (pcA := 76) (T := TX9) (k := 11) (index := 28) (se_aload_n dX9_carryOut_75 rfl rfl) rfl in_X9_carryOut_X9 (Nat.le_of_ble_eq_true rfl) lk_X9_carryOut_28 rfl dX9_carryOut_76 rfl) (se_iconst dX9_carryOut_79 (by decide +kernel) rfl) (se_iload_n dX9_carryOut_80 rfl rfl) dX9_carryOut_81 rfl)
    (ss_seq (pcA := 98) (ss_ast (pcA := 86) (pcI := 87) (pcB := 97) (se_getR (pcA := 83) (T := TX9) (k := 11) (index := 28) (se_aload_n dX9_carryOut_82 rfl rfl) rfl in_X9_carryOut_X9 (Nat.le_of_ble_eq_true rfl) lk_X9_carryOut_28 rfl dX9_carryOut_83 rfl) (se_iconst dX9_carryOut_86 (by decide +kernel) rfl) (se_ald (pcA := 91) (pcB := 96) (se_getR (pcA := 88) (T := TX9) (k := 15) (index := 34) (se_aload_n dX9_carryOut_87 rfl rfl) rfl in_X9_carryOut_X9 (Nat.le_of_ble_eq_true rfl) lk_X9_carryOut_34 rfl dX9_carryOut_88 rfl) (se_add (pcA := 94) (pcB := 95) (se_mul (pcA := 92) (pcB := 93) (se_iconst dX9_carryOut_91 (by decide +kernel) rfl) (se_iload_n dX9_carryOut_92 rfl rfl) dX9_carryOut_93 rfl) (se_iconst dX9_carryOut_94 (by decide +kernel) rfl) dX9_carryOut_95 rfl) dX9_carryOut_96 rfl) dX9_carryOut_97 rfl)
    (ss_goto (pcG := 113) (ss_setI_n (pcA := 112) (se_add (pcA := 99) (pcB := 111) (se_iload_n dX9_carryOut_98 rfl rfl) (se_if (pcT := 106) (pcF := 110) (pcG := 107) (sc_Fne0 (pcB := 103) (se_get (pcA := 100) (T := TX9) (k := 10) (index := 165) (se_aload_n dX9_carryOut_99 rfl rfl) rfl in_X9_carryOut_X9 (Nat.le_of_ble_eq_true rfl) lk_X9_carryOut_165 rfl dX9_carryOut_100 rfl) dX9_carryOut_103 rfl rfl) (se_iconst dX9_carryOut_106 (by decide +kernel) rfl) dX9_carryOut_107 rfl (se_iconst dX9_carryOut_110 (by decide +kernel) rfl)) dX9_carryOut_111 rfl) dX9_carryOut_112 rfl (Nat.le_of_ble_eq_true rfl) rfl) dX9_carryOut_113 rfl))))))))
    (ss_seq (pcA := 121) (ss_putZ (pcA := 117) (pcB := 118) (T := TX9) (index := 43) (se_aload_n dX9_carryOut_116 rfl rfl) (se_iconst dX9_carryOut_117 (by decide +kernel) rfl) rfl in_X9_carryOut_X9 tyX9 tyX9_ok nmX9 (Nat.le_of_ble_eq_true rfl) lk_X9_carryOut_43 rfl rfl rfl dX9_carryOut_118 rfl)
    (ss_retI (pcA := 122) (se_iload_n dX9_carryOut_121 rfl rfl) dX9_carryOut_122 rfl)))))))))
theorem T_X9_carryOut : sMet vwCl RX6 yX9_carryOut wsX9_carryOut 5 111 M_X9_carryOut := sMet_of rfl (by decide +kernel) rfl rfl (fun h => by cases h) (m_ofV_run _ _ _) S_X9_carryOut (m_ofV_cat _ _ _ (Nat.le_of_ble_eq_true rfl))
theorem in_X9_why_X9 : ∀ w ∈ u_ws RX9 TX9 18, w ∈ wsX9_why := by decide +kernel
theorem lk_X9_why_165 : Cond.fieldLink RX9 165 RX9 "isStopped" "Z" ∈ wsX9_why := by decide +kernel
theorem lk_X9_why_28 : Cond.fieldLink RX9 28 RX9 "stop" "[I" ∈ wsX9_why := by decide +kernel
def B_X9_why : sStm :=
  (s_retI (e_if (c_not (c_cmp0 i_ne (e_callI M_X9_in (a_ci (e_i 1) (a_ci (e_k (nI 0)) (a_ci (e_k (nI 2)) a_nil)))))) (e_k (-1)) (e_if (c_cmp0 i_ne (e_get 7 10 (e_r 0))) (e_ald (e_getR 7 11 (e_r 0)) (e_i 1)) (e_k (-4)))))
def M_X9_why : sSem := m_ofV 7 2 B_X9_why
set_option maxRecDepth 100000 in
set_option maxHeartbeats 4000000 in
theorem S_X9_why : sSS (cX9_why, wsX9_why, RX9, (some .int), 1, 22, 2, vwCl, RX6, false) 0 0 B_X9_why :=
  (ss_retI (pcA := 31) (se_if (pcT := 9) (pcF := 13) (pcG := 10) (sc_not (sc_Tne0 (pcB := 6) (se_callSI (pcA := 3) (index := 51) (sa_ci (pcA := 1) (se_iload_n dX9_why_0 rfl rfl) (sa_ci (pcA := 2) (se_iconst dX9_why_1 (by decide +kernel) rfl) (sa_ci (pcA := 3) (se_iconst dX9_why_2 (by decide +kernel) rfl) sa_nil))) T_X9_in gX9_why_X9_in rfl (by decide +kernel) (Nat.le_of_ble_eq_true rfl) (Nat.le_of_ble_eq_true rfl) (s_LenI (s_LenI (s_LenI s_Len0))) (Nat.le_of_ble_eq_true rfl) dX9_why_3 rfl) dX9_why_6 rfl rfl)) (se_iconst dX9_why_9 (by decide +kernel) rfl) dX9_why_10 rfl (se_if (pcT := 20) (pcF := 29) (pcG := 26) (sc_Fne0 (pcB := 17) (se_get (pcA := 14) (T := TX9) (k := 10) (index := 165) (se_aload_n dX9_why_13 rfl rfl) rfl in_X9_why_X9 (Nat.le_of_ble_eq_true rfl) lk_X9_why_165 rfl dX9_why_14 rfl) dX9_why_17 rfl rfl) (se_ald (pcA := 24) (pcB := 25) (se_getR (pcA := 21) (T := TX9) (k := 11) (index := 28) (se_aload_n dX9_why_20 rfl rfl) rfl in_X9_why_X9 (Nat.le_of_ble_eq_true rfl) lk_X9_why_28 rfl dX9_why_21 rfl) (se_iload_n dX9_why_24 rfl rfl) dX9_why_25 rfl) dX9_why_26 rfl (se_bipush dX9_why_29 (by decide +kernel) rfl))) dX9_why_31 rfl)
theorem T_X9_why : sMet vwCl RX6 yX9_why wsX9_why 1 22 M_X9_why := sMet_of rfl (by decide +kernel) rfl rfl (fun h => by cases h) (m_ofV_run _ _ _) S_X9_why (m_ofV_cat _ _ _ (Nat.le_of_ble_eq_true rfl))
theorem in_X9_ways_X9 : ∀ w ∈ u_ws RX9 TX9 18, w ∈ wsX9_ways := by decide +kernel
theorem lk_X9_ways_7 : Cond.fieldLink RX9 7 RX9 "s" "[I" ∈ wsX9_ways := by decide +kernel
abbrev C_X9_ways_1 : sCd := (c_and (c_cmp i_lt (e_i 3) (e_ald (e_getR 7 0 (e_r 0)) (e_k (nI 2)))) (c_cmp i_le (e_i 3) (e_add (e_i 1) (e_ald (e_getR 7 0 (e_r 0)) (e_k (nI 1))))))
abbrev W_X9_ways_1 : sStm :=
  (s_seq (s_setI 2 (e_add (e_i 2) (e_if (c_cmp0 i_ne (e_callI M_X9_areKin (a_cr (e_r 0) (a_ci (e_i 1) (a_ci (e_i 3) a_nil))))) (e_k (nI 1)) (e_k (nI 0)))))
    (s_inc 3 (nI 1)))
def B_X9_ways : sStm :=
  (s_seq (s_decI 2 (e_k (nI 0)))
    (s_seq (s_blk 3 (s_seq (s_decI 3 (e_add (e_i 1) (e_k (nI 1))))
    (s_while C_X9_ways_1 W_X9_ways_1)))
    (s_retI (e_i 2))))
def M_X9_ways : sSem := m_ofV 7 2 B_X9_ways
set_option maxRecDepth 100000 in
set_option maxHeartbeats 4000000 in
theorem S_X9_ways : sSS (cX9_ways, wsX9_ways, RX9, (some .int), 2, 48, 4, vwCl, RX6, false) 0 0 B_X9_ways :=
  (ss_seq (pcA := 2) (ss_decI_n (pcA := 1) (se_iconst dX9_ways_0 (by decide +kernel) rfl) dX9_ways_1 rfl (Nat.le_of_ble_eq_true rfl) rfl)
    (ss_seq (pcA := 51) (ss_blk (ss_seq (pcA := 6) (ss_decI_n (pcA := 5) (se_add (pcA := 3) (pcB := 4) (se_iload_n dX9_ways_2 rfl rfl) (se_iconst dX9_ways_3 (by decide +kernel) rfl) dX9_ways_4 rfl) dX9_ways_5 rfl (Nat.le_of_ble_eq_true rfl) rfl)
    (ss_while (pcB := 28) (sc_and (pcA := 16) (sc_Flt (pcA := 7) (pcB := 13) (se_iload_n dX9_ways_6 rfl rfl) (se_ald (pcA := 11) (pcB := 12) (se_getR (pcA := 8) (T := TX9) (k := 0) (index := 7) (se_aload_n dX9_ways_7 rfl rfl) rfl in_X9_ways_X9 (Nat.le_of_ble_eq_true rfl) lk_X9_ways_7 rfl dX9_ways_8 rfl) (se_iconst dX9_ways_11 (by decide +kernel) rfl) dX9_ways_12 rfl) dX9_ways_13 rfl rfl) (sc_Fle (pcA := 17) (pcB := 25) (se_iload_n dX9_ways_16 rfl rfl) (se_add (pcA := 18) (pcB := 24) (se_iload_n dX9_ways_17 rfl rfl) (se_ald (pcA := 22) (pcB := 23) (se_getR (pcA := 19) (T := TX9) (k := 0) (index := 7) (se_aload_n dX9_ways_18 rfl rfl) rfl in_X9_ways_X9 (Nat.le_of_ble_eq_true rfl) lk_X9_ways_7 rfl dX9_ways_19 rfl) (se_iconst dX9_ways_22 (by decide +kernel) rfl) dX9_ways_23 rfl) dX9_ways_24 rfl) dX9_ways_25 rfl rfl))
    (ss_seq (pcA := 45) (ss_setI_n (pcA := 44) (se_add (pcA := 29) (pcB := 43) (se_iload_n dX9_ways_28 rfl rfl) (se_if (pcT := 38) (pcF := 42) (pcG := 39) (sc_Fne0 (pcB := 35) (se_callVI (pcA := 32) (ci := 7) (index := 66) (sa_cr (pcA := 30) (se_aload_n dX9_ways_29 rfl rfl) (sa_ci (pcA := 31) (se_iload_n dX9_ways_30 rfl rfl) (sa_ci (pcA := 32) (se_iload_n dX9_ways_31 rfl rfl) sa_nil))) T_X9_areKin (s_Rcv_of 7 _ _) rfl gX9_ways_X9_areKin rfl (by decide +kernel) (Nat.le_of_ble_eq_true rfl) (Nat.le_of_ble_eq_true rfl) (s_LenR (s_LenI (s_LenI s_Len0))) (Nat.le_of_ble_eq_true rfl) dX9_ways_32 rfl) dX9_ways_35 rfl rfl) (se_iconst dX9_ways_38 (by decide +kernel) rfl) dX9_ways_39 rfl (se_iconst dX9_ways_42 (by decide +kernel) rfl)) dX9_ways_43 rfl) dX9_ways_44 rfl (Nat.le_of_ble_eq_true rfl) rfl)
    (ss_goto (pcG := 48) (ss_inc dX9_ways_45 (Nat.le_of_ble_eq_true rfl) (by decide +kernel) rfl) dX9_ways_48 rfl)))))
    (ss_retI (pcA := 52) (se_iload_n dX9_ways_51 rfl rfl) dX9_ways_52 rfl)))
theorem T_X9_ways : sMet vwCl RX6 yX9_ways wsX9_ways 2 48 M_X9_ways := sMet_of rfl (by decide +kernel) rfl rfl (fun h => by cases h) (m_ofV_run _ _ _) S_X9_ways (m_ofV_cat _ _ _ (Nat.le_of_ble_eq_true rfl))
theorem in_X9_step_X9 : ∀ w ∈ u_ws RX9 TX9 18, w ∈ wsX9_step := by decide +kernel
theorem lk_X9_step_31 : Cond.fieldLink RX9 31 RX9 "family" "[I" ∈ wsX9_step := by decide +kernel
def B_X9_step : sStm :=
  (s_seq (s_if (c_or (c_not (c_cmp0 i_ne (e_callI M_X9_isStep (a_cr (e_r 0) (a_ci (e_i 1) a_nil))))) (c_not (c_cmp0 i_ne (e_callI M_X9_in (a_ci (e_i 2) (a_ci (e_k (nI 0)) (a_ci (e_k (nI 7)) a_nil)))))))
    (s_retI (e_k (-1))) s_skip)
    (s_seq (s_callV M_X9_joins (a_cr (e_r 0) a_nil))
    (s_seq (s_decI 3 (e_callI M_X9_of (a_cr (e_r 0) (a_ci (e_i 1) a_nil))))
    (s_sw (e_i 2) (fun x =>
    if x = nI 0 then (s_retI (e_i 3))
    else if x = nI 1 then (s_retI (e_callI M_X9_kinOf (a_cr (e_r 0) (a_ci (e_i 1) a_nil))))
    else if x = nI 2 then (s_retI (e_ald (e_getR 7 12 (e_r 0)) (e_i 1)))
    else if x = nI 3 then (s_retI (e_callI M_X9_sizeOf (a_cr (e_r 0) (a_ci (e_ald (e_getR 7 12 (e_r 0)) (e_i 1)) a_nil))))
    else if x = nI 4 then (s_retI (e_callI M_X9_factors (a_ci (e_i 3) (a_ci (e_k (nI 1)) a_nil))))
    else if x = nI 5 then (s_retI (e_callI M_X9_factors (a_ci (e_i 3) (a_ci (e_k (nI 0)) a_nil))))
    else if x = nI 6 then (s_retI (e_callI M_X9_factorOf (a_ci (e_i 3) (a_ci (e_sub (e_callI M_X9_factors (a_ci (e_i 3) (a_ci (e_k (nI 1)) a_nil))) (e_k (nI 1))) a_nil))))
    else (s_retI (e_callI M_X9_ways (a_cr (e_r 0) (a_ci (e_i 1) a_nil)))))))))
def M_X9_step : sSem := m_ofV 7 3 B_X9_step
set_option maxRecDepth 100000 in
set_option maxHeartbeats 4000000 in
theorem S_X9_step : sSS (cX9_step, wsX9_step, RX9, (some .int), 3, 71, 4, vwCl, RX6, false) 0 0 B_X9_step :=
  (ss_seq (pcA := 20) (ss_if (pcT := 18) (pcF := 20) (sc_or (pcA := 8) (sc_not (sc_Fne0 (pcB := 5) (se_callVI (pcA := 2) (ci := 7) (index := 86) (sa_cr (pcA := 1) (se_aload_n dX9_step_0 rfl rfl) (sa_ci (pcA := 2) (se_iload_n dX9_step_1 rfl rfl) sa_nil)) T_X9_isStep (s_Rcv_of 7 _ _) rfl gX9_step_X9_isStep rfl (by decide +kernel) (Nat.le_of_ble_eq_true rfl) (Nat.le_of_ble_eq_true rfl) (s_LenR (s_LenI s_Len0)) (Nat.le_of_ble_eq_true rfl) dX9_step_2 rfl) dX9_step_5 rfl rfl)) (sc_not (sc_Tne0 (pcB := 15) (se_callSI (pcA := 12) (index := 51) (sa_ci (pcA := 9) (se_iload_n dX9_step_8 rfl rfl) (sa_ci (pcA := 10) (se_iconst dX9_step_9 (by decide +kernel) rfl) (sa_ci (pcA := 12) (se_bipush dX9_step_10 (by decide +kernel) rfl) sa_nil))) T_X9_in gX9_step_X9_in rfl (by decide +kernel) (Nat.le_of_ble_eq_true rfl) (Nat.le_of_ble_eq_true rfl) (s_LenI (s_LenI (s_LenI s_Len0))) (Nat.le_of_ble_eq_true rfl) dX9_step_12 rfl) dX9_step_15 rfl rfl)))
    (ss_retI (pcA := 19) (se_iconst dX9_step_18 (by decide +kernel) rfl) dX9_step_19 rfl) ss_skip)
    (ss_seq (pcA := 24) (ss_callVV (pcA := 21) (ci := 7) (index := 73) (sa_cr (pcA := 21) (se_aload_n dX9_step_20 rfl rfl) sa_nil) T_X9_joins (s_Rcv_of 7 _ _) rfl gX9_step_X9_joins rfl (by decide +kernel) (Nat.le_of_ble_eq_true rfl) (Nat.le_of_ble_eq_true rfl) (s_LenR s_Len0) dX9_step_21 rfl)
    (ss_seq (pcA := 30) (ss_decI_n (pcA := 29) (se_callVI (pcA := 26) (ci := 7) (index := 59) (sa_cr (pcA := 25) (se_aload_n dX9_step_24 rfl rfl) (sa_ci (pcA := 26) (se_iload_n dX9_step_25 rfl rfl) sa_nil)) T_X9_of (s_Rcv_of 7 _ _) rfl gX9_step_X9_of rfl (by decide +kernel) (Nat.le_of_ble_eq_true rfl) (Nat.le_of_ble_eq_true rfl) (s_LenR (s_LenI s_Len0)) (Nat.le_of_ble_eq_true rfl) dX9_step_26 rfl) dX9_step_29 rfl (Nat.le_of_ble_eq_true rfl) rfl)
    (ss_sw (pcA := 31) (se_iload_n dX9_step_30 rfl rfl) (by
    intro x
    by_cases h0 : x = nI 0
    · subst h0
      exact ⟨72, s_Goes_tab (off := 41) dX9_step_31 (by decide) (by decide) (by decide) rfl, (ss_retI (pcA := 73) (se_iload_n dX9_step_72 rfl rfl) dX9_step_73 rfl)⟩
    by_cases h1 : x = nI 1
    · subst h1
      exact ⟨74, s_Goes_tab (off := 43) dX9_step_31 (by decide) (by decide) (by decide) rfl, (ss_retI (pcA := 79) (se_callVI (pcA := 76) (ci := 7) (index := 70) (sa_cr (pcA := 75) (se_aload_n dX9_step_74 rfl rfl) (sa_ci (pcA := 76) (se_iload_n dX9_step_75 rfl rfl) sa_nil)) T_X9_kinOf (s_Rcv_of 7 _ _) rfl gX9_step_X9_kinOf rfl (by decide +kernel) (Nat.le_of_ble_eq_true rfl) (Nat.le_of_ble_eq_true rfl) (s_LenR (s_LenI s_Len0)) (Nat.le_of_ble_eq_true rfl) dX9_step_76 rfl) dX9_step_79 rfl)⟩
    by_cases h2 : x = nI 2
    · subst h2
      exact ⟨80, s_Goes_tab (off := 49) dX9_step_31 (by decide) (by decide) (by decide) rfl, (ss_retI (pcA := 86) (se_ald (pcA := 84) (pcB := 85) (se_getR (pcA := 81) (T := TX9) (k := 12) (index := 31) (se_aload_n dX9_step_80 rfl rfl) rfl in_X9_step_X9 (Nat.le_of_ble_eq_true rfl) lk_X9_step_31 rfl dX9_step_81 rfl) (se_iload_n dX9_step_84 rfl rfl) dX9_step_85 rfl) dX9_step_86 rfl)⟩
    by_cases h3 : x = nI 3
    · subst h3
      exact ⟨87, s_Goes_tab (off := 56) dX9_step_31 (by decide) (by decide) (by decide) rfl, (ss_retI (pcA := 97) (se_callVI (pcA := 94) (ci := 7) (index := 76) (sa_cr (pcA := 88) (se_aload_n dX9_step_87 rfl rfl) (sa_ci (pcA := 94) (se_ald (pcA := 92) (pcB := 93) (se_getR (pcA := 89) (T := TX9) (k := 12) (index := 31) (se_aload_n dX9_step_88 rfl rfl) rfl in_X9_step_X9 (Nat.le_of_ble_eq_true rfl) lk_X9_step_31 rfl dX9_step_89 rfl) (se_iload_n dX9_step_92 rfl rfl) dX9_step_93 rfl) sa_nil)) T_X9_sizeOf (s_Rcv_of 7 _ _) rfl gX9_step_X9_sizeOf rfl (by decide +kernel) (Nat.le_of_ble_eq_true rfl) (Nat.le_of_ble_eq_true rfl) (s_LenR (s_LenI s_Len0)) (Nat.le_of_ble_eq_true rfl) dX9_step_94 rfl) dX9_step_97 rfl)⟩
    by_cases h4 : x = nI 4
    · subst h4
      exact ⟨98, s_Goes_tab (off := 67) dX9_step_31 (by decide) (by decide) (by decide) rfl, (ss_retI (pcA := 103) (se_callSI (pcA := 100) (index := 171) (sa_ci (pcA := 99) (se_iload_n dX9_step_98 rfl rfl) (sa_ci (pcA := 100) (se_iconst dX9_step_99 (by decide +kernel) rfl) sa_nil)) T_X9_factors gX9_step_X9_factors rfl (by decide +kernel) (Nat.le_of_ble_eq_true rfl) (Nat.le_of_ble_eq_true rfl) (s_LenI (s_LenI s_Len0)) (Nat.le_of_ble_eq_true rfl) dX9_step_100 rfl) dX9_step_103 rfl)⟩
    by_cases h5 : x = nI 5
    · subst h5
      exact ⟨104, s_Goes_tab (off := 73) dX9_step_31 (by decide) (by decide) (by decide) rfl, (ss_retI (pcA := 109) (se_callSI (pcA := 106) (index := 171) (sa_ci (pcA := 105) (se_iload_n dX9_step_104 rfl rfl) (sa_ci (pcA := 106) (se_iconst dX9_step_105 (by decide +kernel) rfl) sa_nil)) T_X9_factors gX9_step_X9_factors rfl (by decide +kernel) (Nat.le_of_ble_eq_true rfl) (Nat.le_of_ble_eq_true rfl) (s_LenI (s_LenI s_Len0)) (Nat.le_of_ble_eq_true rfl) dX9_step_106 rfl) dX9_step_109 rfl)⟩
    by_cases h6 : x = nI 6
    · subst h6
      exact ⟨110, s_Goes_tab (off := 79) dX9_step_31 (by decide) (by decide) (by decide) rfl, (ss_retI (pcA := 121) (se_callSI (pcA := 118) (index := 175) (sa_ci (pcA := 111) (se_iload_n dX9_step_110 rfl rfl) (sa_ci (pcA := 118) (se_sub (pcA := 116) (pcB := 117) (se_callSI (pcA := 113) (index := 171) (sa_ci (pcA := 112) (se_iload_n dX9_step_111 rfl rfl) (sa_ci (pcA := 113) (se_iconst dX9_step_112 (by decide +kernel) rfl) sa_nil)) T_X9_factors gX9_step_X9_factors rfl (by decide +kernel) (Nat.le_of_ble_eq_true rfl) (Nat.le_of_ble_eq_true rfl) (s_LenI (s_LenI s_Len0)) (Nat.le_of_ble_eq_true rfl) dX9_step_113 rfl) (se_iconst dX9_step_116 (by decide +kernel) rfl) dX9_step_117 rfl) sa_nil)) T_X9_factorOf gX9_step_X9_factorOf rfl (by decide +kernel) (Nat.le_of_ble_eq_true rfl) (Nat.le_of_ble_eq_true rfl) (s_LenI (s_LenI s_Len0)) (Nat.le_of_ble_eq_true rfl) dX9_step_118 rfl) dX9_step_121 rfl)⟩
    exact ⟨122, s_Goes_tabD dX9_step_31 (i_out7 h0 h1 h2 h3 h4 h5 h6) rfl, by rw [if_neg h0, if_neg h1, if_neg h2, if_neg h3, if_neg h4, if_neg h5, if_neg h6]; exact (ss_retI (pcA := 127) (se_callVI (pcA := 124) (ci := 7) (index := 178) (sa_cr (pcA := 123) (se_aload_n dX9_step_122 rfl rfl) (sa_ci (pcA := 124) (se_iload_n dX9_step_123 rfl rfl) sa_nil)) T_X9_ways (s_Rcv_of 7 _ _) rfl gX9_step_X9_ways rfl (by decide +kernel) (Nat.le_of_ble_eq_true rfl) (Nat.le_of_ble_eq_true rfl) (s_LenR (s_LenI s_Len0)) (Nat.le_of_ble_eq_true rfl) dX9_step_124 rfl) dX9_step_127 rfl)⟩)))))
theorem T_X9_step : sMet vwCl RX6 yX9_step wsX9_step 3 71 M_X9_step := sMet_of rfl (by decide +kernel) rfl rfl (fun h => by cases h) (m_ofV_run _ _ _) S_X9_step (m_ofV_cat _ _ _ (Nat.le_of_ble_eq_true rfl))
def B_X9_factor : sStm :=
  (s_retI (e_if (c_and (c_cmp0 i_ne (e_callI M_X9_isStep (a_cr (e_r 0) (a_ci (e_i 1) a_nil)))) (c_cmp0 i_ge (e_i 2))) (e_callI M_X9_factorOf (a_ci (e_callI M_X9_of (a_cr (e_r 0) (a_ci (e_i 1) a_nil))) (a_ci (e_i 2) a_nil))) (e_k (-1))))
def M_X9_factor : sSem := m_ofV 7 3 B_X9_factor
set_option maxRecDepth 100000 in
set_option maxHeartbeats 4000000 in
theorem S_X9_factor : sSS (cX9_factor, wsX9_factor, RX9, (some .int), 2, 45, 3, vwCl, RX6, false) 0 0 B_X9_factor :=
  (ss_retI (pcA := 25) (se_if (pcT := 12) (pcF := 24) (pcG := 21) (sc_and (pcA := 8) (sc_Fne0 (pcB := 5) (se_callVI (pcA := 2) (ci := 7) (index := 86) (sa_cr (pcA := 1) (se_aload_n dX9_factor_0 rfl rfl) (sa_ci (pcA := 2) (se_iload_n dX9_factor_1 rfl rfl) sa_nil)) T_X9_isStep (s_Rcv_of 7 _ _) rfl gX9_factor_X9_isStep rfl (by decide +kernel) (Nat.le_of_ble_eq_true rfl) (Nat.le_of_ble_eq_true rfl) (s_LenR (s_LenI s_Len0)) (Nat.le_of_ble_eq_true rfl) dX9_factor_2 rfl) dX9_factor_5 rfl rfl) (sc_Fge0 (pcB := 9) (se_iload_n dX9_factor_8 rfl rfl) dX9_factor_9 rfl rfl)) (se_callSI (pcA := 18) (index := 175) (sa_ci (pcA := 17) (se_callVI (pcA := 14) (ci := 7) (index := 59) (sa_cr (pcA := 13) (se_aload_n dX9_factor_12 rfl rfl) (sa_ci (pcA := 14) (se_iload_n dX9_factor_13 rfl rfl) sa_nil)) T_X9_of (s_Rcv_of 7 _ _) rfl gX9_factor_X9_of rfl (by decide +kernel) (Nat.le_of_ble_eq_true rfl) (Nat.le_of_ble_eq_true rfl) (s_LenR (s_LenI s_Len0)) (Nat.le_of_ble_eq_true rfl) dX9_factor_14 rfl) (sa_ci (pcA := 18) (se_iload_n dX9_factor_17 rfl rfl) sa_nil)) T_X9_factorOf gX9_factor_X9_factorOf rfl (by decide +kernel) (Nat.le_of_ble_eq_true rfl) (Nat.le_of_ble_eq_true rfl) (s_LenI (s_LenI s_Len0)) (Nat.le_of_ble_eq_true rfl) dX9_factor_18 rfl) dX9_factor_21 rfl (se_iconst dX9_factor_24 (by decide +kernel) rfl)) dX9_factor_25 rfl)
theorem T_X9_factor : sMet vwCl RX6 yX9_factor wsX9_factor 2 45 M_X9_factor := sMet_of rfl (by decide +kernel) rfl rfl (fun h => by cases h) (m_ofV_run _ _ _) S_X9_factor (m_ofV_cat _ _ _ (Nat.le_of_ble_eq_true rfl))
abbrev C_X9_commonFactors_1 : sCd := (c_cmp i_gt (e_i 2) (e_k (nI 1)))
abbrev W_X9_commonFactors_1 : sStm :=
  (s_blk 5 (s_seq (s_decI 5 (e_callI M_X9_leastFactor (a_ci (e_i 2) a_nil)))
    (s_seq (s_setI 4 (e_mul (e_i 4) (e_if (c_cmp0 i_eq (e_rem (e_i 3) (e_i 5))) (e_i 5) (e_k (nI 1)))))
    (s_seq (s_setI 3 (e_if (c_cmp0 i_eq (e_rem (e_i 3) (e_i 5))) (e_div (e_i 3) (e_i 5)) (e_i 3)))
    (s_setI 2 (e_div (e_i 2) (e_i 5)))))))
def B_X9_commonFactors : sStm :=
  (s_seq (s_decI 2 (e_i 0))
    (s_seq (s_decI 3 (e_i 1))
    (s_seq (s_decI 4 (e_k (nI 1)))
    (s_seq (s_while C_X9_commonFactors_1 W_X9_commonFactors_1)
    (s_retI (e_i 4))))))
def M_X9_commonFactors : sSem := m_of 2 B_X9_commonFactors
set_option maxRecDepth 100000 in
set_option maxHeartbeats 4000000 in
theorem S_X9_commonFactors : sSS (cX9_commonFactors, wsX9_commonFactors, RX9, (some .int), 1, 21, 6, vwCl, RX6, false) 0 0 B_X9_commonFactors :=
  (ss_seq (pcA := 2) (ss_decI_n (pcA := 1) (se_iload_n dX9_commonFactors_0 rfl rfl) dX9_commonFactors_1 rfl (Nat.le_of_ble_eq_true rfl) rfl)
    (ss_seq (pcA := 4) (ss_decI_n (pcA := 3) (se_iload_n dX9_commonFactors_2 rfl rfl) dX9_commonFactors_3 rfl (Nat.le_of_ble_eq_true rfl) rfl)
    (ss_seq (pcA := 7) (ss_decI (pcA := 5) (se_iconst dX9_commonFactors_4 (by decide +kernel) rfl) dX9_commonFactors_5 (Nat.le_of_ble_eq_true rfl) rfl)
    (ss_seq (pcA := 60) (ss_while (pcB := 12) (sc_Fgt (pcA := 8) (pcB := 9) (se_iload_n dX9_commonFactors_7 rfl rfl) (se_iconst dX9_commonFactors_8 (by decide +kernel) rfl) dX9_commonFactors_9 rfl rfl)
    (ss_blk (ss_seq (pcA := 18) (ss_decI (pcA := 16) (se_callSI (pcA := 13) (index := 55) (sa_ci (pcA := 13) (se_iload_n dX9_commonFactors_12 rfl rfl) sa_nil) T_X9_leastFactor gX9_commonFactors_X9_leastFactor rfl (by decide +kernel) (Nat.le_of_ble_eq_true rfl) (Nat.le_of_ble_eq_true rfl) (s_LenI s_Len0) (Nat.le_of_ble_eq_true rfl) dX9_commonFactors_13 rfl) dX9_commonFactors_16 (Nat.le_of_ble_eq_true rfl) rfl)
    (ss_seq (pcA := 36) (ss_setI (pcA := 34) (se_mul (pcA := 20) (pcB := 33) (se_iload dX9_commonFactors_18 rfl) (se_if (pcT := 27) (pcF := 32) (pcG := 29) (sc_Feq0 (pcB := 24) (se_rem (pcA := 21) (pcB := 23) (se_iload_n dX9_commonFactors_20 rfl rfl) (se_iload dX9_commonFactors_21 rfl) dX9_commonFactors_23 rfl) dX9_commonFactors_24 rfl rfl) (se_iload dX9_commonFactors_27 rfl) dX9_commonFactors_29 rfl (se_iconst dX9_commonFactors_32 (by decide +kernel) rfl)) dX9_commonFactors_33 rfl) dX9_commonFactors_34 (Nat.le_of_ble_eq_true rfl) rfl)
    (ss_seq (pcA := 52) (ss_setI_n (pcA := 51) (se_if (pcT := 43) (pcF := 50) (pcG := 47) (sc_Feq0 (pcB := 40) (se_rem (pcA := 37) (pcB := 39) (se_iload_n dX9_commonFactors_36 rfl rfl) (se_iload dX9_commonFactors_37 rfl) dX9_commonFactors_39 rfl) dX9_commonFactors_40 rfl rfl) (se_div (pcA := 44) (pcB := 46) (se_iload_n dX9_commonFactors_43 rfl rfl) (se_iload dX9_commonFactors_44 rfl) dX9_commonFactors_46 rfl) dX9_commonFactors_47 rfl (se_iload_n dX9_commonFactors_50 rfl rfl)) dX9_commonFactors_51 rfl (Nat.le_of_ble_eq_true rfl) rfl)
    (ss_goto (pcG := 57) (ss_setI_n (pcA := 56) (se_div (pcA := 53) (pcB := 55) (se_iload_n dX9_commonFactors_52 rfl rfl) (se_iload dX9_commonFactors_53 rfl) dX9_commonFactors_55 rfl) dX9_commonFactors_56 rfl (Nat.le_of_ble_eq_true rfl) rfl) dX9_commonFactors_57 rfl))))))
    (ss_retI (pcA := 62) (se_iload dX9_commonFactors_60 rfl) dX9_commonFactors_62 rfl)))))
theorem T_X9_commonFactors : sMet vwCl RX6 yX9_commonFactors wsX9_commonFactors 1 21 M_X9_commonFactors := sMet_of rfl (by decide +kernel) rfl rfl (fun h => by cases h) (m_of_run _ _) S_X9_commonFactors (m_of_cat _ _ (Nat.le_of_ble_eq_true rfl))
def B_X9_common : sStm :=
  (s_seq (s_if (c_or (c_or (c_not (c_cmp0 i_ne (e_callI M_X9_isStep (a_cr (e_r 0) (a_ci (e_i 1) a_nil))))) (c_not (c_cmp0 i_ne (e_callI M_X9_isStep (a_cr (e_r 0) (a_ci (e_i 2) a_nil)))))) (c_not (c_cmp0 i_ne (e_callI M_X9_in (a_ci (e_i 3) (a_ci (e_k (nI 0)) (a_ci (e_k (nI 1)) a_nil)))))))
    (s_retI (e_k (-1))) s_skip)
    (s_retI (e_if (c_cmp0 i_eq (e_i 3)) (e_callI M_X9_divisor (a_ci (e_callI M_X9_of (a_cr (e_r 0) (a_ci (e_i 1) a_nil))) (a_ci (e_callI M_X9_of (a_cr (e_r 0) (a_ci (e_i 2) a_nil))) a_nil))) (e_callI M_X9_commonFactors (a_ci (e_callI M_X9_of (a_cr (e_r 0) (a_ci (e_i 1) a_nil))) (a_ci (e_callI M_X9_of (a_cr (e_r 0) (a_ci (e_i 2) a_nil))) a_nil))))))
def M_X9_common : sSem := m_ofV 7 4 B_X9_common
set_option maxRecDepth 100000 in
set_option maxHeartbeats 4000000 in
theorem S_X9_common : sSS (cX9_common, wsX9_common, RX9, (some .int), 2, 46, 4, vwCl, RX6, false) 0 0 B_X9_common :=
  (ss_seq (pcA := 27) (ss_if (pcT := 25) (pcF := 27) (sc_or (pcA := 16) (sc_or (pcA := 8) (sc_not (sc_Fne0 (pcB := 5) (se_callVI (pcA := 2) (ci := 7) (index := 86) (sa_cr (pcA := 1) (se_aload_n dX9_common_0 rfl rfl) (sa_ci (pcA := 2) (se_iload_n dX9_common_1 rfl rfl) sa_nil)) T_X9_isStep (s_Rcv_of 7 _ _) rfl gX9_common_X9_isStep rfl (by decide +kernel) (Nat.le_of_ble_eq_true rfl) (Nat.le_of_ble_eq_true rfl) (s_LenR (s_LenI s_Len0)) (Nat.le_of_ble_eq_true rfl) dX9_common_2 rfl) dX9_common_5 rfl rfl)) (sc_not (sc_Fne0 (pcB := 13) (se_callVI (pcA := 10) (ci := 7) (index := 86) (sa_cr (pcA := 9) (se_aload_n dX9_common_8 rfl rfl) (sa_ci (pcA := 10) (se_iload_n dX9_common_9 rfl rfl) sa_nil)) T_X9_isStep (s_Rcv_of 7 _ _) rfl gX9_common_X9_isStep rfl (by decide +kernel) (Nat.le_of_ble_eq_true rfl) (Nat.le_of_ble_eq_true rfl) (s_LenR (s_LenI s_Len0)) (Nat.le_of_ble_eq_true rfl) dX9_common_10 rfl) dX9_common_13 rfl rfl))) (sc_not (sc_Tne0 (pcB := 22) (se_callSI (pcA := 19) (index := 51) (sa_ci (pcA := 17) (se_iload_n dX9_common_16 rfl rfl) (sa_ci (pcA := 18) (se_iconst dX9_common_17 (by decide +kernel) rfl) (sa_ci (pcA := 19) (se_iconst dX9_common_18 (by decide +kernel) rfl) sa_nil))) T_X9_in gX9_common_X9_in rfl (by decide +kernel) (Nat.le_of_ble_eq_true rfl) (Nat.le_of_ble_eq_true rfl) (s_LenI (s_LenI (s_LenI s_Len0))) (Nat.le_of_ble_eq_true rfl) dX9_common_19 rfl) dX9_common_22 rfl rfl)))
    (ss_retI (pcA := 26) (se_iconst dX9_common_25 (by decide +kernel) rfl) dX9_common_26 rfl) ss_skip)
    (ss_retI (pcA := 60) (se_if (pcT := 31) (pcF := 47) (pcG := 44) (sc_Feq0 (pcB := 28) (se_iload_n dX9_common_27 rfl rfl) dX9_common_28 rfl rfl) (se_callSI (pcA := 41) (index := 62) (sa_ci (pcA := 36) (se_callVI (pcA := 33) (ci := 7) (index := 59) (sa_cr (pcA := 32) (se_aload_n dX9_common_31 rfl rfl) (sa_ci (pcA := 33) (se_iload_n dX9_common_32 rfl rfl) sa_nil)) T_X9_of (s_Rcv_of 7 _ _) rfl gX9_common_X9_of rfl (by decide +kernel) (Nat.le_of_ble_eq_true rfl) (Nat.le_of_ble_eq_true rfl) (s_LenR (s_LenI s_Len0)) (Nat.le_of_ble_eq_true rfl) dX9_common_33 rfl) (sa_ci (pcA := 41) (se_callVI (pcA := 38) (ci := 7) (index := 59) (sa_cr (pcA := 37) (se_aload_n dX9_common_36 rfl rfl) (sa_ci (pcA := 38) (se_iload_n dX9_common_37 rfl rfl) sa_nil)) T_X9_of (s_Rcv_of 7 _ _) rfl gX9_common_X9_of rfl (by decide +kernel) (Nat.le_of_ble_eq_true rfl) (Nat.le_of_ble_eq_true rfl) (s_LenR (s_LenI s_Len0)) (Nat.le_of_ble_eq_true rfl) dX9_common_38 rfl) sa_nil)) T_X9_divisor gX9_common_X9_divisor rfl (by decide +kernel) (Nat.le_of_ble_eq_true rfl) (Nat.le_of_ble_eq_true rfl) (s_LenI (s_LenI s_Len0)) (Nat.le_of_ble_eq_true rfl) dX9_common_41 rfl) dX9_common_44 rfl (se_callSI (pcA := 57) (index := 181) (sa_ci (pcA := 52) (se_callVI (pcA := 49) (ci := 7) (index := 59) (sa_cr (pcA := 48) (se_aload_n dX9_common_47 rfl rfl) (sa_ci (pcA := 49) (se_iload_n dX9_common_48 rfl rfl) sa_nil)) T_X9_of (s_Rcv_of 7 _ _) rfl gX9_common_X9_of rfl (by decide +kernel) (Nat.le_of_ble_eq_true rfl) (Nat.le_of_ble_eq_true rfl) (s_LenR (s_LenI s_Len0)) (Nat.le_of_ble_eq_true rfl) dX9_common_49 rfl) (sa_ci (pcA := 57) (se_callVI (pcA := 54) (ci := 7) (index := 59) (sa_cr (pcA := 53) (se_aload_n dX9_common_52 rfl rfl) (sa_ci (pcA := 54) (se_iload_n dX9_common_53 rfl rfl) sa_nil)) T_X9_of (s_Rcv_of 7 _ _) rfl gX9_common_X9_of rfl (by decide +kernel) (Nat.le_of_ble_eq_true rfl) (Nat.le_of_ble_eq_true rfl) (s_LenR (s_LenI s_Len0)) (Nat.le_of_ble_eq_true rfl) dX9_common_54 rfl) sa_nil)) T_X9_commonFactors gX9_common_X9_commonFactors rfl (by decide +kernel) (Nat.le_of_ble_eq_true rfl) (Nat.le_of_ble_eq_true rfl) (s_LenI (s_LenI s_Len0)) (Nat.le_of_ble_eq_true rfl) dX9_common_57 rfl)) dX9_common_60 rfl))
theorem T_X9_common : sMet vwCl RX6 yX9_common wsX9_common 2 46 M_X9_common := sMet_of rfl (by decide +kernel) rfl rfl (fun h => by cases h) (m_ofV_run _ _ _) S_X9_common (m_ofV_cat _ _ _ (Nat.le_of_ble_eq_true rfl))
theorem in_X9_canGo_X9 : ∀ w ∈ u_ws RX9 TX9 18, w ∈ wsX9_canGo := by decide +kernel
theorem lk_X9_canGo_7 : Cond.fieldLink RX9 7 RX9 "s" "[I" ∈ wsX9_canGo := by decide +kernel
def B_X9_canGo : sStm :=
  (s_retZ (e_if (c_and (c_and (c_cmp i_gt (e_i 2) (e_i 1)) (c_cmp i_le (e_sub (e_i 2) (e_i 1)) (e_ald (e_getR 7 0 (e_r 0)) (e_k (nI 1))))) (c_cmp0 i_ne (e_callI M_X9_areKin (a_cr (e_r 0) (a_ci (e_i 1) (a_ci (e_i 2) a_nil)))))) (e_k (nI 1)) (e_k (nI 0))))
def M_X9_canGo : sSem := m_ofV 7 3 B_X9_canGo
set_option maxRecDepth 100000 in
set_option maxHeartbeats 4000000 in
theorem S_X9_canGo : sSS (cX9_canGo, wsX9_canGo, RX9, (some .boolean), 2, 48, 3, vwCl, RX6, false) 0 0 B_X9_canGo :=
  (ss_retZ (pcA := 31) (se_if (pcT := 26) (pcF := 30) (pcG := 27) (sc_and (pcA := 17) (sc_and (pcA := 5) (sc_Fgt (pcA := 1) (pcB := 2) (se_iload_n dX9_canGo_0 rfl rfl) (se_iload_n dX9_canGo_1 rfl rfl) dX9_canGo_2 rfl rfl) (sc_Fle (pcA := 8) (pcB := 14) (se_sub (pcA := 6) (pcB := 7) (se_iload_n dX9_canGo_5 rfl rfl) (se_iload_n dX9_canGo_6 rfl rfl) dX9_canGo_7 rfl) (se_ald (pcA := 12) (pcB := 13) (se_getR (pcA := 9) (T := TX9) (k := 0) (index := 7) (se_aload_n dX9_canGo_8 rfl rfl) rfl in_X9_canGo_X9 (Nat.le_of_ble_eq_true rfl) lk_X9_canGo_7 rfl dX9_canGo_9 rfl) (se_iconst dX9_canGo_12 (by decide +kernel) rfl) dX9_canGo_13 rfl) dX9_canGo_14 rfl rfl)) (sc_Fne0 (pcB := 23) (se_callVI (pcA := 20) (ci := 7) (index := 66) (sa_cr (pcA := 18) (se_aload_n dX9_canGo_17 rfl rfl) (sa_ci (pcA := 19) (se_iload_n dX9_canGo_18 rfl rfl) (sa_ci (pcA := 20) (se_iload_n dX9_canGo_19 rfl rfl) sa_nil))) T_X9_areKin (s_Rcv_of 7 _ _) rfl gX9_canGo_X9_areKin rfl (by decide +kernel) (Nat.le_of_ble_eq_true rfl) (Nat.le_of_ble_eq_true rfl) (s_LenR (s_LenI (s_LenI s_Len0))) (Nat.le_of_ble_eq_true rfl) dX9_canGo_20 rfl) dX9_canGo_23 rfl rfl)) (se_iconst dX9_canGo_26 (by decide +kernel) rfl) dX9_canGo_27 rfl (se_iconst dX9_canGo_30 (by decide +kernel) rfl)) dX9_canGo_31 rfl)
theorem T_X9_canGo : sMet vwCl RX6 yX9_canGo wsX9_canGo 2 48 M_X9_canGo := sMet_of rfl (by decide +kernel) rfl rfl (fun h => by cases h) (m_ofV_run _ _ _) S_X9_canGo (m_ofV_cat _ _ _ (Nat.le_of_ble_eq_true rfl))
theorem in_X9_whyNot_X9 : ∀ w ∈ u_ws RX9 TX9 18, w ∈ wsX9_whyNot := by decide +kernel
theorem lk_X9_whyNot_7 : Cond.fieldLink RX9 7 RX9 "s" "[I" ∈ wsX9_whyNot := by decide +kernel
def B_X9_whyNot : sStm :=
  (s_seq (s_if (c_or (c_not (c_cmp0 i_ne (e_callI M_X9_isStep (a_cr (e_r 0) (a_ci (e_i 1) a_nil))))) (c_not (c_cmp0 i_ne (e_callI M_X9_isStep (a_cr (e_r 0) (a_ci (e_i 2) a_nil))))))
    (s_retI (e_k (-1))) s_skip)
    (s_retI (e_if (c_cmp i_le (e_i 2) (e_i 1)) (e_k (nI 1)) (e_if (c_cmp i_gt (e_sub (e_i 2) (e_i 1)) (e_ald (e_getR 7 0 (e_r 0)) (e_k (nI 1)))) (e_k (nI 2)) (e_if (c_cmp0 i_ne (e_callI M_X9_areKin (a_cr (e_r 0) (a_ci (e_i 1) (a_ci (e_i 2) a_nil))))) (e_k (nI 0)) (e_k (nI 3)))))))
def M_X9_whyNot : sSem := m_ofV 7 3 B_X9_whyNot
set_option maxRecDepth 100000 in
set_option maxHeartbeats 4000000 in
theorem S_X9_whyNot : sSS (cX9_whyNot, wsX9_whyNot, RX9, (some .int), 2, 48, 3, vwCl, RX6, false) 0 0 B_X9_whyNot :=
  (ss_seq (pcA := 18) (ss_if (pcT := 16) (pcF := 18) (sc_or (pcA := 8) (sc_not (sc_Fne0 (pcB := 5) (se_callVI (pcA := 2) (ci := 7) (index := 86) (sa_cr (pcA := 1) (se_aload_n dX9_whyNot_0 rfl rfl) (sa_ci (pcA := 2) (se_iload_n dX9_whyNot_1 rfl rfl) sa_nil)) T_X9_isStep (s_Rcv_of 7 _ _) rfl gX9_whyNot_X9_isStep rfl (by decide +kernel) (Nat.le_of_ble_eq_true rfl) (Nat.le_of_ble_eq_true rfl) (s_LenR (s_LenI s_Len0)) (Nat.le_of_ble_eq_true rfl) dX9_whyNot_2 rfl) dX9_whyNot_5 rfl rfl)) (sc_not (sc_Tne0 (pcB := 13) (se_callVI (pcA := 10) (ci := 7) (index := 86) (sa_cr (pcA := 9) (se_aload_n dX9_whyNot_8 rfl rfl) (sa_ci (pcA := 10) (se_iload_n dX9_whyNot_9 rfl rfl) sa_nil)) T_X9_isStep (s_Rcv_of 7 _ _) rfl gX9_whyNot_X9_isStep rfl (by decide +kernel) (Nat.le_of_ble_eq_true rfl) (Nat.le_of_ble_eq_true rfl) (s_LenR (s_LenI s_Len0)) (Nat.le_of_ble_eq_true rfl) dX9_whyNot_10 rfl) dX9_whyNot_13 rfl rfl)))
    (ss_retI (pcA := 17) (se_iconst dX9_whyNot_16 (by decide +kernel) rfl) dX9_whyNot_17 rfl) ss_skip)
    (ss_retI (pcA := 57) (se_if (pcT := 23) (pcF := 27) (pcG := 24) (sc_Fle (pcA := 19) (pcB := 20) (se_iload_n dX9_whyNot_18 rfl rfl) (se_iload_n dX9_whyNot_19 rfl rfl) dX9_whyNot_20 rfl rfl) (se_iconst dX9_whyNot_23 (by decide +kernel) rfl) dX9_whyNot_24 rfl (se_if (pcT := 39) (pcF := 43) (pcG := 40) (sc_Fgt (pcA := 30) (pcB := 36) (se_sub (pcA := 28) (pcB := 29) (se_iload_n dX9_whyNot_27 rfl rfl) (se_iload_n dX9_whyNot_28 rfl rfl) dX9_whyNot_29 rfl) (se_ald (pcA := 34) (pcB := 35) (se_getR (pcA := 31) (T := TX9) (k := 0) (index := 7) (se_aload_n dX9_whyNot_30 rfl rfl) rfl in_X9_whyNot_X9 (Nat.le_of_ble_eq_true rfl) lk_X9_whyNot_7 rfl dX9_whyNot_31 rfl) (se_iconst dX9_whyNot_34 (by decide +kernel) rfl) dX9_whyNot_35 rfl) dX9_whyNot_36 rfl rfl) (se_iconst dX9_whyNot_39 (by decide +kernel) rfl) dX9_whyNot_40 rfl (se_if (pcT := 52) (pcF := 56) (pcG := 53) (sc_Fne0 (pcB := 49) (se_callVI (pcA := 46) (ci := 7) (index := 66) (sa_cr (pcA := 44) (se_aload_n dX9_whyNot_43 rfl rfl) (sa_ci (pcA := 45) (se_iload_n dX9_whyNot_44 rfl rfl) (sa_ci (pcA := 46) (se_iload_n dX9_whyNot_45 rfl rfl) sa_nil))) T_X9_areKin (s_Rcv_of 7 _ _) rfl gX9_whyNot_X9_areKin rfl (by decide +kernel) (Nat.le_of_ble_eq_true rfl) (Nat.le_of_ble_eq_true rfl) (s_LenR (s_LenI (s_LenI s_Len0))) (Nat.le_of_ble_eq_true rfl) dX9_whyNot_46 rfl) dX9_whyNot_49 rfl rfl) (se_iconst dX9_whyNot_52 (by decide +kernel) rfl) dX9_whyNot_53 rfl (se_iconst dX9_whyNot_56 (by decide +kernel) rfl)))) dX9_whyNot_57 rfl))
theorem T_X9_whyNot : sMet vwCl RX6 yX9_whyNot wsX9_whyNot 2 48 M_X9_whyNot := sMet_of rfl (by decide +kernel) rfl rfl (fun h => by cases h) (m_ofV_run _ _ _) S_X9_whyNot (m_ofV_cat _ _ _ (Nat.le_of_ble_eq_true rfl))
def B_X9_areEnds : sStm :=
  (s_retZ (e_if (c_and (c_and (c_cmp0 i_ne (e_callI M_X9_isStep (a_cr (e_r 0) (a_ci (e_i 1) a_nil)))) (c_cmp0 i_ne (e_callI M_X9_isStep (a_cr (e_r 0) (a_ci (e_i 2) a_nil))))) (c_cmp i_le (e_i 1) (e_i 2))) (e_k (nI 1)) (e_k (nI 0))))
def M_X9_areEnds : sSem := m_ofV 7 3 B_X9_areEnds
set_option maxRecDepth 100000 in
set_option maxHeartbeats 4000000 in
theorem S_X9_areEnds : sSS (cX9_areEnds, wsX9_areEnds, RX9, (some .boolean), 2, 43, 3, vwCl, RX6, false) 0 0 B_X9_areEnds :=
  (ss_retZ (pcA := 26) (se_if (pcT := 21) (pcF := 25) (pcG := 22) (sc_and (pcA := 16) (sc_and (pcA := 8) (sc_Fne0 (pcB := 5) (se_callVI (pcA := 2) (ci := 7) (index := 86) (sa_cr (pcA := 1) (se_aload_n dX9_areEnds_0 rfl rfl) (sa_ci (pcA := 2) (se_iload_n dX9_areEnds_1 rfl rfl) sa_nil)) T_X9_isStep (s_Rcv_of 7 _ _) rfl gX9_areEnds_X9_isStep rfl (by decide +kernel) (Nat.le_of_ble_eq_true rfl) (Nat.le_of_ble_eq_true rfl) (s_LenR (s_LenI s_Len0)) (Nat.le_of_ble_eq_true rfl) dX9_areEnds_2 rfl) dX9_areEnds_5 rfl rfl) (sc_Fne0 (pcB := 13) (se_callVI (pcA := 10) (ci := 7) (index := 86) (sa_cr (pcA := 9) (se_aload_n dX9_areEnds_8 rfl rfl) (sa_ci (pcA := 10) (se_iload_n dX9_areEnds_9 rfl rfl) sa_nil)) T_X9_isStep (s_Rcv_of 7 _ _) rfl gX9_areEnds_X9_isStep rfl (by decide +kernel) (Nat.le_of_ble_eq_true rfl) (Nat.le_of_ble_eq_true rfl) (s_LenR (s_LenI s_Len0)) (Nat.le_of_ble_eq_true rfl) dX9_areEnds_10 rfl) dX9_areEnds_13 rfl rfl)) (sc_Fle (pcA := 17) (pcB := 18) (se_iload_n dX9_areEnds_16 rfl rfl) (se_iload_n dX9_areEnds_17 rfl rfl) dX9_areEnds_18 rfl rfl)) (se_iconst dX9_areEnds_21 (by decide +kernel) rfl) dX9_areEnds_22 rfl (se_iconst dX9_areEnds_25 (by decide +kernel) rfl)) dX9_areEnds_26 rfl)
theorem T_X9_areEnds : sMet vwCl RX6 yX9_areEnds wsX9_areEnds 2 43 M_X9_areEnds := sMet_of rfl (by decide +kernel) rfl rfl (fun h => by cases h) (m_ofV_run _ _ _) S_X9_areEnds (m_ofV_cat _ _ _ (Nat.le_of_ble_eq_true rfl))
theorem in_X9_added_X9 : ∀ w ∈ u_ws RX9 TX9 18, w ∈ wsX9_added := by decide +kernel
theorem lk_X9_added_37 : Cond.fieldLink RX9 37 RX9 "worth" "[I" ∈ wsX9_added := by decide +kernel
abbrev C_X9_added_1 : sCd := (c_cmp i_lt (e_i 4) (e_i 3))
abbrev W_X9_added_1 : sStm :=
  (s_seq (s_astop (e_getR 7 16 (e_r 0)) (e_i 3) (fun x z => x + z) (e_if (c_cmp0 i_ne (e_callI M_X9_canGo (a_cr (e_r 0) (a_ci (e_i 4) (a_ci (e_i 3) a_nil))))) (e_ald (e_getR 7 16 (e_r 0)) (e_i 4)) (e_k (nI 0))))
    (s_inc 4 (nI 1)))
abbrev C_X9_added_2 : sCd := (c_cmp i_le (e_i 3) (e_i 2))
abbrev W_X9_added_2 : sStm :=
  (s_seq (s_seq (s_ast (e_getR 7 16 (e_r 0)) (e_i 3) (e_if (c_cmp i_eq (e_i 3) (e_i 1)) (e_k (nI 1)) (e_k (nI 0))))
    (s_blk 4 (s_seq (s_decI 4 (e_i 1))
    (s_while C_X9_added_1 W_X9_added_1))))
    (s_inc 3 (nI 1)))
def B_X9_added : sStm :=
  (s_seq (s_blk 3 (s_seq (s_decI 3 (e_i 1))
    (s_while C_X9_added_2 W_X9_added_2)))
    (s_retI (e_ald (e_getR 7 16 (e_r 0)) (e_i 2))))
def M_X9_added : sSem := m_ofV 7 3 B_X9_added
set_option maxRecDepth 100000 in
set_option maxHeartbeats 4000000 in
theorem S_X9_added : sSS (cX9_added, wsX9_added, RX9, (some .int), 3, 70, 5, vwCl, RX6, false) 0 0 B_X9_added :=
  (ss_seq (pcA := 74) (ss_blk (ss_seq (pcA := 2) (ss_decI_n (pcA := 1) (se_iload_n dX9_added_0 rfl rfl) dX9_added_1 rfl (Nat.le_of_ble_eq_true rfl) rfl)
    (ss_while (pcB := 7) (sc_Fle (pcA := 3) (pcB := 4) (se_iload_n dX9_added_2 rfl rfl) (se_iload_n dX9_added_3 rfl rfl) dX9_added_4 rfl rfl)
    (ss_seq (pcA := 68) (ss_seq (pcA := 23) (ss_ast (pcA := 11) (pcI := 12) (pcB := 22) (se_getR (pcA := 8) (T := TX9) (k := 16) (index := 37) (se_aload_n dX9_added_7 rfl rfl) rfl in_X9_added_X9 (Nat.le_of_ble_eq_true rfl) lk_X9_added_37 rfl dX9_added_8 rfl) (se_iload_n dX9_added_11 rfl rfl) (se_if (pcT := 17) (pcF := 21) (pcG := 18) (sc_Feq (pcA := 13) (pcB := 14) (se_iload_n dX9_added_12 rfl rfl) (se_iload_n dX9_added_13 rfl rfl) dX9_added_14 rfl rfl) (se_iconst dX9_added_17 (by decide +kernel) rfl) dX9_added_18 rfl (se_iconst dX9_added_21 (by decide +kernel) rfl)) dX9_added_22 rfl)
    (ss_blk (ss_seq (pcA := 26) (ss_decI (pcA := 24) (se_iload_n dX9_added_23 rfl rfl) dX9_added_24 (Nat.le_of_ble_eq_true rfl) rfl)
    (ss_while (pcB := 32) (sc_Flt (pcA := 28) (pcB := 29) (se_iload dX9_added_26 rfl) (se_iload_n dX9_added_28 rfl rfl) dX9_added_29 rfl rfl)
    (ss_seq (pcA := 62) (ss_astop (pcA := 36) (pcI := 37) (pcD := 38) (pcL := 39) (pcB := 60) (pcO := 61) (se_getR (pcA := 33) (T := TX9) (k := 16) (index := 37) (se_aload_n dX9_added_32 rfl rfl) rfl in_X9_added_X9 (Nat.le_of_ble_eq_true rfl) lk_X9_added_37 rfl dX9_added_33 rfl) (se_iload_n dX9_added_36 rfl rfl) dX9_added_37 rfl dX9_added_38 rfl (se_if (pcT := 49) (pcF := 59) (pcG := 56) (sc_Fne0 (pcB := 46) (se_callVI (pcA := 43) (ci := 7) (index := 184) (sa_cr (pcA := 40) (se_aload_n dX9_added_39 rfl rfl) (sa_ci (pcA := 42) (se_iload dX9_added_40 rfl) (sa_ci (pcA := 43) (se_iload_n dX9_added_42 rfl rfl) sa_nil))) T_X9_canGo (s_Rcv_of 7 _ _) rfl gX9_added_X9_canGo rfl (by decide +kernel) (Nat.le_of_ble_eq_true rfl) (Nat.le_of_ble_eq_true rfl) (s_LenR (s_LenI (s_LenI s_Len0))) (Nat.le_of_ble_eq_true rfl) dX9_added_43 rfl) dX9_added_46 rfl rfl) (se_ald (pcA := 53) (pcB := 55) (se_getR (pcA := 50) (T := TX9) (k := 16) (index := 37) (se_aload_n dX9_added_49 rfl rfl) rfl in_X9_added_X9 (Nat.le_of_ble_eq_true rfl) lk_X9_added_37 rfl dX9_added_50 rfl) (se_iload dX9_added_53 rfl) dX9_added_55 rfl) dX9_added_56 rfl (se_iconst dX9_added_59 (by decide +kernel) rfl)) (Or.inl ⟨dX9_added_60, rfl⟩) rfl dX9_added_61 rfl)
    (ss_goto (pcG := 65) (ss_inc dX9_added_62 (Nat.le_of_ble_eq_true rfl) (by decide +kernel) rfl) dX9_added_65 rfl))))))
    (ss_goto (pcG := 71) (ss_inc dX9_added_68 (Nat.le_of_ble_eq_true rfl) (by decide +kernel) rfl) dX9_added_71 rfl)))))
    (ss_retI (pcA := 80) (se_ald (pcA := 78) (pcB := 79) (se_getR (pcA := 75) (T := TX9) (k := 16) (index := 37) (se_aload_n dX9_added_74 rfl rfl) rfl in_X9_added_X9 (Nat.le_of_ble_eq_true rfl) lk_X9_added_37 rfl dX9_added_75 rfl) (se_iload_n dX9_added_78 rfl rfl) dX9_added_79 rfl) dX9_added_80 rfl))
theorem T_X9_added : sMet vwCl RX6 yX9_added wsX9_added 3 70 M_X9_added := sMet_of rfl (by decide +kernel) rfl rfl (fun h => by cases h) (m_ofV_run _ _ _) S_X9_added (m_ofV_cat _ _ _ (Nat.le_of_ble_eq_true rfl))
theorem in_X9_gone_X9 : ∀ w ∈ u_ws RX9 TX9 18, w ∈ wsX9_gone := by decide +kernel
theorem lk_X9_gone_37 : Cond.fieldLink RX9 37 RX9 "worth" "[I" ∈ wsX9_gone := by decide +kernel
theorem lk_X9_gone_40 : Cond.fieldLink RX9 40 RX9 "follows" "[I" ∈ wsX9_gone := by decide +kernel
abbrev C_X9_gone_1 : sCd := (c_cmp0 i_gt (e_i 4))
abbrev W_X9_gone_1 : sStm :=
  (s_blk 5 (s_seq (s_decI 5 (e_ald (e_getR 7 16 (e_r 0)) (e_sub (e_i 4) (e_k (nI 1)))))
    (s_seq (s_decI 6 (e_ald (e_getR 7 17 (e_r 0)) (e_sub (e_i 4) (e_k (nI 1)))))
    (s_if (c_or (c_cmp i_eq (e_i 5) (e_i 2)) (c_cmp i_gt (e_i 6) (e_i 2)))
    (s_seq (s_setI 3 (e_add (e_i 3) (e_if (c_cmp i_eq (e_i 5) (e_i 2)) (e_k (nI 1)) (e_k (nI 0)))))
    (s_inc 4 (-1)))
    (s_seq (s_astop (e_getR 7 17 (e_r 0)) (e_sub (e_i 4) (e_k (nI 1))) (fun x z => x + z) (e_k (nI 1)))
    (s_if (c_cmp0 i_ne (e_callI M_X9_canGo (a_cr (e_r 0) (a_ci (e_i 5) (a_ci (e_i 6) a_nil)))))
    (s_seq (s_ast (e_getR 7 16 (e_r 0)) (e_i 4) (e_i 6))
    (s_seq (s_ast (e_getR 7 17 (e_r 0)) (e_i 4) (e_add (e_i 6) (e_k (nI 1))))
    (s_inc 4 (nI 1)))) s_skip))))))
def B_X9_gone : sStm :=
  (s_seq (s_decI 3 (e_k (nI 0)))
    (s_seq (s_decI 4 (e_k (nI 1)))
    (s_seq (s_ast (e_getR 7 16 (e_r 0)) (e_k (nI 0)) (e_i 1))
    (s_seq (s_ast (e_getR 7 17 (e_r 0)) (e_k (nI 0)) (e_add (e_i 1) (e_k (nI 1))))
    (s_seq (s_while C_X9_gone_1 W_X9_gone_1)
    (s_retI (e_i 3)))))))
def M_X9_gone : sSem := m_ofV 7 3 B_X9_gone
set_option maxRecDepth 100000 in
set_option maxHeartbeats 4000000 in
theorem S_X9_gone : sSS (cX9_gone, wsX9_gone, RX9, (some .int), 3, 70, 7, vwCl, RX6, false) 0 0 B_X9_gone :=
  (ss_seq (pcA := 2) (ss_decI_n (pcA := 1) (se_iconst dX9_gone_0 (by decide +kernel) rfl) dX9_gone_1 rfl (Nat.le_of_ble_eq_true rfl) rfl)
    (ss_seq (pcA := 5) (ss_decI (pcA := 3) (se_iconst dX9_gone_2 (by decide +kernel) rfl) dX9_gone_3 (Nat.le_of_ble_eq_true rfl) rfl)
    (ss_seq (pcA := 12) (ss_ast (pcA := 9) (pcI := 10) (pcB := 11) (se_getR (pcA := 6) (T := TX9) (k := 16) (index := 37) (se_aload_n dX9_gone_5 rfl rfl) rfl in_X9_gone_X9 (Nat.le_of_ble_eq_true rfl) lk_X9_gone_37 rfl dX9_gone_6 rfl) (se_iconst dX9_gone_9 (by decide +kernel) rfl) (se_iload_n dX9_gone_10 rfl rfl) dX9_gone_11 rfl)
    (ss_seq (pcA := 21) (ss_ast (pcA := 16) (pcI := 17) (pcB := 20) (se_getR (pcA := 13) (T := TX9) (k := 17) (index := 40) (se_aload_n dX9_gone_12 rfl rfl) rfl in_X9_gone_X9 (Nat.le_of_ble_eq_true rfl) lk_X9_gone_40 rfl dX9_gone_13 rfl) (se_iconst dX9_gone_16 (by decide +kernel) rfl) (se_add (pcA := 18) (pcB := 19) (se_iload_n dX9_gone_17 rfl rfl) (se_iconst dX9_gone_18 (by decide +kernel) rfl) dX9_gone_19 rfl) dX9_gone_20 rfl)
    (ss_seq (pcA := 130) (ss_while (pcB := 26) (sc_Fgt0 (pcB := 23) (se_iload dX9_gone_21 rfl) dX9_gone_23 rfl rfl)
    (ss_blk (ss_seq (pcA := 37) (ss_decI (pcA := 35) (se_ald (pcA := 30) (pcB := 34) (se_getR (pcA := 27) (T := TX9) (k := 16) (index := 37) (se_aload_n dX9_gone_26 rfl rfl) rfl in_X9_gone_X9 (Nat.le_of_ble_eq_true rfl) lk_X9_gone_37 rfl dX9_gone_27 rfl) (se_sub (pcA := 32) (pcB := 33) (se_iload dX9_gone_30 rfl) (se_iconst dX9_gone_32 (by decide +kernel) rfl) dX9_gone_33 rfl) dX9_gone_34 rfl) dX9_gone_35 (Nat.le_of_ble_eq_true rfl) rfl)
    (ss_seq (pcA := 48) (ss_decI (pcA := 46) (se_ald (pcA := 41) (pcB := 45) (se_getR (pcA := 38) (T := TX9) (k := 17) (index := 40) (se_aload_n dX9_gone_37 rfl rfl) rfl in_X9_gone_X9 (Nat.le_of_ble_eq_true rfl) lk_X9_gone_40 rfl dX9_gone_38 rfl) (se_sub (pcA := 43) (pcB := 44) (se_iload dX9_gone_41 rfl) (se_iconst dX9_gone_43 (by decide +kernel) rfl) dX9_gone_44 rfl) dX9_gone_45 rfl) dX9_gone_46 (Nat.le_of_ble_eq_true rfl) rfl)
    (ss_if (pcT := 60) (pcF := 80) (sc_or (pcA := 54) (sc_Teq (pcA := 50) (pcB := 51) (se_iload dX9_gone_48 rfl) (se_iload_n dX9_gone_50 rfl rfl) dX9_gone_51 rfl rfl) (sc_Fgt (pcA := 56) (pcB := 57) (se_iload dX9_gone_54 rfl) (se_iload_n dX9_gone_56 rfl rfl) dX9_gone_57 rfl rfl))
    (ss_goto (pcG := 127) (ss_seq (pcA := 74) (ss_setI_n (pcA := 73) (se_add (pcA := 61) (pcB := 72) (se_iload_n dX9_gone_60 rfl rfl) (se_if (pcT := 67) (pcF := 71) (pcG := 68) (sc_Feq (pcA := 63) (pcB := 64) (se_iload dX9_gone_61 rfl) (se_iload_n dX9_gone_63 rfl rfl) dX9_gone_64 rfl rfl) (se_iconst dX9_gone_67 (by decide +kernel) rfl) dX9_gone_68 rfl (se_iconst dX9_gone_71 (by decide +kernel) rfl)) dX9_gone_72 rfl) dX9_gone_73 rfl (Nat.le_of_ble_eq_true rfl) rfl)
    (ss_goto (pcG := 77) (ss_inc dX9_gone_74 (Nat.le_of_ble_eq_true rfl) (by decide +kernel) rfl) dX9_gone_77 rfl)) dX9_gone_127 rfl)
    (ss_seq (pcA := 93) (ss_astop (pcA := 84) (pcI := 88) (pcD := 89) (pcL := 90) (pcB := 91) (pcO := 92) (se_getR (pcA := 81) (T := TX9) (k := 17) (index := 40) (se_aload_n dX9_gone_80 rfl rfl) rfl in_X9_gone_X9 (Nat.le_of_ble_eq_true rfl) lk_X9_gone_40 rfl dX9_gone_81 rfl) (se_sub (pcA := 86) (pcB := 87) (se_iload dX9_gone_84 rfl) (se_iconst dX9_gone_86 (by decide +kernel) rfl) dX9_gone_87 rfl) dX9_gone_88 rfl dX9_gone_89 rfl (se_iconst dX9_gone_90 (by decide +kernel) rfl) (Or.inl ⟨dX9_gone_91, rfl⟩) rfl dX9_gone_92 rfl)
    (ss_if (pcT := 104) (pcF := 127) (sc_Fne0 (pcB := 101) (se_callVI (pcA := 98) (ci := 7) (index := 184) (sa_cr (pcA := 94) (se_aload_n dX9_gone_93 rfl rfl) (sa_ci (pcA := 96) (se_iload dX9_gone_94 rfl) (sa_ci (pcA := 98) (se_iload dX9_gone_96 rfl) sa_nil))) T_X9_canGo (s_Rcv_of 7 _ _) rfl gX9_gone_X9_canGo rfl (by decide +kernel) (Nat.le_of_ble_eq_true rfl) (Nat.le_of_ble_eq_true rfl) (s_LenR (s_LenI (s_LenI s_Len0))) (Nat.le_of_ble_eq_true rfl) dX9_gone_98 rfl) dX9_gone_101 rfl rfl)
    (ss_seq (pcA := 113) (ss_ast (pcA := 108) (pcI := 110) (pcB := 112) (se_getR (pcA := 105) (T := TX9) (k := 16) (index := 37) (se_aload_n dX9_gone_104 rfl rfl) rfl in_X9_gone_X9 (Nat.le_of_ble_eq_true rfl) lk_X9_gone_37 rfl dX9_gone_105 rfl) (se_iload dX9_gone_108 rfl) (se_iload dX9_gone_110 rfl) dX9_gone_112 rfl)
    (ss_seq (pcA := 124) (ss_ast (pcA := 117) (pcI := 119) (pcB := 123) (se_getR (pcA := 114) (T := TX9) (k := 17) (index := 40) (se_aload_n dX9_gone_113 rfl rfl) rfl in_X9_gone_X9 (Nat.le_of_ble_eq_true rfl) lk_X9_gone_40 rfl dX9_gone_114 rfl) (se_iload dX9_gone_117 rfl) (se_add (pcA := 121) (pcB := 122) (se_iload dX9_gone_119 rfl) (se_iconst dX9_gone_121 (by decide +kernel) rfl) dX9_gone_122 rfl) dX9_gone_123 rfl)
    (ss_goto (pcG := 127) (ss_inc dX9_gone_124 (Nat.le_of_ble_eq_true rfl) (by decide +kernel) rfl) dX9_gone_127 rfl))) (ss_goto (pcG := 127) ss_skip dX9_gone_127 rfl))))))))
    (ss_retI (pcA := 131) (se_iload_n dX9_gone_130 rfl rfl) dX9_gone_131 rfl))))))
theorem T_X9_gone : sMet vwCl RX6 yX9_gone wsX9_gone 3 70 M_X9_gone := sMet_of rfl (by decide +kernel) rfl rfl (fun h => by cases h) (m_ofV_run _ _ _) S_X9_gone (m_ofV_cat _ _ _ (Nat.le_of_ble_eq_true rfl))
def B_X9_climbs : sStm :=
  (s_seq (s_if (c_or (c_not (c_cmp0 i_ne (e_callI M_X9_areEnds (a_cr (e_r 0) (a_ci (e_i 1) (a_ci (e_i 2) a_nil)))))) (c_not (c_cmp0 i_ne (e_callI M_X9_in (a_ci (e_i 3) (a_ci (e_k (nI 0)) (a_ci (e_k (nI 1)) a_nil)))))))
    (s_retI (e_k (-1))) s_skip)
    (s_retI (e_if (c_cmp0 i_eq (e_i 3)) (e_callI M_X9_added (a_cr (e_r 0) (a_ci (e_i 1) (a_ci (e_i 2) a_nil)))) (e_callI M_X9_gone (a_cr (e_r 0) (a_ci (e_i 1) (a_ci (e_i 2) a_nil)))))))
def M_X9_climbs : sSem := m_ofV 7 4 B_X9_climbs
set_option maxRecDepth 100000 in
set_option maxHeartbeats 4000000 in
theorem S_X9_climbs : sSS (cX9_climbs, wsX9_climbs, RX9, (some .int), 4, 96, 4, vwCl, RX6, false) 0 0 B_X9_climbs :=
  (ss_seq (pcA := 20) (ss_if (pcT := 18) (pcF := 20) (sc_or (pcA := 9) (sc_not (sc_Fne0 (pcB := 6) (se_callVI (pcA := 3) (ci := 7) (index := 187) (sa_cr (pcA := 1) (se_aload_n dX9_climbs_0 rfl rfl) (sa_ci (pcA := 2) (se_iload_n dX9_climbs_1 rfl rfl) (sa_ci (pcA := 3) (se_iload_n dX9_climbs_2 rfl rfl) sa_nil))) T_X9_areEnds (s_Rcv_of 7 _ _) rfl gX9_climbs_X9_areEnds rfl (by decide +kernel) (Nat.le_of_ble_eq_true rfl) (Nat.le_of_ble_eq_true rfl) (s_LenR (s_LenI (s_LenI s_Len0))) (Nat.le_of_ble_eq_true rfl) dX9_climbs_3 rfl) dX9_climbs_6 rfl rfl)) (sc_not (sc_Tne0 (pcB := 15) (se_callSI (pcA := 12) (index := 51) (sa_ci (pcA := 10) (se_iload_n dX9_climbs_9 rfl rfl) (sa_ci (pcA := 11) (se_iconst dX9_climbs_10 (by decide +kernel) rfl) (sa_ci (pcA := 12) (se_iconst dX9_climbs_11 (by decide +kernel) rfl) sa_nil))) T_X9_in gX9_climbs_X9_in rfl (by decide +kernel) (Nat.le_of_ble_eq_true rfl) (Nat.le_of_ble_eq_true rfl) (s_LenI (s_LenI (s_LenI s_Len0))) (Nat.le_of_ble_eq_true rfl) dX9_climbs_12 rfl) dX9_climbs_15 rfl rfl)))
    (ss_retI (pcA := 19) (se_iconst dX9_climbs_18 (by decide +kernel) rfl) dX9_climbs_19 rfl) ss_skip)
    (ss_retI (pcA := 39) (se_if (pcT := 24) (pcF := 33) (pcG := 30) (sc_Feq0 (pcB := 21) (se_iload_n dX9_climbs_20 rfl rfl) dX9_climbs_21 rfl rfl) (se_callVI (pcA := 27) (ci := 7) (index := 190) (sa_cr (pcA := 25) (se_aload_n dX9_climbs_24 rfl rfl) (sa_ci (pcA := 26) (se_iload_n dX9_climbs_25 rfl rfl) (sa_ci (pcA := 27) (se_iload_n dX9_climbs_26 rfl rfl) sa_nil))) T_X9_added (s_Rcv_of 7 _ _) rfl gX9_climbs_X9_added rfl (by decide +kernel) (Nat.le_of_ble_eq_true rfl) (Nat.le_of_ble_eq_true rfl) (s_LenR (s_LenI (s_LenI s_Len0))) (Nat.le_of_ble_eq_true rfl) dX9_climbs_27 rfl) dX9_climbs_30 rfl (se_callVI (pcA := 36) (ci := 7) (index := 193) (sa_cr (pcA := 34) (se_aload_n dX9_climbs_33 rfl rfl) (sa_ci (pcA := 35) (se_iload_n dX9_climbs_34 rfl rfl) (sa_ci (pcA := 36) (se_iload_n dX9_climbs_35 rfl rfl) sa_nil))) T_X9_gone (s_Rcv_of 7 _ _) rfl gX9_climbs_X9_gone rfl (by decide +kernel) (Nat.le_of_ble_eq_true rfl) (Nat.le_of_ble_eq_true rfl) (s_LenR (s_LenI (s_LenI s_Len0))) (Nat.le_of_ble_eq_true rfl) dX9_climbs_36 rfl)) dX9_climbs_39 rfl))
theorem T_X9_climbs : sMet vwCl RX6 yX9_climbs wsX9_climbs 4 96 M_X9_climbs := sMet_of rfl (by decide +kernel) rfl rfl (fun h => by cases h) (m_ofV_run _ _ _) S_X9_climbs (m_ofV_cat _ _ _ (Nat.le_of_ble_eq_true rfl))
theorem in_X9_finds_X9 : ∀ w ∈ u_ws RX9 TX9 18, w ∈ wsX9_finds := by decide +kernel
theorem lk_X9_finds_40 : Cond.fieldLink RX9 40 RX9 "follows" "[I" ∈ wsX9_finds := by decide +kernel
theorem lk_X9_finds_37 : Cond.fieldLink RX9 37 RX9 "worth" "[I" ∈ wsX9_finds := by decide +kernel
abbrev C_X9_finds_1 : sCd := (c_cmp i_le (e_i 6) (e_i 2))
abbrev W_X9_finds_1 : sStm :=
  (s_seq (s_if (c_and (c_and (c_cmp0 i_ge (e_ald (e_getR 7 17 (e_r 0)) (e_i 6))) (c_cmp0 i_ne (e_callI M_X9_canGo (a_cr (e_r 0) (a_ci (e_i 4) (a_ci (e_i 6) a_nil)))))) (c_or (c_cmp0 i_lt (e_ald (e_getR 7 17 (e_r 0)) (e_i 4))) (c_cmp i_gt (e_add (e_i 5) (e_ald (e_getR 7 16 (e_r 0)) (e_i 6))) (e_ald (e_getR 7 16 (e_r 0)) (e_i 4)))))
    (s_seq (s_ast (e_getR 7 17 (e_r 0)) (e_i 4) (e_i 6))
    (s_ast (e_getR 7 16 (e_r 0)) (e_i 4) (e_add (e_i 5) (e_ald (e_getR 7 16 (e_r 0)) (e_i 6))))) s_skip)
    (s_inc 6 (nI 1)))
abbrev C_X9_finds_2 : sCd := (c_cmp i_ge (e_i 4) (e_i 1))
abbrev W_X9_finds_2 : sStm :=
  (s_seq (s_blk 5 (s_seq (s_decI 5 (e_if (c_cmp i_eq (e_i 3) (e_k (nI 2))) (e_callI M_X9_of (a_cr (e_r 0) (a_ci (e_i 4) a_nil))) (e_if (c_cmp i_eq (e_i 3) (e_k (nI 1))) (e_k (-1)) (e_k (nI 1)))))
    (s_seq (s_ast (e_getR 7 17 (e_r 0)) (e_i 4) (e_if (c_cmp i_eq (e_i 4) (e_i 2)) (e_i 2) (e_k (-4))))
    (s_seq (s_ast (e_getR 7 16 (e_r 0)) (e_i 4) (e_i 5))
    (s_blk 6 (s_seq (s_decI 6 (e_add (e_i 4) (e_k (nI 1))))
    (s_while C_X9_finds_1 W_X9_finds_1)))))))
    (s_inc 4 (-1)))
def B_X9_finds : sStm :=
  (s_seq (s_blk 4 (s_seq (s_decI 4 (e_i 2))
    (s_while C_X9_finds_2 W_X9_finds_2)))
    (s_retZ (e_if (c_cmp0 i_ge (e_ald (e_getR 7 17 (e_r 0)) (e_i 1))) (e_k (nI 1)) (e_k (nI 0)))))
def M_X9_finds : sSem := m_ofV 7 4 B_X9_finds
set_option maxRecDepth 100000 in
set_option maxHeartbeats 4000000 in
theorem S_X9_finds : sSS (cX9_finds, wsX9_finds, RX9, (some .boolean), 3, 70, 7, vwCl, RX6, false) 0 0 B_X9_finds :=
  (ss_seq (pcA := 164) (ss_blk (ss_seq (pcA := 3) (ss_decI (pcA := 1) (se_iload_n dX9_finds_0 rfl rfl) dX9_finds_1 (Nat.le_of_ble_eq_true rfl) rfl)
    (ss_while (pcB := 9) (sc_Fge (pcA := 5) (pcB := 6) (se_iload dX9_finds_3 rfl) (se_iload_n dX9_finds_5 rfl rfl) dX9_finds_6 rfl rfl)
    (ss_seq (pcA := 158) (ss_blk (ss_seq (pcA := 35) (ss_decI (pcA := 33) (se_if (pcT := 14) (pcF := 23) (pcG := 20) (sc_Feq (pcA := 10) (pcB := 11) (se_iload_n dX9_finds_9 rfl rfl) (se_iconst dX9_finds_10 (by decide +kernel) rfl) dX9_finds_11 rfl rfl) (se_callVI (pcA := 17) (ci := 7) (index := 59) (sa_cr (pcA := 15) (se_aload_n dX9_finds_14 rfl rfl) (sa_ci (pcA := 17) (se_iload dX9_finds_15 rfl) sa_nil)) T_X9_of (s_Rcv_of 7 _ _) rfl gX9_finds_X9_of rfl (by decide +kernel) (Nat.le_of_ble_eq_true rfl) (Nat.le_of_ble_eq_true rfl) (s_LenR (s_LenI s_Len0)) (Nat.le_of_ble_eq_true rfl) dX9_finds_17 rfl) dX9_finds_20 rfl (se_if (pcT := 28) (pcF := 32) (pcG := 29) (sc_Feq (pcA := 24) (pcB := 25) (se_iload_n dX9_finds_23 rfl rfl) (se_iconst dX9_finds_24 (by decide +kernel) rfl) dX9_finds_25 rfl rfl) (se_iconst dX9_finds_28 (by decide +kernel) rfl) dX9_finds_29 rfl (se_iconst dX9_finds_32 (by decide +kernel) rfl))) dX9_finds_33 (Nat.le_of_ble_eq_true rfl) rfl)
    (ss_seq (pcA := 54) (ss_ast (pcA := 39) (pcI := 41) (pcB := 53) (se_getR (pcA := 36) (T := TX9) (k := 17) (index := 40) (se_aload_n dX9_finds_35 rfl rfl) rfl in_X9_finds_X9 (Nat.le_of_ble_eq_true rfl) lk_X9_finds_40 rfl dX9_finds_36 rfl) (se_iload dX9_finds_39 rfl) (se_if (pcT := 47) (pcF := 51) (pcG := 48) (sc_Feq (pcA := 43) (pcB := 44) (se_iload dX9_finds_41 rfl) (se_iload_n dX9_finds_43 rfl rfl) dX9_finds_44 rfl rfl) (se_iload_n dX9_finds_47 rfl rfl) dX9_finds_48 rfl (se_bipush dX9_finds_51 (by decide +kernel) rfl)) dX9_finds_53 rfl)
    (ss_seq (pcA := 63) (ss_ast (pcA := 58) (pcI := 60) (pcB := 62) (se_getR (pcA := 55) (T := TX9) (k := 16) (index := 37) (se_aload_n dX9_finds_54 rfl rfl) rfl in_X9_finds_X9 (Nat.le_of_ble_eq_true rfl) lk_X9_finds_37 rfl dX9_finds_55 rfl) (se_iload dX9_finds_58 rfl) (se_iload dX9_finds_60 rfl) dX9_finds_62 rfl)
    (ss_blk (ss_seq (pcA := 69) (ss_decI (pcA := 67) (se_add (pcA := 65) (pcB := 66) (se_iload dX9_finds_63 rfl) (se_iconst dX9_finds_65 (by decide +kernel) rfl) dX9_finds_66 rfl) dX9_finds_67 (Nat.le_of_ble_eq_true rfl) rfl)
    (ss_while (pcB := 75) (sc_Fle (pcA := 71) (pcB := 72) (se_iload dX9_finds_69 rfl) (se_iload_n dX9_finds_71 rfl rfl) dX9_finds_72 rfl rfl)
    (ss_seq (pcA := 152) (ss_if (pcT := 126) (pcF := 152) (sc_and (pcA := 96) (sc_and (pcA := 85) (sc_Fge0 (pcB := 82) (se_ald (pcA := 79) (pcB := 81) (se_getR (pcA := 76) (T := TX9) (k := 17) (index := 40) (se_aload_n dX9_finds_75 rfl rfl) rfl in_X9_finds_X9 (Nat.le_of_ble_eq_true rfl) lk_X9_finds_40 rfl dX9_finds_76 rfl) (se_iload dX9_finds_79 rfl) dX9_finds_81 rfl) dX9_finds_82 rfl rfl) (sc_Fne0 (pcB := 93) (se_callVI (pcA := 90) (ci := 7) (index := 184) (sa_cr (pcA := 86) (se_aload_n dX9_finds_85 rfl rfl) (sa_ci (pcA := 88) (se_iload dX9_finds_86 rfl) (sa_ci (pcA := 90) (se_iload dX9_finds_88 rfl) sa_nil))) T_X9_canGo (s_Rcv_of 7 _ _) rfl gX9_finds_X9_canGo rfl (by decide +kernel) (Nat.le_of_ble_eq_true rfl) (Nat.le_of_ble_eq_true rfl) (s_LenR (s_LenI (s_LenI s_Len0))) (Nat.le_of_ble_eq_true rfl) dX9_finds_90 rfl) dX9_finds_93 rfl rfl)) (sc_or (pcA := 106) (sc_Tlt0 (pcB := 103) (se_ald (pcA := 100) (pcB := 102) (se_getR (pcA := 97) (T := TX9) (k := 17) (index := 40) (se_aload_n dX9_finds_96 rfl rfl) rfl in_X9_finds_X9 (Nat.le_of_ble_eq_true rfl) lk_X9_finds_40 rfl dX9_finds_97 rfl) (se_iload dX9_finds_100 rfl) dX9_finds_102 rfl) dX9_finds_103 rfl rfl) (sc_Fgt (pcA := 116) (pcB := 123) (se_add (pcA := 108) (pcB := 115) (se_iload dX9_finds_106 rfl) (se_ald (pcA := 112) (pcB := 114) (se_getR (pcA := 109) (T := TX9) (k := 16) (index := 37) (se_aload_n dX9_finds_108 rfl rfl) rfl in_X9_finds_X9 (Nat.le_of_ble_eq_true rfl) lk_X9_finds_37 rfl dX9_finds_109 rfl) (se_iload dX9_finds_112 rfl) dX9_finds_114 rfl) dX9_finds_115 rfl) (se_ald (pcA := 120) (pcB := 122) (se_getR (pcA := 117) (T := TX9) (k := 16) (index := 37) (se_aload_n dX9_finds_116 rfl rfl) rfl in_X9_finds_X9 (Nat.le_of_ble_eq_true rfl) lk_X9_finds_37 rfl dX9_finds_117 rfl) (se_iload dX9_finds_120 rfl) dX9_finds_122 rfl) dX9_finds_123 rfl rfl)))
    (ss_seq (pcA := 135) (ss_ast (pcA := 130) (pcI := 132) (pcB := 134) (se_getR (pcA := 127) (T := TX9) (k := 17) (index := 40) (se_aload_n dX9_finds_126 rfl rfl) rfl in_X9_finds_X9 (Nat.le_of_ble_eq_true rfl) lk_X9_finds_40 rfl dX9_finds_127 rfl) (se_iload dX9_finds_130 rfl) (se_iload dX9_finds_132 rfl) dX9_finds_134 rfl)
    (ss_ast (pcA := 139) (pcI := 141) (pcB := 151) (se_getR (pcA := 136) (T := TX9) (k := 16) (index := 37) (se_aload_n dX9_finds_135 rfl rfl) rfl in_X9_finds_X9 (Nat.le_of_ble_eq_true rfl) lk_X9_finds_37 rfl dX9_finds_136 rfl) (se_iload dX9_finds_139 rfl) (se_add (pcA := 143) (pcB := 150) (se_iload dX9_finds_141 rfl) (se_ald (pcA := 147) (pcB := 149) (se_getR (pcA := 144) (T := TX9) (k := 16) (index := 37) (se_aload_n dX9_finds_143 rfl rfl) rfl in_X9_finds_X9 (Nat.le_of_ble_eq_true rfl) lk_X9_finds_37 rfl dX9_finds_144 rfl) (se_iload dX9_finds_147 rfl) dX9_finds_149 rfl) dX9_finds_150 rfl) dX9_finds_151 rfl)) ss_skip)
    (ss_goto (pcG := 155) (ss_inc dX9_finds_152 (Nat.le_of_ble_eq_true rfl) (by decide +kernel) rfl) dX9_finds_155 rfl)))))))))
    (ss_goto (pcG := 161) (ss_inc dX9_finds_158 (Nat.le_of_ble_eq_true rfl) (by decide +kernel) rfl) dX9_finds_161 rfl)))))
    (ss_retZ (pcA := 178) (se_if (pcT := 173) (pcF := 177) (pcG := 174) (sc_Fge0 (pcB := 170) (se_ald (pcA := 168) (pcB := 169) (se_getR (pcA := 165) (T := TX9) (k := 17) (index := 40) (se_aload_n dX9_finds_164 rfl rfl) rfl in_X9_finds_X9 (Nat.le_of_ble_eq_true rfl) lk_X9_finds_40 rfl dX9_finds_165 rfl) (se_iload_n dX9_finds_168 rfl rfl) dX9_finds_169 rfl) dX9_finds_170 rfl rfl) (se_iconst dX9_finds_173 (by decide +kernel) rfl) dX9_finds_174 rfl (se_iconst dX9_finds_177 (by decide +kernel) rfl)) dX9_finds_178 rfl))
theorem T_X9_finds : sMet vwCl RX6 yX9_finds wsX9_finds 3 70 M_X9_finds := sMet_of rfl (by decide +kernel) rfl rfl (fun h => by cases h) (m_ofV_run _ _ _) S_X9_finds (m_ofV_cat _ _ _ (Nat.le_of_ble_eq_true rfl))
theorem in_X9_measure_X9 : ∀ w ∈ u_ws RX9 TX9 18, w ∈ wsX9_measure := by decide +kernel
theorem lk_X9_measure_40 : Cond.fieldLink RX9 40 RX9 "follows" "[I" ∈ wsX9_measure := by decide +kernel
abbrev C_X9_measure_1 : sCd := (c_cmp i_ne (e_i 7) (e_i 2))
abbrev W_X9_measure_1 : sStm :=
  (s_seq (s_setI 7 (e_ald (e_getR 7 17 (e_r 0)) (e_i 7)))
    (s_seq (s_inc 4 (nI 1))
    (s_seq (s_setI 5 (e_add (e_i 5) (e_callI M_X9_of (a_cr (e_r 0) (a_ci (e_i 7) a_nil)))))
    (s_setI 6 (e_callI M_X9_divisor (a_ci (e_i 6) (a_ci (e_callI M_X9_of (a_cr (e_r 0) (a_ci (e_i 7) a_nil))) a_nil)))))))
def B_X9_measure : sStm :=
  (s_seq (s_decI 4 (e_k (nI 1)))
    (s_seq (s_decI 5 (e_callI M_X9_of (a_cr (e_r 0) (a_ci (e_i 1) a_nil))))
    (s_seq (s_decI 6 (e_callI M_X9_of (a_cr (e_r 0) (a_ci (e_i 1) a_nil))))
    (s_seq (s_decI 7 (e_i 1))
    (s_seq (s_while C_X9_measure_1 W_X9_measure_1)
    (s_retI (e_if (c_cmp0 i_eq (e_i 3)) (e_i 4) (e_if (c_cmp i_eq (e_i 3) (e_k (nI 1))) (e_i 5) (e_i 6)))))))))
def M_X9_measure : sSem := m_ofV 7 4 B_X9_measure
set_option maxRecDepth 100000 in
set_option maxHeartbeats 4000000 in
theorem S_X9_measure : sSS (cX9_measure, wsX9_measure, RX9, (some .int), 1, 24, 8, vwCl, RX6, false) 0 0 B_X9_measure :=
  (ss_seq (pcA := 3) (ss_decI (pcA := 1) (se_iconst dX9_measure_0 (by decide +kernel) rfl) dX9_measure_1 (Nat.le_of_ble_eq_true rfl) rfl)
    (ss_seq (pcA := 10) (ss_decI (pcA := 8) (se_callVI (pcA := 5) (ci := 7) (index := 59) (sa_cr (pcA := 4) (se_aload_n dX9_measure_3 rfl rfl) (sa_ci (pcA := 5) (se_iload_n dX9_measure_4 rfl rfl) sa_nil)) T_X9_of (s_Rcv_of 7 _ _) rfl gX9_measure_X9_of rfl (by decide +kernel) (Nat.le_of_ble_eq_true rfl) (Nat.le_of_ble_eq_true rfl) (s_LenR (s_LenI s_Len0)) (Nat.le_of_ble_eq_true rfl) dX9_measure_5 rfl) dX9_measure_8 (Nat.le_of_ble_eq_true rfl) rfl)
    (ss_seq (pcA := 17) (ss_decI (pcA := 15) (se_callVI (pcA := 12) (ci := 7) (index := 59) (sa_cr (pcA := 11) (se_aload_n dX9_measure_10 rfl rfl) (sa_ci (pcA := 12) (se_iload_n dX9_measure_11 rfl rfl) sa_nil)) T_X9_of (s_Rcv_of 7 _ _) rfl gX9_measure_X9_of rfl (by decide +kernel) (Nat.le_of_ble_eq_true rfl) (Nat.le_of_ble_eq_true rfl) (s_LenR (s_LenI s_Len0)) (Nat.le_of_ble_eq_true rfl) dX9_measure_12 rfl) dX9_measure_15 (Nat.le_of_ble_eq_true rfl) rfl)
    (ss_seq (pcA := 20) (ss_decI (pcA := 18) (se_iload_n dX9_measure_17 rfl rfl) dX9_measure_18 (Nat.le_of_ble_eq_true rfl) rfl)
    (ss_seq (pcA := 65) (ss_while (pcB := 26) (sc_Fne (pcA := 22) (pcB := 23) (se_iload dX9_measure_20 rfl) (se_iload_n dX9_measure_22 rfl rfl) dX9_measure_23 rfl rfl)
    (ss_seq (pcA := 35) (ss_setI (pcA := 33) (se_ald (pcA := 30) (pcB := 32) (se_getR (pcA := 27) (T := TX9) (k := 17) (index := 40) (se_aload_n dX9_measure_26 rfl rfl) rfl in_X9_measure_X9 (Nat.le_of_ble_eq_true rfl) lk_X9_measure_40 rfl dX9_measure_27 rfl) (se_iload dX9_measure_30 rfl) dX9_measure_32 rfl) dX9_measure_33 (Nat.le_of_ble_eq_true rfl) rfl)
    (ss_seq (pcA := 38) (ss_inc dX9_measure_35 (Nat.le_of_ble_eq_true rfl) (by decide +kernel) rfl)
    (ss_seq (pcA := 49) (ss_setI (pcA := 47) (se_add (pcA := 40) (pcB := 46) (se_iload dX9_measure_38 rfl) (se_callVI (pcA := 43) (ci := 7) (index := 59) (sa_cr (pcA := 41) (se_aload_n dX9_measure_40 rfl rfl) (sa_ci (pcA := 43) (se_iload dX9_measure_41 rfl) sa_nil)) T_X9_of (s_Rcv_of 7 _ _) rfl gX9_measure_X9_of rfl (by decide +kernel) (Nat.le_of_ble_eq_true rfl) (Nat.le_of_ble_eq_true rfl) (s_LenR (s_LenI s_Len0)) (Nat.le_of_ble_eq_true rfl) dX9_measure_43 rfl) dX9_measure_46 rfl) dX9_measure_47 (Nat.le_of_ble_eq_true rfl) rfl)
    (ss_goto (pcG := 62) (ss_setI (pcA := 60) (se_callSI (pcA := 57) (index := 62) (sa_ci (pcA := 51) (se_iload dX9_measure_49 rfl) (sa_ci (pcA := 57) (se_callVI (pcA := 54) (ci := 7) (index := 59) (sa_cr (pcA := 52) (se_aload_n dX9_measure_51 rfl rfl) (sa_ci (pcA := 54) (se_iload dX9_measure_52 rfl) sa_nil)) T_X9_of (s_Rcv_of 7 _ _) rfl gX9_measure_X9_of rfl (by decide +kernel) (Nat.le_of_ble_eq_true rfl) (Nat.le_of_ble_eq_true rfl) (s_LenR (s_LenI s_Len0)) (Nat.le_of_ble_eq_true rfl) dX9_measure_54 rfl) sa_nil)) T_X9_divisor gX9_measure_X9_divisor rfl (by decide +kernel) (Nat.le_of_ble_eq_true rfl) (Nat.le_of_ble_eq_true rfl) (s_LenI (s_LenI s_Len0)) (Nat.le_of_ble_eq_true rfl) dX9_measure_57 rfl) dX9_measure_60 (Nat.le_of_ble_eq_true rfl) rfl) dX9_measure_62 rfl)))))
    (ss_retI (pcA := 86) (se_if (pcT := 69) (pcF := 74) (pcG := 71) (sc_Feq0 (pcB := 66) (se_iload_n dX9_measure_65 rfl rfl) dX9_measure_66 rfl rfl) (se_iload dX9_measure_69 rfl) dX9_measure_71 rfl (se_if (pcT := 79) (pcF := 84) (pcG := 81) (sc_Feq (pcA := 75) (pcB := 76) (se_iload_n dX9_measure_74 rfl rfl) (se_iconst dX9_measure_75 (by decide +kernel) rfl) dX9_measure_76 rfl rfl) (se_iload dX9_measure_79 rfl) dX9_measure_81 rfl (se_iload dX9_measure_84 rfl))) dX9_measure_86 rfl))))))
theorem T_X9_measure : sMet vwCl RX6 yX9_measure wsX9_measure 1 24 M_X9_measure := sMet_of rfl (by decide +kernel) rfl rfl (fun h => by cases h) (m_ofV_run _ _ _) S_X9_measure (m_ofV_cat _ _ _ (Nat.le_of_ble_eq_true rfl))
def B_X9_climb : sStm :=
  (s_seq (s_if (c_or (c_or (c_not (c_cmp0 i_ne (e_callI M_X9_areEnds (a_cr (e_r 0) (a_ci (e_i 1) (a_ci (e_i 2) a_nil)))))) (c_not (c_cmp0 i_ne (e_callI M_X9_in (a_ci (e_i 3) (a_ci (e_k (nI 0)) (a_ci (e_k (nI 2)) a_nil))))))) (c_not (c_cmp0 i_ne (e_callI M_X9_in (a_ci (e_i 4) (a_ci (e_k (nI 0)) (a_ci (e_k (nI 2)) a_nil)))))))
    (s_retI (e_k (-1))) s_skip)
    (s_retI (e_if (c_cmp0 i_ne (e_callI M_X9_finds (a_cr (e_r 0) (a_ci (e_i 1) (a_ci (e_i 2) (a_ci (e_i 3) a_nil)))))) (e_callI M_X9_measure (a_cr (e_r 0) (a_ci (e_i 1) (a_ci (e_i 2) (a_ci (e_i 4) a_nil))))) (e_k (-4)))))
def M_X9_climb : sSem := m_ofV 7 5 B_X9_climb
set_option maxRecDepth 100000 in
set_option maxHeartbeats 4000000 in
theorem S_X9_climb : sSS (cX9_climb, wsX9_climb, RX9, (some .int), 4, 96, 5, vwCl, RX6, false) 0 0 B_X9_climb :=
  (ss_seq (pcA := 30) (ss_if (pcT := 28) (pcF := 30) (sc_or (pcA := 18) (sc_or (pcA := 9) (sc_not (sc_Fne0 (pcB := 6) (se_callVI (pcA := 3) (ci := 7) (index := 187) (sa_cr (pcA := 1) (se_aload_n dX9_climb_0 rfl rfl) (sa_ci (pcA := 2) (se_iload_n dX9_climb_1 rfl rfl) (sa_ci (pcA := 3) (se_iload_n dX9_climb_2 rfl rfl) sa_nil))) T_X9_areEnds (s_Rcv_of 7 _ _) rfl gX9_climb_X9_areEnds rfl (by decide +kernel) (Nat.le_of_ble_eq_true rfl) (Nat.le_of_ble_eq_true rfl) (s_LenR (s_LenI (s_LenI s_Len0))) (Nat.le_of_ble_eq_true rfl) dX9_climb_3 rfl) dX9_climb_6 rfl rfl)) (sc_not (sc_Fne0 (pcB := 15) (se_callSI (pcA := 12) (index := 51) (sa_ci (pcA := 10) (se_iload_n dX9_climb_9 rfl rfl) (sa_ci (pcA := 11) (se_iconst dX9_climb_10 (by decide +kernel) rfl) (sa_ci (pcA := 12) (se_iconst dX9_climb_11 (by decide +kernel) rfl) sa_nil))) T_X9_in gX9_climb_X9_in rfl (by decide +kernel) (Nat.le_of_ble_eq_true rfl) (Nat.le_of_ble_eq_true rfl) (s_LenI (s_LenI (s_LenI s_Len0))) (Nat.le_of_ble_eq_true rfl) dX9_climb_12 rfl) dX9_climb_15 rfl rfl))) (sc_not (sc_Tne0 (pcB := 25) (se_callSI (pcA := 22) (index := 51) (sa_ci (pcA := 20) (se_iload dX9_climb_18 rfl) (sa_ci (pcA := 21) (se_iconst dX9_climb_20 (by decide +kernel) rfl) (sa_ci (pcA := 22) (se_iconst dX9_climb_21 (by decide +kernel) rfl) sa_nil))) T_X9_in gX9_climb_X9_in rfl (by decide +kernel) (Nat.le_of_ble_eq_true rfl) (Nat.le_of_ble_eq_true rfl) (s_LenI (s_LenI (s_LenI s_Len0))) (Nat.le_of_ble_eq_true rfl) dX9_climb_22 rfl) dX9_climb_25 rfl rfl)))
    (ss_retI (pcA := 29) (se_iconst dX9_climb_28 (by decide +kernel) rfl) dX9_climb_29 rfl) ss_skip)
    (ss_retI (pcA := 53) (se_if (pcT := 40) (pcF := 51) (pcG := 48) (sc_Fne0 (pcB := 37) (se_callVI (pcA := 34) (ci := 7) (index := 196) (sa_cr (pcA := 31) (se_aload_n dX9_climb_30 rfl rfl) (sa_ci (pcA := 32) (se_iload_n dX9_climb_31 rfl rfl) (sa_ci (pcA := 33) (se_iload_n dX9_climb_32 rfl rfl) (sa_ci (pcA := 34) (se_iload_n dX9_climb_33 rfl rfl) sa_nil)))) T_X9_finds (s_Rcv_of 7 _ _) rfl gX9_climb_X9_finds rfl (by decide +kernel) (Nat.le_of_ble_eq_true rfl) (Nat.le_of_ble_eq_true rfl) (s_LenR (s_LenI (s_LenI (s_LenI s_Len0)))) (Nat.le_of_ble_eq_true rfl) dX9_climb_34 rfl) dX9_climb_37 rfl rfl) (se_callVI (pcA := 45) (ci := 7) (index := 199) (sa_cr (pcA := 41) (se_aload_n dX9_climb_40 rfl rfl) (sa_ci (pcA := 42) (se_iload_n dX9_climb_41 rfl rfl) (sa_ci (pcA := 43) (se_iload_n dX9_climb_42 rfl rfl) (sa_ci (pcA := 45) (se_iload dX9_climb_43 rfl) sa_nil)))) T_X9_measure (s_Rcv_of 7 _ _) rfl gX9_climb_X9_measure rfl (by decide +kernel) (Nat.le_of_ble_eq_true rfl) (Nat.le_of_ble_eq_true rfl) (s_LenR (s_LenI (s_LenI (s_LenI s_Len0)))) (Nat.le_of_ble_eq_true rfl) dX9_climb_45 rfl) dX9_climb_48 rfl (se_bipush dX9_climb_51 (by decide +kernel) rfl)) dX9_climb_53 rfl))
theorem T_X9_climb : sMet vwCl RX6 yX9_climb wsX9_climb 4 96 M_X9_climb := sMet_of rfl (by decide +kernel) rfl rfl (fun h => by cases h) (m_ofV_run _ _ _) S_X9_climb (m_ofV_cat _ _ _ (Nat.le_of_ble_eq_true rfl))
theorem in_X9_climbAt_X9 : ∀ w ∈ u_ws RX9 TX9 18, w ∈ wsX9_climbAt := by decide +kernel
theorem lk_X9_climbAt_40 : Cond.fieldLink RX9 40 RX9 "follows" "[I" ∈ wsX9_climbAt := by decide +kernel
abbrev C_X9_climbAt_1 : sCd := (c_cmp i_lt (e_i 6) (e_i 4))
abbrev W_X9_climbAt_1 : sStm :=
  (s_seq (s_setI 5 (e_ald (e_getR 7 17 (e_r 0)) (e_i 5)))
    (s_inc 6 (nI 1)))
def B_X9_climbAt : sStm :=
  (s_seq (s_if (c_or (c_or (c_not (c_cmp0 i_ne (e_callI M_X9_areEnds (a_cr (e_r 0) (a_ci (e_i 1) (a_ci (e_i 2) a_nil)))))) (c_not (c_cmp0 i_ne (e_callI M_X9_in (a_ci (e_i 3) (a_ci (e_k (nI 0)) (a_ci (e_k (nI 2)) a_nil))))))) (c_cmp0 i_lt (e_i 4)))
    (s_retI (e_k (-1))) s_skip)
    (s_seq (s_if (c_or (c_not (c_cmp0 i_ne (e_callI M_X9_finds (a_cr (e_r 0) (a_ci (e_i 1) (a_ci (e_i 2) (a_ci (e_i 3) a_nil))))))) (c_cmp i_ge (e_i 4) (e_callI M_X9_measure (a_cr (e_r 0) (a_ci (e_i 1) (a_ci (e_i 2) (a_ci (e_k (nI 0)) a_nil)))))))
    (s_retI (e_k (-4))) s_skip)
    (s_seq (s_decI 5 (e_i 1))
    (s_seq (s_blk 6 (s_seq (s_decI 6 (e_k (nI 0)))
    (s_while C_X9_climbAt_1 W_X9_climbAt_1)))
    (s_retI (e_i 5))))))
def M_X9_climbAt : sSem := m_ofV 7 5 B_X9_climbAt
set_option maxRecDepth 100000 in
set_option maxHeartbeats 4000000 in
theorem S_X9_climbAt : sSS (cX9_climbAt, wsX9_climbAt, RX9, (some .int), 4, 96, 7, vwCl, RX6, false) 0 0 B_X9_climbAt :=
  (ss_seq (pcA := 25) (ss_if (pcT := 23) (pcF := 25) (sc_or (pcA := 18) (sc_or (pcA := 9) (sc_not (sc_Fne0 (pcB := 6) (se_callVI (pcA := 3) (ci := 7) (index := 187) (sa_cr (pcA := 1) (se_aload_n dX9_climbAt_0 rfl rfl) (sa_ci (pcA := 2) (se_iload_n dX9_climbAt_1 rfl rfl) (sa_ci (pcA := 3) (se_iload_n dX9_climbAt_2 rfl rfl) sa_nil))) T_X9_areEnds (s_Rcv_of 7 _ _) rfl gX9_climbAt_X9_areEnds rfl (by decide +kernel) (Nat.le_of_ble_eq_true rfl) (Nat.le_of_ble_eq_true rfl) (s_LenR (s_LenI (s_LenI s_Len0))) (Nat.le_of_ble_eq_true rfl) dX9_climbAt_3 rfl) dX9_climbAt_6 rfl rfl)) (sc_not (sc_Fne0 (pcB := 15) (se_callSI (pcA := 12) (index := 51) (sa_ci (pcA := 10) (se_iload_n dX9_climbAt_9 rfl rfl) (sa_ci (pcA := 11) (se_iconst dX9_climbAt_10 (by decide +kernel) rfl) (sa_ci (pcA := 12) (se_iconst dX9_climbAt_11 (by decide +kernel) rfl) sa_nil))) T_X9_in gX9_climbAt_X9_in rfl (by decide +kernel) (Nat.le_of_ble_eq_true rfl) (Nat.le_of_ble_eq_true rfl) (s_LenI (s_LenI (s_LenI s_Len0))) (Nat.le_of_ble_eq_true rfl) dX9_climbAt_12 rfl) dX9_climbAt_15 rfl rfl))) (sc_Flt0 (pcB := 20) (se_iload dX9_climbAt_18 rfl) dX9_climbAt_20 rfl rfl))
    (ss_retI (pcA := 24) (se_iconst dX9_climbAt_23 (by decide +kernel) rfl) dX9_climbAt_24 rfl) ss_skip)
    (ss_seq (pcA := 50) (ss_if (pcT := 47) (pcF := 50) (sc_or (pcA := 35) (sc_not (sc_Fne0 (pcB := 32) (se_callVI (pcA := 29) (ci := 7) (index := 196) (sa_cr (pcA := 26) (se_aload_n dX9_climbAt_25 rfl rfl) (sa_ci (pcA := 27) (se_iload_n dX9_climbAt_26 rfl rfl) (sa_ci (pcA := 28) (se_iload_n dX9_climbAt_27 rfl rfl) (sa_ci (pcA := 29) (se_iload_n dX9_climbAt_28 rfl rfl) sa_nil)))) T_X9_finds (s_Rcv_of 7 _ _) rfl gX9_climbAt_X9_finds rfl (by decide +kernel) (Nat.le_of_ble_eq_true rfl) (Nat.le_of_ble_eq_true rfl) (s_LenR (s_LenI (s_LenI (s_LenI s_Len0)))) (Nat.le_of_ble_eq_true rfl) dX9_climbAt_29 rfl) dX9_climbAt_32 rfl rfl)) (sc_Fge (pcA := 37) (pcB := 44) (se_iload dX9_climbAt_35 rfl) (se_callVI (pcA := 41) (ci := 7) (index := 199) (sa_cr (pcA := 38) (se_aload_n dX9_climbAt_37 rfl rfl) (sa_ci (pcA := 39) (se_iload_n dX9_climbAt_38 rfl rfl) (sa_ci (pcA := 40) (se_iload_n dX9_climbAt_39 rfl rfl) (sa_ci (pcA := 41) (se_iconst dX9_climbAt_40 (by decide +kernel) rfl) sa_nil)))) T_X9_measure (s_Rcv_of 7 _ _) rfl gX9_climbAt_X9_measure rfl (by decide +kernel) (Nat.le_of_ble_eq_true rfl) (Nat.le_of_ble_eq_true rfl) (s_LenR (s_LenI (s_LenI (s_LenI s_Len0)))) (Nat.le_of_ble_eq_true rfl) dX9_climbAt_41 rfl) dX9_climbAt_44 rfl rfl))
    (ss_retI (pcA := 49) (se_bipush dX9_climbAt_47 (by decide +kernel) rfl) dX9_climbAt_49 rfl) ss_skip)
    (ss_seq (pcA := 53) (ss_decI (pcA := 51) (se_iload_n dX9_climbAt_50 rfl rfl) dX9_climbAt_51 (Nat.le_of_ble_eq_true rfl) rfl)
    (ss_seq (pcA := 78) (ss_blk (ss_seq (pcA := 56) (ss_decI (pcA := 54) (se_iconst dX9_climbAt_53 (by decide +kernel) rfl) dX9_climbAt_54 (Nat.le_of_ble_eq_true rfl) rfl)
    (ss_while (pcB := 63) (sc_Flt (pcA := 58) (pcB := 60) (se_iload dX9_climbAt_56 rfl) (se_iload dX9_climbAt_58 rfl) dX9_climbAt_60 rfl rfl)
    (ss_seq (pcA := 72) (ss_setI (pcA := 70) (se_ald (pcA := 67) (pcB := 69) (se_getR (pcA := 64) (T := TX9) (k := 17) (index := 40) (se_aload_n dX9_climbAt_63 rfl rfl) rfl in_X9_climbAt_X9 (Nat.le_of_ble_eq_true rfl) lk_X9_climbAt_40 rfl dX9_climbAt_64 rfl) (se_iload dX9_climbAt_67 rfl) dX9_climbAt_69 rfl) dX9_climbAt_70 (Nat.le_of_ble_eq_true rfl) rfl)
    (ss_goto (pcG := 75) (ss_inc dX9_climbAt_72 (Nat.le_of_ble_eq_true rfl) (by decide +kernel) rfl) dX9_climbAt_75 rfl)))))
    (ss_retI (pcA := 80) (se_iload dX9_climbAt_78 rfl) dX9_climbAt_80 rfl)))))
theorem T_X9_climbAt : sMet vwCl RX6 yX9_climbAt wsX9_climbAt 4 96 M_X9_climbAt := sMet_of rfl (by decide +kernel) rfl rfl (fun h => by cases h) (m_ofV_run _ _ _) S_X9_climbAt (m_ofV_cat _ _ _ (Nat.le_of_ble_eq_true rfl))
theorem in_X9_crown_X9 : ∀ w ∈ u_ws RX9 TX9 18, w ∈ wsX9_crown := by decide +kernel
theorem lk_X9_crown_7 : Cond.fieldLink RX9 7 RX9 "s" "[I" ∈ wsX9_crown := by decide +kernel
abbrev C_X9_crown_1 : sCd := (c_cmp i_lt (e_i 2) (e_ald (e_getR 7 0 (e_r 0)) (e_k (nI 2))))
abbrev W_X9_crown_1 : sStm :=
  (s_seq (s_blk 3 (s_seq (s_decI 3 (e_if (c_or (c_or (c_cmp0 i_lt (e_i 1)) (c_cmp i_gt (e_callI M_X9_kinOf (a_cr (e_r 0) (a_ci (e_i 2) a_nil))) (e_callI M_X9_kinOf (a_cr (e_r 0) (a_ci (e_i 1) a_nil))))) (c_and (c_cmp i_eq (e_callI M_X9_kinOf (a_cr (e_r 0) (a_ci (e_i 2) a_nil))) (e_callI M_X9_kinOf (a_cr (e_r 0) (a_ci (e_i 1) a_nil)))) (c_cmp i_gt (e_callI M_X9_of (a_cr (e_r 0) (a_ci (e_i 2) a_nil))) (e_callI M_X9_of (a_cr (e_r 0) (a_ci (e_i 1) a_nil)))))) (e_k (nI 1)) (e_k (nI 0))))
    (s_setI 1 (e_if (c_cmp0 i_ne (e_i 3)) (e_i 2) (e_i 1)))))
    (s_inc 2 (nI 1)))
def B_X9_crown : sStm :=
  (s_seq (s_decI 1 (e_k (-4)))
    (s_seq (s_blk 2 (s_seq (s_decI 2 (e_k (nI 0)))
    (s_while C_X9_crown_1 W_X9_crown_1)))
    (s_retI (e_i 1))))
def M_X9_crown : sSem := m_ofV 7 1 B_X9_crown
set_option maxRecDepth 100000 in
set_option maxHeartbeats 4000000 in
theorem S_X9_crown : sSS (cX9_crown, wsX9_crown, RX9, (some .int), 3, 71, 4, vwCl, RX6, false) 0 0 B_X9_crown :=
  (ss_seq (pcA := 3) (ss_decI_n (pcA := 2) (se_bipush dX9_crown_0 (by decide +kernel) rfl) dX9_crown_2 rfl (Nat.le_of_ble_eq_true rfl) rfl)
    (ss_seq (pcA := 80) (ss_blk (ss_seq (pcA := 5) (ss_decI_n (pcA := 4) (se_iconst dX9_crown_3 (by decide +kernel) rfl) dX9_crown_4 rfl (Nat.le_of_ble_eq_true rfl) rfl)
    (ss_while (pcB := 15) (sc_Flt (pcA := 6) (pcB := 12) (se_iload_n dX9_crown_5 rfl rfl) (se_ald (pcA := 10) (pcB := 11) (se_getR (pcA := 7) (T := TX9) (k := 0) (index := 7) (se_aload_n dX9_crown_6 rfl rfl) rfl in_X9_crown_X9 (Nat.le_of_ble_eq_true rfl) lk_X9_crown_7 rfl dX9_crown_7 rfl) (se_iconst dX9_crown_10 (by decide +kernel) rfl) dX9_crown_11 rfl) dX9_crown_12 rfl rfl)
    (ss_seq (pcA := 74) (ss_blk (ss_seq (pcA := 64) (ss_decI_n (pcA := 63) (se_if (pcT := 58) (pcF := 62) (pcG := 59) (sc_or (pcA := 32) (sc_or (pcA := 19) (sc_Tlt0 (pcB := 16) (se_iload_n dX9_crown_15 rfl rfl) dX9_crown_16 rfl rfl) (sc_Tgt (pcA := 24) (pcB := 29) (se_callVI (pcA := 21) (ci := 7) (index := 70) (sa_cr (pcA := 20) (se_aload_n dX9_crown_19 rfl rfl) (sa_ci (pcA := 21) (se_iload_n dX9_crown_20 rfl rfl) sa_nil)) T_X9_kinOf (s_Rcv_of 7 _ _) rfl gX9_crown_X9_kinOf rfl (by decide +kernel) (Nat.le_of_ble_eq_true rfl) (Nat.le_of_ble_eq_true rfl) (s_LenR (s_LenI s_Len0)) (Nat.le_of_ble_eq_true rfl) dX9_crown_21 rfl) (se_callVI (pcA := 26) (ci := 7) (index := 70) (sa_cr (pcA := 25) (se_aload_n dX9_crown_24 rfl rfl) (sa_ci (pcA := 26) (se_iload_n dX9_crown_25 rfl rfl) sa_nil)) T_X9_kinOf (s_Rcv_of 7 _ _) rfl gX9_crown_X9_kinOf rfl (by decide +kernel) (Nat.le_of_ble_eq_true rfl) (Nat.le_of_ble_eq_true rfl) (s_LenR (s_LenI s_Len0)) (Nat.le_of_ble_eq_true rfl) dX9_crown_26 rfl) dX9_crown_29 rfl rfl)) (sc_and (pcA := 45) (sc_Feq (pcA := 37) (pcB := 42) (se_callVI (pcA := 34) (ci := 7) (index := 70) (sa_cr (pcA := 33) (se_aload_n dX9_crown_32 rfl rfl) (sa_ci (pcA := 34) (se_iload_n dX9_crown_33 rfl rfl) sa_nil)) T_X9_kinOf (s_Rcv_of 7 _ _) rfl gX9_crown_X9_kinOf rfl (by decide +kernel) (Nat.le_of_ble_eq_true rfl) (Nat.le_of_ble_eq_true rfl) (s_LenR (s_LenI s_Len0)) (Nat.le_of_ble_eq_true rfl) dX9_crown_34 rfl) (se_callVI (pcA := 39) (ci := 7) (index := 70) (sa_cr (pcA := 38) (se_aload_n dX9_crown_37 rfl rfl) (sa_ci (pcA := 39) (se_iload_n dX9_crown_38 rfl rfl) sa_nil)) T_X9_kinOf (s_Rcv_of 7 _ _) rfl gX9_crown_X9_kinOf rfl (by decide +kernel) (Nat.le_of_ble_eq_true rfl) (Nat.le_of_ble_eq_true rfl) (s_LenR (s_LenI s_Len0)) (Nat.le_of_ble_eq_true rfl) dX9_crown_39 rfl) dX9_crown_42 rfl rfl) (sc_Fgt (pcA := 50) (pcB := 55) (se_callVI (pcA := 47) (ci := 7) (index := 59) (sa_cr (pcA := 46) (se_aload_n dX9_crown_45 rfl rfl) (sa_ci (pcA := 47) (se_iload_n dX9_crown_46 rfl rfl) sa_nil)) T_X9_of (s_Rcv_of 7 _ _) rfl gX9_crown_X9_of rfl (by decide +kernel) (Nat.le_of_ble_eq_true rfl) (Nat.le_of_ble_eq_true rfl) (s_LenR (s_LenI s_Len0)) (Nat.le_of_ble_eq_true rfl) dX9_crown_47 rfl) (se_callVI (pcA := 52) (ci := 7) (index := 59) (sa_cr (pcA := 51) (se_aload_n dX9_crown_50 rfl rfl) (sa_ci (pcA := 52) (se_iload_n dX9_crown_51 rfl rfl) sa_nil)) T_X9_of (s_Rcv_of 7 _ _) rfl gX9_crown_X9_of rfl (by decide +kernel) (Nat.le_of_ble_eq_true rfl) (Nat.le_of_ble_eq_true rfl) (s_LenR (s_LenI s_Len0)) (Nat.le_of_ble_eq_true rfl) dX9_crown_52 rfl) dX9_crown_55 rfl rfl))) (se_iconst dX9_crown_58 (by decide +kernel) rfl) dX9_crown_59 rfl (se_iconst dX9_crown_62 (by decide +kernel) rfl)) dX9_crown_63 rfl (Nat.le_of_ble_eq_true rfl) rfl)
    (ss_setI_n (pcA := 73) (se_if (pcT := 68) (pcF := 72) (pcG := 69) (sc_Fne0 (pcB := 65) (se_iload_n dX9_crown_64 rfl rfl) dX9_crown_65 rfl rfl) (se_iload_n dX9_crown_68 rfl rfl) dX9_crown_69 rfl (se_iload_n dX9_crown_72 rfl rfl)) dX9_crown_73 rfl (Nat.le_of_ble_eq_true rfl) rfl)))
    (ss_goto (pcG := 77) (ss_inc dX9_crown_74 (Nat.le_of_ble_eq_true rfl) (by decide +kernel) rfl) dX9_crown_77 rfl)))))
    (ss_retI (pcA := 81) (se_iload_n dX9_crown_80 rfl rfl) dX9_crown_81 rfl)))
theorem T_X9_crown : sMet vwCl RX6 yX9_crown wsX9_crown 3 71 M_X9_crown := sMet_of rfl (by decide +kernel) rfl rfl (fun h => by cases h) (m_ofV_run _ _ _) S_X9_crown (m_ofV_cat _ _ _ (Nat.le_of_ble_eq_true rfl))
theorem in_X9_exponents_X9 : ∀ w ∈ u_ws RX9 TX9 18, w ∈ wsX9_exponents := by decide +kernel
theorem lk_X9_exponents_7 : Cond.fieldLink RX9 7 RX9 "s" "[I" ∈ wsX9_exponents := by decide +kernel
abbrev C_X9_exponents_1 : sCd := (c_cmp i_lt (e_i 3) (e_ald (e_getR 7 0 (e_r 0)) (e_k (nI 2))))
abbrev W_X9_exponents_1 : sStm :=
  (s_seq (s_setI 2 (e_add (e_i 2) (e_callI M_X9_exponent (a_ci (e_callI M_X9_of (a_cr (e_r 0) (a_ci (e_i 3) a_nil))) (a_ci (e_i 1) a_nil)))))
    (s_inc 3 (nI 1)))
def B_X9_exponents : sStm :=
  (s_seq (s_decI 2 (e_k (nI 0)))
    (s_seq (s_blk 3 (s_seq (s_decI 3 (e_k (nI 0)))
    (s_while C_X9_exponents_1 W_X9_exponents_1)))
    (s_retI (e_i 2))))
def M_X9_exponents : sSem := m_ofV 7 2 B_X9_exponents
set_option maxRecDepth 100000 in
set_option maxHeartbeats 4000000 in
theorem S_X9_exponents : sSS (cX9_exponents, wsX9_exponents, RX9, (some .int), 1, 23, 4, vwCl, RX6, false) 0 0 B_X9_exponents :=
  (ss_seq (pcA := 2) (ss_decI_n (pcA := 1) (se_iconst dX9_exponents_0 (by decide +kernel) rfl) dX9_exponents_1 rfl (Nat.le_of_ble_eq_true rfl) rfl)
    (ss_seq (pcA := 32) (ss_blk (ss_seq (pcA := 4) (ss_decI_n (pcA := 3) (se_iconst dX9_exponents_2 (by decide +kernel) rfl) dX9_exponents_3 rfl (Nat.le_of_ble_eq_true rfl) rfl)
    (ss_while (pcB := 14) (sc_Flt (pcA := 5) (pcB := 11) (se_iload_n dX9_exponents_4 rfl rfl) (se_ald (pcA := 9) (pcB := 10) (se_getR (pcA := 6) (T := TX9) (k := 0) (index := 7) (se_aload_n dX9_exponents_5 rfl rfl) rfl in_X9_exponents_X9 (Nat.le_of_ble_eq_true rfl) lk_X9_exponents_7 rfl dX9_exponents_6 rfl) (se_iconst dX9_exponents_9 (by decide +kernel) rfl) dX9_exponents_10 rfl) dX9_exponents_11 rfl rfl)
    (ss_seq (pcA := 26) (ss_setI_n (pcA := 25) (se_add (pcA := 15) (pcB := 24) (se_iload_n dX9_exponents_14 rfl rfl) (se_callSI (pcA := 21) (index := 203) (sa_ci (pcA := 20) (se_callVI (pcA := 17) (ci := 7) (index := 59) (sa_cr (pcA := 16) (se_aload_n dX9_exponents_15 rfl rfl) (sa_ci (pcA := 17) (se_iload_n dX9_exponents_16 rfl rfl) sa_nil)) T_X9_of (s_Rcv_of 7 _ _) rfl gX9_exponents_X9_of rfl (by decide +kernel) (Nat.le_of_ble_eq_true rfl) (Nat.le_of_ble_eq_true rfl) (s_LenR (s_LenI s_Len0)) (Nat.le_of_ble_eq_true rfl) dX9_exponents_17 rfl) (sa_ci (pcA := 21) (se_iload_n dX9_exponents_20 rfl rfl) sa_nil)) T_X9_exponent gX9_exponents_X9_exponent rfl (by decide +kernel) (Nat.le_of_ble_eq_true rfl) (Nat.le_of_ble_eq_true rfl) (s_LenI (s_LenI s_Len0)) (Nat.le_of_ble_eq_true rfl) dX9_exponents_21 rfl) dX9_exponents_24 rfl) dX9_exponents_25 rfl (Nat.le_of_ble_eq_true rfl) rfl)
    (ss_goto (pcG := 29) (ss_inc dX9_exponents_26 (Nat.le_of_ble_eq_true rfl) (by decide +kernel) rfl) dX9_exponents_29 rfl)))))
    (ss_retI (pcA := 33) (se_iload_n dX9_exponents_32 rfl rfl) dX9_exponents_33 rfl)))
theorem T_X9_exponents : sMet vwCl RX6 yX9_exponents wsX9_exponents 1 23 M_X9_exponents := sMet_of rfl (by decide +kernel) rfl rfl (fun h => by cases h) (m_ofV_run _ _ _) S_X9_exponents (m_ofV_cat _ _ _ (Nat.le_of_ble_eq_true rfl))
theorem in_X9_greatestExponent_X9 : ∀ w ∈ u_ws RX9 TX9 18, w ∈ wsX9_greatestExponent := by decide +kernel
theorem lk_X9_greatestExponent_7 : Cond.fieldLink RX9 7 RX9 "s" "[I" ∈ wsX9_greatestExponent := by decide +kernel
abbrev C_X9_greatestExponent_1 : sCd := (c_cmp i_lt (e_i 3) (e_ald (e_getR 7 0 (e_r 0)) (e_k (nI 2))))
abbrev W_X9_greatestExponent_1 : sStm :=
  (s_seq (s_blk 4 (s_seq (s_decI 4 (e_callI M_X9_exponent (a_ci (e_callI M_X9_of (a_cr (e_r 0) (a_ci (e_i 3) a_nil))) (a_ci (e_i 1) a_nil))))
    (s_setI 2 (e_if (c_cmp i_gt (e_i 4) (e_i 2)) (e_i 4) (e_i 2)))))
    (s_inc 3 (nI 1)))
def B_X9_greatestExponent : sStm :=
  (s_seq (s_decI 2 (e_k (nI 0)))
    (s_seq (s_blk 3 (s_seq (s_decI 3 (e_k (nI 0)))
    (s_while C_X9_greatestExponent_1 W_X9_greatestExponent_1)))
    (s_retI (e_i 2))))
def M_X9_greatestExponent : sSem := m_ofV 7 2 B_X9_greatestExponent
set_option maxRecDepth 100000 in
set_option maxHeartbeats 4000000 in
theorem S_X9_greatestExponent : sSS (cX9_greatestExponent, wsX9_greatestExponent, RX9, (some .int), 1, 23, 5, vwCl, RX6, false) 0 0 B_X9_greatestExponent :=
  (ss_seq (pcA := 2) (ss_decI_n (pcA := 1) (se_iconst dX9_greatestExponent_0 (by decide +kernel) rfl) dX9_greatestExponent_1 rfl (Nat.le_of_ble_eq_true rfl) rfl)
    (ss_seq (pcA := 44) (ss_blk (ss_seq (pcA := 4) (ss_decI_n (pcA := 3) (se_iconst dX9_greatestExponent_2 (by decide +kernel) rfl) dX9_greatestExponent_3 rfl (Nat.le_of_ble_eq_true rfl) rfl)
    (ss_while (pcB := 14) (sc_Flt (pcA := 5) (pcB := 11) (se_iload_n dX9_greatestExponent_4 rfl rfl) (se_ald (pcA := 9) (pcB := 10) (se_getR (pcA := 6) (T := TX9) (k := 0) (index := 7) (se_aload_n dX9_greatestExponent_5 rfl rfl) rfl in_X9_greatestExponent_X9 (Nat.le_of_ble_eq_true rfl) lk_X9_greatestExponent_7 rfl dX9_greatestExponent_6 rfl) (se_iconst dX9_greatestExponent_9 (by decide +kernel) rfl) dX9_greatestExponent_10 rfl) dX9_greatestExponent_11 rfl rfl)
    (ss_seq (pcA := 38) (ss_blk (ss_seq (pcA := 25) (ss_decI (pcA := 23) (se_callSI (pcA := 20) (index := 203) (sa_ci (pcA := 19) (se_callVI (pcA := 16) (ci := 7) (index := 59) (sa_cr (pcA := 15) (se_aload_n dX9_greatestExponent_14 rfl rfl) (sa_ci (pcA := 16) (se_iload_n dX9_greatestExponent_15 rfl rfl) sa_nil)) T_X9_of (s_Rcv_of 7 _ _) rfl gX9_greatestExponent_X9_of rfl (by decide +kernel) (Nat.le_of_ble_eq_true rfl) (Nat.le_of_ble_eq_true rfl) (s_LenR (s_LenI s_Len0)) (Nat.le_of_ble_eq_true rfl) dX9_greatestExponent_16 rfl) (sa_ci (pcA := 20) (se_iload_n dX9_greatestExponent_19 rfl rfl) sa_nil)) T_X9_exponent gX9_greatestExponent_X9_exponent rfl (by decide +kernel) (Nat.le_of_ble_eq_true rfl) (Nat.le_of_ble_eq_true rfl) (s_LenI (s_LenI s_Len0)) (Nat.le_of_ble_eq_true rfl) dX9_greatestExponent_20 rfl) dX9_greatestExponent_23 (Nat.le_of_ble_eq_true rfl) rfl)
    (ss_setI_n (pcA := 37) (se_if (pcT := 31) (pcF := 36) (pcG := 33) (sc_Fgt (pcA := 27) (pcB := 28) (se_iload dX9_greatestExponent_25 rfl) (se_iload_n dX9_greatestExponent_27 rfl rfl) dX9_greatestExponent_28 rfl rfl) (se_iload dX9_greatestExponent_31 rfl) dX9_greatestExponent_33 rfl (se_iload_n dX9_greatestExponent_36 rfl rfl)) dX9_greatestExponent_37 rfl (Nat.le_of_ble_eq_true rfl) rfl)))
    (ss_goto (pcG := 41) (ss_inc dX9_greatestExponent_38 (Nat.le_of_ble_eq_true rfl) (by decide +kernel) rfl) dX9_greatestExponent_41 rfl)))))
    (ss_retI (pcA := 45) (se_iload_n dX9_greatestExponent_44 rfl rfl) dX9_greatestExponent_45 rfl)))
theorem T_X9_greatestExponent : sMet vwCl RX6 yX9_greatestExponent wsX9_greatestExponent 1 23 M_X9_greatestExponent := sMet_of rfl (by decide +kernel) rfl rfl (fun h => by cases h) (m_ofV_run _ _ _) S_X9_greatestExponent (m_ofV_cat _ _ _ (Nat.le_of_ble_eq_true rfl))
theorem in_X9_divided_X9 : ∀ w ∈ u_ws RX9 TX9 18, w ∈ wsX9_divided := by decide +kernel
theorem lk_X9_divided_7 : Cond.fieldLink RX9 7 RX9 "s" "[I" ∈ wsX9_divided := by decide +kernel
abbrev C_X9_divided_1 : sCd := (c_cmp i_lt (e_i 3) (e_ald (e_getR 7 0 (e_r 0)) (e_k (nI 2))))
abbrev W_X9_divided_1 : sStm :=
  (s_seq (s_setI 2 (e_add (e_i 2) (e_if (c_cmp0 i_eq (e_rem (e_callI M_X9_of (a_cr (e_r 0) (a_ci (e_i 3) a_nil))) (e_i 1))) (e_k (nI 1)) (e_k (nI 0)))))
    (s_inc 3 (nI 1)))
def B_X9_divided : sStm :=
  (s_seq (s_decI 2 (e_k (nI 0)))
    (s_seq (s_blk 3 (s_seq (s_decI 3 (e_k (nI 0)))
    (s_while C_X9_divided_1 W_X9_divided_1)))
    (s_retI (e_i 2))))
def M_X9_divided : sSem := m_ofV 7 2 B_X9_divided
set_option maxRecDepth 100000 in
set_option maxHeartbeats 4000000 in
theorem S_X9_divided : sSS (cX9_divided, wsX9_divided, RX9, (some .int), 1, 21, 4, vwCl, RX6, false) 0 0 B_X9_divided :=
  (ss_seq (pcA := 2) (ss_decI_n (pcA := 1) (se_iconst dX9_divided_0 (by decide +kernel) rfl) dX9_divided_1 rfl (Nat.le_of_ble_eq_true rfl) rfl)
    (ss_seq (pcA := 38) (ss_blk (ss_seq (pcA := 4) (ss_decI_n (pcA := 3) (se_iconst dX9_divided_2 (by decide +kernel) rfl) dX9_divided_3 rfl (Nat.le_of_ble_eq_true rfl) rfl)
    (ss_while (pcB := 14) (sc_Flt (pcA := 5) (pcB := 11) (se_iload_n dX9_divided_4 rfl rfl) (se_ald (pcA := 9) (pcB := 10) (se_getR (pcA := 6) (T := TX9) (k := 0) (index := 7) (se_aload_n dX9_divided_5 rfl rfl) rfl in_X9_divided_X9 (Nat.le_of_ble_eq_true rfl) lk_X9_divided_7 rfl dX9_divided_6 rfl) (se_iconst dX9_divided_9 (by decide +kernel) rfl) dX9_divided_10 rfl) dX9_divided_11 rfl rfl)
    (ss_seq (pcA := 32) (ss_setI_n (pcA := 31) (se_add (pcA := 15) (pcB := 30) (se_iload_n dX9_divided_14 rfl rfl) (se_if (pcT := 25) (pcF := 29) (pcG := 26) (sc_Feq0 (pcB := 22) (se_rem (pcA := 20) (pcB := 21) (se_callVI (pcA := 17) (ci := 7) (index := 59) (sa_cr (pcA := 16) (se_aload_n dX9_divided_15 rfl rfl) (sa_ci (pcA := 17) (se_iload_n dX9_divided_16 rfl rfl) sa_nil)) T_X9_of (s_Rcv_of 7 _ _) rfl gX9_divided_X9_of rfl (by decide +kernel) (Nat.le_of_ble_eq_true rfl) (Nat.le_of_ble_eq_true rfl) (s_LenR (s_LenI s_Len0)) (Nat.le_of_ble_eq_true rfl) dX9_divided_17 rfl) (se_iload_n dX9_divided_20 rfl rfl) dX9_divided_21 rfl) dX9_divided_22 rfl rfl) (se_iconst dX9_divided_25 (by decide +kernel) rfl) dX9_divided_26 rfl (se_iconst dX9_divided_29 (by decide +kernel) rfl)) dX9_divided_30 rfl) dX9_divided_31 rfl (Nat.le_of_ble_eq_true rfl) rfl)
    (ss_goto (pcG := 35) (ss_inc dX9_divided_32 (Nat.le_of_ble_eq_true rfl) (by decide +kernel) rfl) dX9_divided_35 rfl)))))
    (ss_retI (pcA := 39) (se_iload_n dX9_divided_38 rfl rfl) dX9_divided_39 rfl)))
theorem T_X9_divided : sMet vwCl RX6 yX9_divided wsX9_divided 1 21 M_X9_divided := sMet_of rfl (by decide +kernel) rfl rfl (fun h => by cases h) (m_ofV_run _ _ _) S_X9_divided (m_ofV_cat _ _ _ (Nat.le_of_ble_eq_true rfl))
theorem in_X9_prime_X9 : ∀ w ∈ u_ws RX9 TX9 18, w ∈ wsX9_prime := by decide +kernel
theorem lk_X9_prime_7 : Cond.fieldLink RX9 7 RX9 "s" "[I" ∈ wsX9_prime := by decide +kernel
def B_X9_prime : sStm :=
  (s_seq (s_decI 3 (e_callI M_X9_rank (a_cr (e_r 0) (a_ci (e_i 1) a_nil))))
    (s_seq (s_if (c_or (c_cmp0 i_lt (e_i 3)) (c_not (c_cmp0 i_ne (e_callI M_X9_in (a_ci (e_i 2) (a_ci (e_k (nI 0)) (a_ci (e_k (nI 4)) a_nil)))))))
    (s_retI (e_k (-1))) s_skip)
    (s_sw (e_i 2) (fun x =>
    if x = nI 0 then (s_retI (e_ald (e_getR 7 0 (e_r 0)) (e_add (e_k (nI 16)) (e_i 3))))
    else if x = nI 1 then (s_retI (e_add (e_ald (e_getR 7 0 (e_r 0)) (e_add (e_k (nI 16)) (e_i 3))) (e_callI M_X9_exponents (a_cr (e_r 0) (a_ci (e_i 1) a_nil)))))
    else if x = nI 2 then (s_retI (e_callI M_X9_exponents (a_cr (e_r 0) (a_ci (e_i 1) a_nil))))
    else if x = nI 3 then (s_retI (e_callI M_X9_greatestExponent (a_cr (e_r 0) (a_ci (e_i 1) a_nil))))
    else (s_retI (e_callI M_X9_divided (a_cr (e_r 0) (a_ci (e_i 1) a_nil))))))))
def M_X9_prime : sSem := m_ofV 7 3 B_X9_prime
set_option maxRecDepth 100000 in
set_option maxHeartbeats 4000000 in
theorem S_X9_prime : sSS (cX9_prime, wsX9_prime, RX9, (some .int), 2, 47, 4, vwCl, RX6, false) 0 0 B_X9_prime :=
  (ss_seq (pcA := 6) (ss_decI_n (pcA := 5) (se_callVI (pcA := 2) (ci := 7) (index := 103) (sa_cr (pcA := 1) (se_aload_n dX9_prime_0 rfl rfl) (sa_ci (pcA := 2) (se_iload_n dX9_prime_1 rfl rfl) sa_nil)) T_X9_rank (s_Rcv_of 7 _ _) rfl gX9_prime_X9_rank rfl (by decide +kernel) (Nat.le_of_ble_eq_true rfl) (Nat.le_of_ble_eq_true rfl) (s_LenR (s_LenI s_Len0)) (Nat.le_of_ble_eq_true rfl) dX9_prime_2 rfl) dX9_prime_5 rfl (Nat.le_of_ble_eq_true rfl) rfl)
    (ss_seq (pcA := 21) (ss_if (pcT := 19) (pcF := 21) (sc_or (pcA := 10) (sc_Tlt0 (pcB := 7) (se_iload_n dX9_prime_6 rfl rfl) dX9_prime_7 rfl rfl) (sc_not (sc_Tne0 (pcB := 16) (se_callSI (pcA := 13) (index := 51) (sa_ci (pcA := 11) (se_iload_n dX9_prime_10 rfl rfl) (sa_ci (pcA := 12) (se_iconst dX9_prime_11 (by decide +kernel) rfl) (sa_ci (pcA := 13) (se_iconst dX9_prime_12 (by decide +kernel) rfl) sa_nil))) T_X9_in gX9_prime_X9_in rfl (by decide +kernel) (Nat.le_of_ble_eq_true rfl) (Nat.le_of_ble_eq_true rfl) (s_LenI (s_LenI (s_LenI s_Len0))) (Nat.le_of_ble_eq_true rfl) dX9_prime_13 rfl) dX9_prime_16 rfl rfl)))
    (ss_retI (pcA := 20) (se_iconst dX9_prime_19 (by decide +kernel) rfl) dX9_prime_20 rfl) ss_skip)
    (ss_sw (pcA := 22) (se_iload_n dX9_prime_21 rfl rfl) (by
    intro x
    by_cases h0 : x = nI 0
    · subst h0
      exact ⟨52, s_Goes_tab (off := 30) dX9_prime_22 (by decide) (by decide) (by decide) rfl, (ss_retI (pcA := 61) (se_ald (pcA := 56) (pcB := 60) (se_getR (pcA := 53) (T := TX9) (k := 0) (index := 7) (se_aload_n dX9_prime_52 rfl rfl) rfl in_X9_prime_X9 (Nat.le_of_ble_eq_true rfl) lk_X9_prime_7 rfl dX9_prime_53 rfl) (se_add (pcA := 58) (pcB := 59) (se_bipush dX9_prime_56 (by decide +kernel) rfl) (se_iload_n dX9_prime_58 rfl rfl) dX9_prime_59 rfl) dX9_prime_60 rfl) dX9_prime_61 rfl)⟩
    by_cases h1 : x = nI 1
    · subst h1
      exact ⟨62, s_Goes_tab (off := 40) dX9_prime_22 (by decide) (by decide) (by decide) rfl, (ss_retI (pcA := 77) (se_add (pcA := 71) (pcB := 76) (se_ald (pcA := 66) (pcB := 70) (se_getR (pcA := 63) (T := TX9) (k := 0) (index := 7) (se_aload_n dX9_prime_62 rfl rfl) rfl in_X9_prime_X9 (Nat.le_of_ble_eq_true rfl) lk_X9_prime_7 rfl dX9_prime_63 rfl) (se_add (pcA := 68) (pcB := 69) (se_bipush dX9_prime_66 (by decide +kernel) rfl) (se_iload_n dX9_prime_68 rfl rfl) dX9_prime_69 rfl) dX9_prime_70 rfl) (se_callVI (pcA := 73) (ci := 7) (index := 206) (sa_cr (pcA := 72) (se_aload_n dX9_prime_71 rfl rfl) (sa_ci (pcA := 73) (se_iload_n dX9_prime_72 rfl rfl) sa_nil)) T_X9_exponents (s_Rcv_of 7 _ _) rfl gX9_prime_X9_exponents rfl (by decide +kernel) (Nat.le_of_ble_eq_true rfl) (Nat.le_of_ble_eq_true rfl) (s_LenR (s_LenI s_Len0)) (Nat.le_of_ble_eq_true rfl) dX9_prime_73 rfl) dX9_prime_76 rfl) dX9_prime_77 rfl)⟩
    by_cases h2 : x = nI 2
    · subst h2
      exact ⟨78, s_Goes_tab (off := 56) dX9_prime_22 (by decide) (by decide) (by decide) rfl, (ss_retI (pcA := 83) (se_callVI (pcA := 80) (ci := 7) (index := 206) (sa_cr (pcA := 79) (se_aload_n dX9_prime_78 rfl rfl) (sa_ci (pcA := 80) (se_iload_n dX9_prime_79 rfl rfl) sa_nil)) T_X9_exponents (s_Rcv_of 7 _ _) rfl gX9_prime_X9_exponents rfl (by decide +kernel) (Nat.le_of_ble_eq_true rfl) (Nat.le_of_ble_eq_true rfl) (s_LenR (s_LenI s_Len0)) (Nat.le_of_ble_eq_true rfl) dX9_prime_80 rfl) dX9_prime_83 rfl)⟩
    by_cases h3 : x = nI 3
    · subst h3
      exact ⟨84, s_Goes_tab (off := 62) dX9_prime_22 (by decide) (by decide) (by decide) rfl, (ss_retI (pcA := 89) (se_callVI (pcA := 86) (ci := 7) (index := 209) (sa_cr (pcA := 85) (se_aload_n dX9_prime_84 rfl rfl) (sa_ci (pcA := 86) (se_iload_n dX9_prime_85 rfl rfl) sa_nil)) T_X9_greatestExponent (s_Rcv_of 7 _ _) rfl gX9_prime_X9_greatestExponent rfl (by decide +kernel) (Nat.le_of_ble_eq_true rfl) (Nat.le_of_ble_eq_true rfl) (s_LenR (s_LenI s_Len0)) (Nat.le_of_ble_eq_true rfl) dX9_prime_86 rfl) dX9_prime_89 rfl)⟩
    exact ⟨90, s_Goes_tabD dX9_prime_22 (i_out4 h0 h1 h2 h3) rfl, by rw [if_neg h0, if_neg h1, if_neg h2, if_neg h3]; exact (ss_retI (pcA := 95) (se_callVI (pcA := 92) (ci := 7) (index := 212) (sa_cr (pcA := 91) (se_aload_n dX9_prime_90 rfl rfl) (sa_ci (pcA := 92) (se_iload_n dX9_prime_91 rfl rfl) sa_nil)) T_X9_divided (s_Rcv_of 7 _ _) rfl gX9_prime_X9_divided rfl (by decide +kernel) (Nat.le_of_ble_eq_true rfl) (Nat.le_of_ble_eq_true rfl) (s_LenR (s_LenI s_Len0)) (Nat.le_of_ble_eq_true rfl) dX9_prime_92 rfl) dX9_prime_95 rfl)⟩))))
theorem T_X9_prime : sMet vwCl RX6 yX9_prime wsX9_prime 2 47 M_X9_prime := sMet_of rfl (by decide +kernel) rfl rfl (fun h => by cases h) (m_ofV_run _ _ _) S_X9_prime (m_ofV_cat _ _ _ (Nat.le_of_ble_eq_true rfl))
theorem in_X9_chips_X9 : ∀ w ∈ u_ws RX9 TX9 18, w ∈ wsX9_chips := by decide +kernel
theorem lk_X9_chips_7 : Cond.fieldLink RX9 7 RX9 "s" "[I" ∈ wsX9_chips := by decide +kernel
abbrev C_X9_chips_1 : sCd := (c_cmp i_lt (e_i 3) (e_k (nI 1229)))
abbrev W_X9_chips_1 : sStm :=
  (s_seq (s_setI 2 (e_add (e_i 2) (e_if (c_cmp0 i_ne (e_i 1)) (e_ald (e_getR 7 0 (e_r 0)) (e_add (e_k (nI 16)) (e_i 3))) (e_if (c_cmp0 i_gt (e_ald (e_getR 7 0 (e_r 0)) (e_add (e_k (nI 16)) (e_i 3)))) (e_k (nI 1)) (e_k (nI 0))))))
    (s_inc 3 (nI 1)))
def B_X9_chips : sStm :=
  (s_seq (s_decI 2 (e_k (nI 0)))
    (s_seq (s_blk 3 (s_seq (s_decI 3 (e_k (nI 0)))
    (s_while C_X9_chips_1 W_X9_chips_1)))
    (s_retI (e_i 2))))
def M_X9_chips : sSem := m_ofV 7 2 B_X9_chips
set_option maxRecDepth 100000 in
set_option maxHeartbeats 4000000 in
theorem S_X9_chips : sSS (cX9_chips, wsX9_chips, RX9, (some .int), 0, 0, 4, vwCl, RX6, false) 0 0 B_X9_chips :=
  (ss_seq (pcA := 2) (ss_decI_n (pcA := 1) (se_iconst dX9_chips_0 (by decide +kernel) rfl) dX9_chips_1 rfl (Nat.le_of_ble_eq_true rfl) rfl)
    (ss_seq (pcA := 53) (ss_blk (ss_seq (pcA := 4) (ss_decI_n (pcA := 3) (se_iconst dX9_chips_2 (by decide +kernel) rfl) dX9_chips_3 rfl (Nat.le_of_ble_eq_true rfl) rfl)
    (ss_while (pcB := 11) (sc_Flt (pcA := 5) (pcB := 8) (se_iload_n dX9_chips_4 rfl rfl) (se_sipush dX9_chips_5 (by decide +kernel) rfl) dX9_chips_8 rfl rfl)
    (ss_seq (pcA := 47) (ss_setI_n (pcA := 46) (se_add (pcA := 12) (pcB := 45) (se_iload_n dX9_chips_11 rfl rfl) (se_if (pcT := 16) (pcF := 28) (pcG := 25) (sc_Fne0 (pcB := 13) (se_iload_n dX9_chips_12 rfl rfl) dX9_chips_13 rfl rfl) (se_ald (pcA := 20) (pcB := 24) (se_getR (pcA := 17) (T := TX9) (k := 0) (index := 7) (se_aload_n dX9_chips_16 rfl rfl) rfl in_X9_chips_X9 (Nat.le_of_ble_eq_true rfl) lk_X9_chips_7 rfl dX9_chips_17 rfl) (se_add (pcA := 22) (pcB := 23) (se_bipush dX9_chips_20 (by decide +kernel) rfl) (se_iload_n dX9_chips_22 rfl rfl) dX9_chips_23 rfl) dX9_chips_24 rfl) dX9_chips_25 rfl (se_if (pcT := 40) (pcF := 44) (pcG := 41) (sc_Fgt0 (pcB := 37) (se_ald (pcA := 32) (pcB := 36) (se_getR (pcA := 29) (T := TX9) (k := 0) (index := 7) (se_aload_n dX9_chips_28 rfl rfl) rfl in_X9_chips_X9 (Nat.le_of_ble_eq_true rfl) lk_X9_chips_7 rfl dX9_chips_29 rfl) (se_add (pcA := 34) (pcB := 35) (se_bipush dX9_chips_32 (by decide +kernel) rfl) (se_iload_n dX9_chips_34 rfl rfl) dX9_chips_35 rfl) dX9_chips_36 rfl) dX9_chips_37 rfl rfl) (se_iconst dX9_chips_40 (by decide +kernel) rfl) dX9_chips_41 rfl (se_iconst dX9_chips_44 (by decide +kernel) rfl))) dX9_chips_45 rfl) dX9_chips_46 rfl (Nat.le_of_ble_eq_true rfl) rfl)
    (ss_goto (pcG := 50) (ss_inc dX9_chips_47 (Nat.le_of_ble_eq_true rfl) (by decide +kernel) rfl) dX9_chips_50 rfl)))))
    (ss_retI (pcA := 54) (se_iload_n dX9_chips_53 rfl rfl) dX9_chips_54 rfl)))
theorem T_X9_chips : sMet vwCl RX6 yX9_chips wsX9_chips 0 0 M_X9_chips := sMet_of rfl (by decide +kernel) rfl rfl (fun h => by cases h) (m_ofV_run _ _ _) S_X9_chips (m_ofV_cat _ _ _ (Nat.le_of_ble_eq_true rfl))
theorem in_X9_dividing_X9 : ∀ w ∈ u_ws RX9 TX9 18, w ∈ wsX9_dividing := by decide +kernel
theorem lk_X9_dividing_22 : Cond.fieldLink RX9 22 RX9 "primes" "[I" ∈ wsX9_dividing := by decide +kernel
abbrev C_X9_dividing_1 : sCd := (c_cmp i_lt (e_i 2) (e_k (nI 1229)))
abbrev W_X9_dividing_1 : sStm :=
  (s_seq (s_setI 1 (e_add (e_i 1) (e_if (c_cmp0 i_gt (e_callI M_X9_divided (a_cr (e_r 0) (a_ci (e_ald (e_getR 7 4 (e_r 0)) (e_i 2)) a_nil)))) (e_k (nI 1)) (e_k (nI 0)))))
    (s_inc 2 (nI 1)))
def B_X9_dividing : sStm :=
  (s_seq (s_decI 1 (e_k (nI 0)))
    (s_seq (s_blk 2 (s_seq (s_decI 2 (e_k (nI 0)))
    (s_while C_X9_dividing_1 W_X9_dividing_1)))
    (s_retI (e_i 1))))
def M_X9_dividing : sSem := m_ofV 7 1 B_X9_dividing
set_option maxRecDepth 100000 in
set_option maxHeartbeats 4000000 in
theorem S_X9_dividing : sSS (cX9_dividing, wsX9_dividing, RX9, (some .int), 2, 44, 3, vwCl, RX6, false) 0 0 B_X9_dividing :=
  (ss_seq (pcA := 2) (ss_decI_n (pcA := 1) (se_iconst dX9_dividing_0 (by decide +kernel) rfl) dX9_dividing_1 rfl (Nat.le_of_ble_eq_true rfl) rfl)
    (ss_seq (pcA := 38) (ss_blk (ss_seq (pcA := 4) (ss_decI_n (pcA := 3) (se_iconst dX9_dividing_2 (by decide +kernel) rfl) dX9_dividing_3 rfl (Nat.le_of_ble_eq_true rfl) rfl)
    (ss_while (pcB := 11) (sc_Flt (pcA := 5) (pcB := 8) (se_iload_n dX9_dividing_4 rfl rfl) (se_sipush dX9_dividing_5 (by decide +kernel) rfl) dX9_dividing_8 rfl rfl)
    (ss_seq (pcA := 32) (ss_setI_n (pcA := 31) (se_add (pcA := 12) (pcB := 30) (se_iload_n dX9_dividing_11 rfl rfl) (se_if (pcT := 25) (pcF := 29) (pcG := 26) (sc_Fgt0 (pcB := 22) (se_callVI (pcA := 19) (ci := 7) (index := 212) (sa_cr (pcA := 13) (se_aload_n dX9_dividing_12 rfl rfl) (sa_ci (pcA := 19) (se_ald (pcA := 17) (pcB := 18) (se_getR (pcA := 14) (T := TX9) (k := 4) (index := 22) (se_aload_n dX9_dividing_13 rfl rfl) rfl in_X9_dividing_X9 (Nat.le_of_ble_eq_true rfl) lk_X9_dividing_22 rfl dX9_dividing_14 rfl) (se_iload_n dX9_dividing_17 rfl rfl) dX9_dividing_18 rfl) sa_nil)) T_X9_divided (s_Rcv_of 7 _ _) rfl gX9_dividing_X9_divided rfl (by decide +kernel) (Nat.le_of_ble_eq_true rfl) (Nat.le_of_ble_eq_true rfl) (s_LenR (s_LenI s_Len0)) (Nat.le_of_ble_eq_true rfl) dX9_dividing_19 rfl) dX9_dividing_22 rfl rfl) (se_iconst dX9_dividing_25 (by decide +kernel) rfl) dX9_dividing_26 rfl (se_iconst dX9_dividing_29 (by decide +kernel) rfl)) dX9_dividing_30 rfl) dX9_dividing_31 rfl (Nat.le_of_ble_eq_true rfl) rfl)
    (ss_goto (pcG := 35) (ss_inc dX9_dividing_32 (Nat.le_of_ble_eq_true rfl) (by decide +kernel) rfl) dX9_dividing_35 rfl)))))
    (ss_retI (pcA := 39) (se_iload_n dX9_dividing_38 rfl rfl) dX9_dividing_39 rfl)))
theorem T_X9_dividing : sMet vwCl RX6 yX9_dividing wsX9_dividing 2 44 M_X9_dividing := sMet_of rfl (by decide +kernel) rfl rfl (fun h => by cases h) (m_ofV_run _ _ _) S_X9_dividing (m_ofV_cat _ _ _ (Nat.le_of_ble_eq_true rfl))
theorem in_X9_ones_X9 : ∀ w ∈ u_ws RX9 TX9 18, w ∈ wsX9_ones := by decide +kernel
theorem lk_X9_ones_7 : Cond.fieldLink RX9 7 RX9 "s" "[I" ∈ wsX9_ones := by decide +kernel
abbrev C_X9_ones_1 : sCd := (c_cmp i_lt (e_i 2) (e_ald (e_getR 7 0 (e_r 0)) (e_k (nI 2))))
abbrev W_X9_ones_1 : sStm :=
  (s_seq (s_setI 1 (e_add (e_i 1) (e_if (c_cmp i_eq (e_callI M_X9_of (a_cr (e_r 0) (a_ci (e_i 2) a_nil))) (e_k (nI 1))) (e_k (nI 1)) (e_k (nI 0)))))
    (s_inc 2 (nI 1)))
def B_X9_ones : sStm :=
  (s_seq (s_decI 1 (e_k (nI 0)))
    (s_seq (s_blk 2 (s_seq (s_decI 2 (e_k (nI 0)))
    (s_while C_X9_ones_1 W_X9_ones_1)))
    (s_retI (e_i 1))))
def M_X9_ones : sSem := m_ofV 7 1 B_X9_ones
set_option maxRecDepth 100000 in
set_option maxHeartbeats 4000000 in
theorem S_X9_ones : sSS (cX9_ones, wsX9_ones, RX9, (some .int), 1, 21, 3, vwCl, RX6, false) 0 0 B_X9_ones :=
  (ss_seq (pcA := 2) (ss_decI_n (pcA := 1) (se_iconst dX9_ones_0 (by decide +kernel) rfl) dX9_ones_1 rfl (Nat.le_of_ble_eq_true rfl) rfl)
    (ss_seq (pcA := 37) (ss_blk (ss_seq (pcA := 4) (ss_decI_n (pcA := 3) (se_iconst dX9_ones_2 (by decide +kernel) rfl) dX9_ones_3 rfl (Nat.le_of_ble_eq_true rfl) rfl)
    (ss_while (pcB := 14) (sc_Flt (pcA := 5) (pcB := 11) (se_iload_n dX9_ones_4 rfl rfl) (se_ald (pcA := 9) (pcB := 10) (se_getR (pcA := 6) (T := TX9) (k := 0) (index := 7) (se_aload_n dX9_ones_5 rfl rfl) rfl in_X9_ones_X9 (Nat.le_of_ble_eq_true rfl) lk_X9_ones_7 rfl dX9_ones_6 rfl) (se_iconst dX9_ones_9 (by decide +kernel) rfl) dX9_ones_10 rfl) dX9_ones_11 rfl rfl)
    (ss_seq (pcA := 31) (ss_setI_n (pcA := 30) (se_add (pcA := 15) (pcB := 29) (se_iload_n dX9_ones_14 rfl rfl) (se_if (pcT := 24) (pcF := 28) (pcG := 25) (sc_Feq (pcA := 20) (pcB := 21) (se_callVI (pcA := 17) (ci := 7) (index := 59) (sa_cr (pcA := 16) (se_aload_n dX9_ones_15 rfl rfl) (sa_ci (pcA := 17) (se_iload_n dX9_ones_16 rfl rfl) sa_nil)) T_X9_of (s_Rcv_of 7 _ _) rfl gX9_ones_X9_of rfl (by decide +kernel) (Nat.le_of_ble_eq_true rfl) (Nat.le_of_ble_eq_true rfl) (s_LenR (s_LenI s_Len0)) (Nat.le_of_ble_eq_true rfl) dX9_ones_17 rfl) (se_iconst dX9_ones_20 (by decide +kernel) rfl) dX9_ones_21 rfl rfl) (se_iconst dX9_ones_24 (by decide +kernel) rfl) dX9_ones_25 rfl (se_iconst dX9_ones_28 (by decide +kernel) rfl)) dX9_ones_29 rfl) dX9_ones_30 rfl (Nat.le_of_ble_eq_true rfl) rfl)
    (ss_goto (pcG := 34) (ss_inc dX9_ones_31 (Nat.le_of_ble_eq_true rfl) (by decide +kernel) rfl) dX9_ones_34 rfl)))))
    (ss_retI (pcA := 38) (se_iload_n dX9_ones_37 rfl rfl) dX9_ones_38 rfl)))
theorem T_X9_ones : sMet vwCl RX6 yX9_ones wsX9_ones 1 21 M_X9_ones := sMet_of rfl (by decide +kernel) rfl rfl (fun h => by cases h) (m_ofV_run _ _ _) S_X9_ones (m_ofV_cat _ _ _ (Nat.le_of_ble_eq_true rfl))
theorem in_X9_count_X9 : ∀ w ∈ u_ws RX9 TX9 18, w ∈ wsX9_count := by decide +kernel
theorem lk_X9_count_7 : Cond.fieldLink RX9 7 RX9 "s" "[I" ∈ wsX9_count := by decide +kernel
theorem lk_X9_count_132 : Cond.fieldLink RX9 132 RX9 "typed" "I" ∈ wsX9_count := by decide +kernel
theorem lk_X9_count_47 : Cond.fieldLink RX9 47 RX9 "pasts" "I" ∈ wsX9_count := by decide +kernel
def B_X9_count : sStm :=
  (s_sw (e_i 1) (fun x =>
    if x = nI 0 then (s_retI (e_ald (e_getR 7 0 (e_r 0)) (e_k (nI 2))))
    else if x = nI 1 then (s_retI (e_callI M_X9_pairs (a_cr (e_r 0) a_nil)))
    else if x = nI 2 then (s_retI (e_callI M_X9_families (a_cr (e_r 0) (a_ci (e_if (c_cmp i_eq (e_i 1) (e_k (nI 3))) (e_k (nI 1)) (e_k (nI 0))) a_nil))))
    else if x = nI 3 then (s_retI (e_callI M_X9_families (a_cr (e_r 0) (a_ci (e_if (c_cmp i_eq (e_i 1) (e_k (nI 3))) (e_k (nI 1)) (e_k (nI 0))) a_nil))))
    else if x = nI 4 then (s_retI (e_if (c_cmp0 i_ne (e_callI M_X9_isSettled (a_cr (e_r 0) a_nil))) (e_k (nI 1)) (e_k (nI 0))))
    else if x = nI 5 then (s_retI (e_callI M_X9_chips (a_cr (e_r 0) (a_ci (e_if (c_cmp i_eq (e_i 1) (e_k (nI 5))) (e_k (nI 1)) (e_k (nI 0))) a_nil))))
    else if x = nI 6 then (s_retI (e_callI M_X9_chips (a_cr (e_r 0) (a_ci (e_if (c_cmp i_eq (e_i 1) (e_k (nI 5))) (e_k (nI 1)) (e_k (nI 0))) a_nil))))
    else if x = nI 7 then (s_retI (e_ald (e_getR 7 0 (e_r 0)) (e_k (nI 3))))
    else if x = nI 8 then (s_retI (e_callI M_X9_dividing (a_cr (e_r 0) a_nil)))
    else if x = nI 9 then (s_retI (e_callI M_X9_ones (a_cr (e_r 0) a_nil)))
    else if x = nI 10 then (s_retI (e_ald (e_getR 7 0 (e_r 0)) (e_sub (e_i 1) (e_k (nI 10)))))
    else if x = nI 11 then (s_retI (e_ald (e_getR 7 0 (e_r 0)) (e_sub (e_i 1) (e_k (nI 10)))))
    else if x = nI 12 then (s_retI (e_get 7 9 (e_r 0)))
    else if x = nI 13 then (s_retI (e_get 7 6 (e_r 0)))
    else (s_retI (e_k (-1)))))
def M_X9_count : sSem := m_ofV 7 2 B_X9_count
set_option maxRecDepth 100000 in
set_option maxHeartbeats 4000000 in
theorem S_X9_count : sSS (cX9_count, wsX9_count, RX9, (some .int), 4, 95, 2, vwCl, RX6, false) 0 0 B_X9_count :=
  (ss_sw (pcA := 1) (se_iload_n dX9_count_0 rfl rfl) (by
    intro x
    by_cases h0 : x = nI 0
    · subst h0
      exact ⟨72, s_Goes_tab (off := 71) dX9_count_1 (by decide) (by decide) (by decide) rfl, (ss_retI (pcA := 78) (se_ald (pcA := 76) (pcB := 77) (se_getR (pcA := 73) (T := TX9) (k := 0) (index := 7) (se_aload_n dX9_count_72 rfl rfl) rfl in_X9_count_X9 (Nat.le_of_ble_eq_true rfl) lk_X9_count_7 rfl dX9_count_73 rfl) (se_iconst dX9_count_76 (by decide +kernel) rfl) dX9_count_77 rfl) dX9_count_78 rfl)⟩
    by_cases h1 : x = nI 1
    · subst h1
      exact ⟨79, s_Goes_tab (off := 78) dX9_count_1 (by decide) (by decide) (by decide) rfl, (ss_retI (pcA := 83) (se_callVI (pcA := 80) (ci := 7) (index := 215) (sa_cr (pcA := 80) (se_aload_n dX9_count_79 rfl rfl) sa_nil) T_X9_pairs (s_Rcv_of 7 _ _) rfl gX9_count_X9_pairs rfl (by decide +kernel) (Nat.le_of_ble_eq_true rfl) (Nat.le_of_ble_eq_true rfl) (s_LenR s_Len0) (Nat.le_of_ble_eq_true rfl) dX9_count_80 rfl) dX9_count_83 rfl)⟩
    by_cases h2 : x = nI 2
    · subst h2
      exact ⟨84, s_Goes_tab (off := 83) dX9_count_1 (by decide) (by decide) (by decide) rfl, (ss_retI (pcA := 98) (se_callVI (pcA := 95) (ci := 7) (index := 218) (sa_cr (pcA := 85) (se_aload_n dX9_count_84 rfl rfl) (sa_ci (pcA := 95) (se_if (pcT := 90) (pcF := 94) (pcG := 91) (sc_Feq (pcA := 86) (pcB := 87) (se_iload_n dX9_count_85 rfl rfl) (se_iconst dX9_count_86 (by decide +kernel) rfl) dX9_count_87 rfl rfl) (se_iconst dX9_count_90 (by decide +kernel) rfl) dX9_count_91 rfl (se_iconst dX9_count_94 (by decide +kernel) rfl)) sa_nil)) T_X9_families (s_Rcv_of 7 _ _) rfl gX9_count_X9_families rfl (by decide +kernel) (Nat.le_of_ble_eq_true rfl) (Nat.le_of_ble_eq_true rfl) (s_LenR (s_LenI s_Len0)) (Nat.le_of_ble_eq_true rfl) dX9_count_95 rfl) dX9_count_98 rfl)⟩
    by_cases h3 : x = nI 3
    · subst h3
      exact ⟨84, s_Goes_tab (off := 83) dX9_count_1 (by decide) (by decide) (by decide) rfl, (ss_retI (pcA := 98) (se_callVI (pcA := 95) (ci := 7) (index := 218) (sa_cr (pcA := 85) (se_aload_n dX9_count_84 rfl rfl) (sa_ci (pcA := 95) (se_if (pcT := 90) (pcF := 94) (pcG := 91) (sc_Feq (pcA := 86) (pcB := 87) (se_iload_n dX9_count_85 rfl rfl) (se_iconst dX9_count_86 (by decide +kernel) rfl) dX9_count_87 rfl rfl) (se_iconst dX9_count_90 (by decide +kernel) rfl) dX9_count_91 rfl (se_iconst dX9_count_94 (by decide +kernel) rfl)) sa_nil)) T_X9_families (s_Rcv_of 7 _ _) rfl gX9_count_X9_families rfl (by decide +kernel) (Nat.le_of_ble_eq_true rfl) (Nat.le_of_ble_eq_true rfl) (s_LenR (s_LenI s_Len0)) (Nat.le_of_ble_eq_true rfl) dX9_count_95 rfl) dX9_count_98 rfl)⟩
    by_cases h4 : x = nI 4
    · subst h4
      exact ⟨99, s_Goes_tab (off := 98) dX9_count_1 (by decide) (by decide) (by decide) rfl, (ss_retI (pcA := 111) (se_if (pcT := 106) (pcF := 110) (pcG := 107) (sc_Fne0 (pcB := 103) (se_callVI (pcA := 100) (ci := 7) (index := 118) (sa_cr (pcA := 100) (se_aload_n dX9_count_99 rfl rfl) sa_nil) T_X9_isSettled (s_Rcv_of 7 _ _) rfl gX9_count_X9_isSettled rfl (by decide +kernel) (Nat.le_of_ble_eq_true rfl) (Nat.le_of_ble_eq_true rfl) (s_LenR s_Len0) (Nat.le_of_ble_eq_true rfl) dX9_count_100 rfl) dX9_count_103 rfl rfl) (se_iconst dX9_count_106 (by decide +kernel) rfl) dX9_count_107 rfl (se_iconst dX9_count_110 (by decide +kernel) rfl)) dX9_count_111 rfl)⟩
    by_cases h5 : x = nI 5
    · subst h5
      exact ⟨112, s_Goes_tab (off := 111) dX9_count_1 (by decide) (by decide) (by decide) rfl, (ss_retI (pcA := 126) (se_callVI (pcA := 123) (ci := 7) (index := 222) (sa_cr (pcA := 113) (se_aload_n dX9_count_112 rfl rfl) (sa_ci (pcA := 123) (se_if (pcT := 118) (pcF := 122) (pcG := 119) (sc_Feq (pcA := 114) (pcB := 115) (se_iload_n dX9_count_113 rfl rfl) (se_iconst dX9_count_114 (by decide +kernel) rfl) dX9_count_115 rfl rfl) (se_iconst dX9_count_118 (by decide +kernel) rfl) dX9_count_119 rfl (se_iconst dX9_count_122 (by decide +kernel) rfl)) sa_nil)) T_X9_chips (s_Rcv_of 7 _ _) rfl gX9_count_X9_chips rfl (by decide +kernel) (Nat.le_of_ble_eq_true rfl) (Nat.le_of_ble_eq_true rfl) (s_LenR (s_LenI s_Len0)) (Nat.le_of_ble_eq_true rfl) dX9_count_123 rfl) dX9_count_126 rfl)⟩
    by_cases h6 : x = nI 6
    · subst h6
      exact ⟨112, s_Goes_tab (off := 111) dX9_count_1 (by decide) (by decide) (by decide) rfl, (ss_retI (pcA := 126) (se_callVI (pcA := 123) (ci := 7) (index := 222) (sa_cr (pcA := 113) (se_aload_n dX9_count_112 rfl rfl) (sa_ci (pcA := 123) (se_if (pcT := 118) (pcF := 122) (pcG := 119) (sc_Feq (pcA := 114) (pcB := 115) (se_iload_n dX9_count_113 rfl rfl) (se_iconst dX9_count_114 (by decide +kernel) rfl) dX9_count_115 rfl rfl) (se_iconst dX9_count_118 (by decide +kernel) rfl) dX9_count_119 rfl (se_iconst dX9_count_122 (by decide +kernel) rfl)) sa_nil)) T_X9_chips (s_Rcv_of 7 _ _) rfl gX9_count_X9_chips rfl (by decide +kernel) (Nat.le_of_ble_eq_true rfl) (Nat.le_of_ble_eq_true rfl) (s_LenR (s_LenI s_Len0)) (Nat.le_of_ble_eq_true rfl) dX9_count_123 rfl) dX9_count_126 rfl)⟩
    by_cases h7 : x = nI 7
    · subst h7
      exact ⟨127, s_Goes_tab (off := 126) dX9_count_1 (by decide) (by decide) (by decide) rfl, (ss_retI (pcA := 133) (se_ald (pcA := 131) (pcB := 132) (se_getR (pcA := 128) (T := TX9) (k := 0) (index := 7) (se_aload_n dX9_count_127 rfl rfl) rfl in_X9_count_X9 (Nat.le_of_ble_eq_true rfl) lk_X9_count_7 rfl dX9_count_128 rfl) (se_iconst dX9_count_131 (by decide +kernel) rfl) dX9_count_132 rfl) dX9_count_133 rfl)⟩
    by_cases h8 : x = nI 8
    · subst h8
      exact ⟨134, s_Goes_tab (off := 133) dX9_count_1 (by decide) (by decide) (by decide) rfl, (ss_retI (pcA := 138) (se_callVI (pcA := 135) (ci := 7) (index := 225) (sa_cr (pcA := 135) (se_aload_n dX9_count_134 rfl rfl) sa_nil) T_X9_dividing (s_Rcv_of 7 _ _) rfl gX9_count_X9_dividing rfl (by decide +kernel) (Nat.le_of_ble_eq_true rfl) (Nat.le_of_ble_eq_true rfl) (s_LenR s_Len0) (Nat.le_of_ble_eq_true rfl) dX9_count_135 rfl) dX9_count_138 rfl)⟩
    by_cases h9 : x = nI 9
    · subst h9
      exact ⟨139, s_Goes_tab (off := 138) dX9_count_1 (by decide) (by decide) (by decide) rfl, (ss_retI (pcA := 143) (se_callVI (pcA := 140) (ci := 7) (index := 228) (sa_cr (pcA := 140) (se_aload_n dX9_count_139 rfl rfl) sa_nil) T_X9_ones (s_Rcv_of 7 _ _) rfl gX9_count_X9_ones rfl (by decide +kernel) (Nat.le_of_ble_eq_true rfl) (Nat.le_of_ble_eq_true rfl) (s_LenR s_Len0) (Nat.le_of_ble_eq_true rfl) dX9_count_140 rfl) dX9_count_143 rfl)⟩
    by_cases h10 : x = nI 10
    · subst h10
      exact ⟨144, s_Goes_tab (off := 143) dX9_count_1 (by decide) (by decide) (by decide) rfl, (ss_retI (pcA := 153) (se_ald (pcA := 148) (pcB := 152) (se_getR (pcA := 145) (T := TX9) (k := 0) (index := 7) (se_aload_n dX9_count_144 rfl rfl) rfl in_X9_count_X9 (Nat.le_of_ble_eq_true rfl) lk_X9_count_7 rfl dX9_count_145 rfl) (se_sub (pcA := 149) (pcB := 151) (se_iload_n dX9_count_148 rfl rfl) (se_bipush dX9_count_149 (by decide +kernel) rfl) dX9_count_151 rfl) dX9_count_152 rfl) dX9_count_153 rfl)⟩
    by_cases h11 : x = nI 11
    · subst h11
      exact ⟨144, s_Goes_tab (off := 143) dX9_count_1 (by decide) (by decide) (by decide) rfl, (ss_retI (pcA := 153) (se_ald (pcA := 148) (pcB := 152) (se_getR (pcA := 145) (T := TX9) (k := 0) (index := 7) (se_aload_n dX9_count_144 rfl rfl) rfl in_X9_count_X9 (Nat.le_of_ble_eq_true rfl) lk_X9_count_7 rfl dX9_count_145 rfl) (se_sub (pcA := 149) (pcB := 151) (se_iload_n dX9_count_148 rfl rfl) (se_bipush dX9_count_149 (by decide +kernel) rfl) dX9_count_151 rfl) dX9_count_152 rfl) dX9_count_153 rfl)⟩
    by_cases h12 : x = nI 12
    · subst h12
      exact ⟨154, s_Goes_tab (off := 153) dX9_count_1 (by decide) (by decide) (by decide) rfl, (ss_retI (pcA := 158) (se_get (pcA := 155) (T := TX9) (k := 9) (index := 132) (se_aload_n dX9_count_154 rfl rfl) rfl in_X9_count_X9 (Nat.le_of_ble_eq_true rfl) lk_X9_count_132 rfl dX9_count_155 rfl) dX9_count_158 rfl)⟩
    by_cases h13 : x = nI 13
    · subst h13
      exact ⟨159, s_Goes_tab (off := 158) dX9_count_1 (by decide) (by decide) (by decide) rfl, (ss_retI (pcA := 163) (se_get (pcA := 160) (T := TX9) (k := 6) (index := 47) (se_aload_n dX9_count_159 rfl rfl) rfl in_X9_count_X9 (Nat.le_of_ble_eq_true rfl) lk_X9_count_47 rfl dX9_count_160 rfl) dX9_count_163 rfl)⟩
    exact ⟨164, s_Goes_tabD dX9_count_1 (i_out14 h0 h1 h2 h3 h4 h5 h6 h7 h8 h9 h10 h11 h12 h13) rfl, by rw [if_neg h0, if_neg h1, if_neg h2, if_neg h3, if_neg h4, if_neg h5, if_neg h6, if_neg h7, if_neg h8, if_neg h9, if_neg h10, if_neg h11, if_neg h12, if_neg h13]; exact (ss_retI (pcA := 165) (se_iconst dX9_count_164 (by decide +kernel) rfl) dX9_count_165 rfl)⟩))
theorem T_X9_count : sMet vwCl RX6 yX9_count wsX9_count 4 95 M_X9_count := sMet_of rfl (by decide +kernel) rfl rfl (fun h => by cases h) (m_ofV_run _ _ _) S_X9_count (m_ofV_cat _ _ _ (Nat.le_of_ble_eq_true rfl))
theorem in_X9_longestOf_X9 : ∀ w ∈ u_ws RX9 TX9 18, w ∈ wsX9_longestOf := by decide +kernel
theorem lk_X9_longestOf_7 : Cond.fieldLink RX9 7 RX9 "s" "[I" ∈ wsX9_longestOf := by decide +kernel
abbrev C_X9_longestOf_1 : sCd := (c_cmp i_lt (e_i 3) (e_ald (e_getR 7 0 (e_r 0)) (e_k (nI 2))))
abbrev W_X9_longestOf_1 : sStm :=
  (s_seq (s_blk 4 (s_seq (s_decI 4 (e_if (c_cmp0 i_ne (e_callI M_X9_finds (a_cr (e_r 0) (a_ci (e_i 2) (a_ci (e_i 3) (a_ci (e_k (nI 0)) a_nil)))))) (e_callI M_X9_measure (a_cr (e_r 0) (a_ci (e_i 2) (a_ci (e_i 3) (a_ci (e_k (nI 0)) a_nil))))) (e_k (nI 0))))
    (s_setI 1 (e_if (c_cmp i_gt (e_i 4) (e_i 1)) (e_i 4) (e_i 1)))))
    (s_inc 3 (nI 1)))
abbrev C_X9_longestOf_2 : sCd := (c_cmp i_lt (e_i 2) (e_ald (e_getR 7 0 (e_r 0)) (e_k (nI 2))))
abbrev W_X9_longestOf_2 : sStm :=
  (s_seq (s_blk 3 (s_seq (s_decI 3 (e_i 2))
    (s_while C_X9_longestOf_1 W_X9_longestOf_1)))
    (s_inc 2 (nI 1)))
def B_X9_longestOf : sStm :=
  (s_seq (s_decI 1 (e_k (nI 0)))
    (s_seq (s_blk 2 (s_seq (s_decI 2 (e_k (nI 0)))
    (s_while C_X9_longestOf_2 W_X9_longestOf_2)))
    (s_retI (e_i 1))))
def M_X9_longestOf : sSem := m_ofV 7 1 B_X9_longestOf
set_option maxRecDepth 100000 in
set_option maxHeartbeats 4000000 in
theorem S_X9_longestOf : sSS (cX9_longestOf, wsX9_longestOf, RX9, (some .int), 4, 96, 5, vwCl, RX6, false) 0 0 B_X9_longestOf :=
  (ss_seq (pcA := 2) (ss_decI_n (pcA := 1) (se_iconst dX9_longestOf_0 (by decide +kernel) rfl) dX9_longestOf_1 rfl (Nat.le_of_ble_eq_true rfl) rfl)
    (ss_seq (pcA := 74) (ss_blk (ss_seq (pcA := 4) (ss_decI_n (pcA := 3) (se_iconst dX9_longestOf_2 (by decide +kernel) rfl) dX9_longestOf_3 rfl (Nat.le_of_ble_eq_true rfl) rfl)
    (ss_while (pcB := 14) (sc_Flt (pcA := 5) (pcB := 11) (se_iload_n dX9_longestOf_4 rfl rfl) (se_ald (pcA := 9) (pcB := 10) (se_getR (pcA := 6) (T := TX9) (k := 0) (index := 7) (se_aload_n dX9_longestOf_5 rfl rfl) rfl in_X9_longestOf_X9 (Nat.le_of_ble_eq_true rfl) lk_X9_longestOf_7 rfl dX9_longestOf_6 rfl) (se_iconst dX9_longestOf_9 (by decide +kernel) rfl) dX9_longestOf_10 rfl) dX9_longestOf_11 rfl rfl)
    (ss_seq (pcA := 68) (ss_blk (ss_seq (pcA := 16) (ss_decI_n (pcA := 15) (se_iload_n dX9_longestOf_14 rfl rfl) dX9_longestOf_15 rfl (Nat.le_of_ble_eq_true rfl) rfl)
    (ss_while (pcB := 26) (sc_Flt (pcA := 17) (pcB := 23) (se_iload_n dX9_longestOf_16 rfl rfl) (se_ald (pcA := 21) (pcB := 22) (se_getR (pcA := 18) (T := TX9) (k := 0) (index := 7) (se_aload_n dX9_longestOf_17 rfl rfl) rfl in_X9_longestOf_X9 (Nat.le_of_ble_eq_true rfl) lk_X9_longestOf_7 rfl dX9_longestOf_18 rfl) (se_iconst dX9_longestOf_21 (by decide +kernel) rfl) dX9_longestOf_22 rfl) dX9_longestOf_23 rfl rfl)
    (ss_seq (pcA := 62) (ss_blk (ss_seq (pcA := 49) (ss_decI (pcA := 47) (se_if (pcT := 36) (pcF := 46) (pcG := 43) (sc_Fne0 (pcB := 33) (se_callVI (pcA := 30) (ci := 7) (index := 196) (sa_cr (pcA := 27) (se_aload_n dX9_longestOf_26 rfl rfl) (sa_ci (pcA := 28) (se_iload_n dX9_longestOf_27 rfl rfl) (sa_ci (pcA := 29) (se_iload_n dX9_longestOf_28 rfl rfl) (sa_ci (pcA := 30) (se_iconst dX9_longestOf_29 (by decide +kernel) rfl) sa_nil)))) T_X9_finds (s_Rcv_of 7 _ _) rfl gX9_longestOf_X9_finds rfl (by decide +kernel) (Nat.le_of_ble_eq_true rfl) (Nat.le_of_ble_eq_true rfl) (s_LenR (s_LenI (s_LenI (s_LenI s_Len0)))) (Nat.le_of_ble_eq_true rfl) dX9_longestOf_30 rfl) dX9_longestOf_33 rfl rfl) (se_callVI (pcA := 40) (ci := 7) (index := 199) (sa_cr (pcA := 37) (se_aload_n dX9_longestOf_36 rfl rfl) (sa_ci (pcA := 38) (se_iload_n dX9_longestOf_37 rfl rfl) (sa_ci (pcA := 39) (se_iload_n dX9_longestOf_38 rfl rfl) (sa_ci (pcA := 40) (se_iconst dX9_longestOf_39 (by decide +kernel) rfl) sa_nil)))) T_X9_measure (s_Rcv_of 7 _ _) rfl gX9_longestOf_X9_measure rfl (by decide +kernel) (Nat.le_of_ble_eq_true rfl) (Nat.le_of_ble_eq_true rfl) (s_LenR (s_LenI (s_LenI (s_LenI s_Len0)))) (Nat.le_of_ble_eq_true rfl) dX9_longestOf_40 rfl) dX9_longestOf_43 rfl (se_iconst dX9_longestOf_46 (by decide +kernel) rfl)) dX9_longestOf_47 (Nat.le_of_ble_eq_true rfl) rfl)
    (ss_setI_n (pcA := 61) (se_if (pcT := 55) (pcF := 60) (pcG := 57) (sc_Fgt (pcA := 51) (pcB := 52) (se_iload dX9_longestOf_49 rfl) (se_iload_n dX9_longestOf_51 rfl rfl) dX9_longestOf_52 rfl rfl) (se_iload dX9_longestOf_55 rfl) dX9_longestOf_57 rfl (se_iload_n dX9_longestOf_60 rfl rfl)) dX9_longestOf_61 rfl (Nat.le_of_ble_eq_true rfl) rfl)))
    (ss_goto (pcG := 65) (ss_inc dX9_longestOf_62 (Nat.le_of_ble_eq_true rfl) (by decide +kernel) rfl) dX9_longestOf_65 rfl)))))
    (ss_goto (pcG := 71) (ss_inc dX9_longestOf_68 (Nat.le_of_ble_eq_true rfl) (by decide +kernel) rfl) dX9_longestOf_71 rfl)))))
    (ss_retI (pcA := 75) (se_iload_n dX9_longestOf_74 rfl rfl) dX9_longestOf_75 rfl)))
theorem T_X9_longestOf : sMet vwCl RX6 yX9_longestOf wsX9_longestOf 4 96 M_X9_longestOf := sMet_of rfl (by decide +kernel) rfl rfl (fun h => by cases h) (m_ofV_run _ _ _) S_X9_longestOf (m_ofV_cat _ _ _ (Nat.le_of_ble_eq_true rfl))
def B_X9_whyNotDone : sStm :=
  (s_seq (s_if (c_cmp i_lt (e_i 1) (e_k (nI 2)))
    (s_retI (e_if (c_cmp0 i_eq (e_i 1)) (e_callI M_X9_whyNotShared (a_cr (e_r 0) (a_ci (e_i 2) a_nil))) (e_callI M_X9_whyNotDivided (a_cr (e_r 0) (a_ci (e_i 2) a_nil))))) s_skip)
    (s_retI (e_if (c_not (c_cmp0 i_ne (e_callI M_X9_isStep (a_cr (e_r 0) (a_ci (e_i 2) a_nil))))) (e_k (-1)) (e_if (c_cmp i_eq (e_callI M_X9_of (a_cr (e_r 0) (a_ci (e_i 2) a_nil))) (e_k (nI 1))) (e_k (-2)) (e_k (nI 0))))))
def M_X9_whyNotDone : sSem := m_ofV 7 3 B_X9_whyNotDone
set_option maxRecDepth 100000 in
set_option maxHeartbeats 4000000 in
theorem S_X9_whyNotDone : sSS (cX9_whyNotDone, wsX9_whyNotDone, RX9, (some .int), 3, 66, 3, vwCl, RX6, false) 0 0 B_X9_whyNotDone :=
  (ss_seq (pcA := 23) (ss_if (pcT := 5) (pcF := 23) (sc_Flt (pcA := 1) (pcB := 2) (se_iload_n dX9_whyNotDone_0 rfl rfl) (se_iconst dX9_whyNotDone_1 (by decide +kernel) rfl) dX9_whyNotDone_2 rfl rfl)
    (ss_retI (pcA := 22) (se_if (pcT := 9) (pcF := 17) (pcG := 14) (sc_Feq0 (pcB := 6) (se_iload_n dX9_whyNotDone_5 rfl rfl) dX9_whyNotDone_6 rfl rfl) (se_callVI (pcA := 11) (ci := 7) (index := 97) (sa_cr (pcA := 10) (se_aload_n dX9_whyNotDone_9 rfl rfl) (sa_ci (pcA := 11) (se_iload_n dX9_whyNotDone_10 rfl rfl) sa_nil)) T_X9_whyNotShared (s_Rcv_of 7 _ _) rfl gX9_whyNotDone_X9_whyNotShared rfl (by decide +kernel) (Nat.le_of_ble_eq_true rfl) (Nat.le_of_ble_eq_true rfl) (s_LenR (s_LenI s_Len0)) (Nat.le_of_ble_eq_true rfl) dX9_whyNotDone_11 rfl) dX9_whyNotDone_14 rfl (se_callVI (pcA := 19) (ci := 7) (index := 109) (sa_cr (pcA := 18) (se_aload_n dX9_whyNotDone_17 rfl rfl) (sa_ci (pcA := 19) (se_iload_n dX9_whyNotDone_18 rfl rfl) sa_nil)) T_X9_whyNotDivided (s_Rcv_of 7 _ _) rfl gX9_whyNotDone_X9_whyNotDivided rfl (by decide +kernel) (Nat.le_of_ble_eq_true rfl) (Nat.le_of_ble_eq_true rfl) (s_LenR (s_LenI s_Len0)) (Nat.le_of_ble_eq_true rfl) dX9_whyNotDone_19 rfl)) dX9_whyNotDone_22 rfl) ss_skip)
    (ss_retI (pcA := 50) (se_if (pcT := 31) (pcF := 35) (pcG := 32) (sc_not (sc_Tne0 (pcB := 28) (se_callVI (pcA := 25) (ci := 7) (index := 86) (sa_cr (pcA := 24) (se_aload_n dX9_whyNotDone_23 rfl rfl) (sa_ci (pcA := 25) (se_iload_n dX9_whyNotDone_24 rfl rfl) sa_nil)) T_X9_isStep (s_Rcv_of 7 _ _) rfl gX9_whyNotDone_X9_isStep rfl (by decide +kernel) (Nat.le_of_ble_eq_true rfl) (Nat.le_of_ble_eq_true rfl) (s_LenR (s_LenI s_Len0)) (Nat.le_of_ble_eq_true rfl) dX9_whyNotDone_25 rfl) dX9_whyNotDone_28 rfl rfl)) (se_iconst dX9_whyNotDone_31 (by decide +kernel) rfl) dX9_whyNotDone_32 rfl (se_if (pcT := 44) (pcF := 49) (pcG := 46) (sc_Feq (pcA := 40) (pcB := 41) (se_callVI (pcA := 37) (ci := 7) (index := 59) (sa_cr (pcA := 36) (se_aload_n dX9_whyNotDone_35 rfl rfl) (sa_ci (pcA := 37) (se_iload_n dX9_whyNotDone_36 rfl rfl) sa_nil)) T_X9_of (s_Rcv_of 7 _ _) rfl gX9_whyNotDone_X9_of rfl (by decide +kernel) (Nat.le_of_ble_eq_true rfl) (Nat.le_of_ble_eq_true rfl) (s_LenR (s_LenI s_Len0)) (Nat.le_of_ble_eq_true rfl) dX9_whyNotDone_37 rfl) (se_iconst dX9_whyNotDone_40 (by decide +kernel) rfl) dX9_whyNotDone_41 rfl rfl) (se_bipush dX9_whyNotDone_44 (by decide +kernel) rfl) dX9_whyNotDone_46 rfl (se_iconst dX9_whyNotDone_49 (by decide +kernel) rfl))) dX9_whyNotDone_50 rfl))
theorem T_X9_whyNotDone : sMet vwCl RX6 yX9_whyNotDone wsX9_whyNotDone 3 66 M_X9_whyNotDone := sMet_of rfl (by decide +kernel) rfl rfl (fun h => by cases h) (m_ofV_run _ _ _) S_X9_whyNotDone (m_ofV_cat _ _ _ (Nat.le_of_ble_eq_true rfl))
def B_X9_done : sStm :=
  (s_retI (e_if (c_cmp0 i_eq (e_i 1)) (e_callI M_X9_shares (a_cr (e_r 0) (a_ci (e_i 2) a_nil))) (e_if (c_cmp i_eq (e_i 1) (e_k (nI 1))) (e_callI M_X9_divides (a_cr (e_r 0) (a_ci (e_i 2) a_nil))) (e_callI M_X9_strikes (a_cr (e_r 0) (a_ci (e_i 2) (a_ci (e_callI M_X9_factorOf (a_ci (e_callI M_X9_of (a_cr (e_r 0) (a_ci (e_i 2) a_nil))) (a_ci (e_sub (e_callI M_X9_factors (a_ci (e_callI M_X9_of (a_cr (e_r 0) (a_ci (e_i 2) a_nil))) (a_ci (e_k (nI 1)) a_nil))) (e_k (nI 1))) a_nil))) a_nil)))))))
def M_X9_done : sSem := m_ofV 7 3 B_X9_done
set_option maxRecDepth 100000 in
set_option maxHeartbeats 4000000 in
theorem S_X9_done : sSS (cX9_done, wsX9_done, RX9, (some .int), 3, 67, 3, vwCl, RX6, false) 0 0 B_X9_done :=
  (ss_retI (pcA := 49) (se_if (pcT := 4) (pcF := 12) (pcG := 9) (sc_Feq0 (pcB := 1) (se_iload_n dX9_done_0 rfl rfl) dX9_done_1 rfl rfl) (se_callVI (pcA := 6) (ci := 7) (index := 100) (sa_cr (pcA := 5) (se_aload_n dX9_done_4 rfl rfl) (sa_ci (pcA := 6) (se_iload_n dX9_done_5 rfl rfl) sa_nil)) T_X9_shares (s_Rcv_of 7 _ _) rfl gX9_done_X9_shares rfl (by decide +kernel) (Nat.le_of_ble_eq_true rfl) (Nat.le_of_ble_eq_true rfl) (s_LenR (s_LenI s_Len0)) (Nat.le_of_ble_eq_true rfl) dX9_done_6 rfl) dX9_done_9 rfl (se_if (pcT := 17) (pcF := 25) (pcG := 22) (sc_Feq (pcA := 13) (pcB := 14) (se_iload_n dX9_done_12 rfl rfl) (se_iconst dX9_done_13 (by decide +kernel) rfl) dX9_done_14 rfl rfl) (se_callVI (pcA := 19) (ci := 7) (index := 112) (sa_cr (pcA := 18) (se_aload_n dX9_done_17 rfl rfl) (sa_ci (pcA := 19) (se_iload_n dX9_done_18 rfl rfl) sa_nil)) T_X9_divides (s_Rcv_of 7 _ _) rfl gX9_done_X9_divides rfl (by decide +kernel) (Nat.le_of_ble_eq_true rfl) (Nat.le_of_ble_eq_true rfl) (s_LenR (s_LenI s_Len0)) (Nat.le_of_ble_eq_true rfl) dX9_done_19 rfl) dX9_done_22 rfl (se_callVI (pcA := 46) (ci := 7) (index := 115) (sa_cr (pcA := 26) (se_aload_n dX9_done_25 rfl rfl) (sa_ci (pcA := 27) (se_iload_n dX9_done_26 rfl rfl) (sa_ci (pcA := 46) (se_callSI (pcA := 43) (index := 175) (sa_ci (pcA := 32) (se_callVI (pcA := 29) (ci := 7) (index := 59) (sa_cr (pcA := 28) (se_aload_n dX9_done_27 rfl rfl) (sa_ci (pcA := 29) (se_iload_n dX9_done_28 rfl rfl) sa_nil)) T_X9_of (s_Rcv_of 7 _ _) rfl gX9_done_X9_of rfl (by decide +kernel) (Nat.le_of_ble_eq_true rfl) (Nat.le_of_ble_eq_true rfl) (s_LenR (s_LenI s_Len0)) (Nat.le_of_ble_eq_true rfl) dX9_done_29 rfl) (sa_ci (pcA := 43) (se_sub (pcA := 41) (pcB := 42) (se_callSI (pcA := 38) (index := 171) (sa_ci (pcA := 37) (se_callVI (pcA := 34) (ci := 7) (index := 59) (sa_cr (pcA := 33) (se_aload_n dX9_done_32 rfl rfl) (sa_ci (pcA := 34) (se_iload_n dX9_done_33 rfl rfl) sa_nil)) T_X9_of (s_Rcv_of 7 _ _) rfl gX9_done_X9_of rfl (by decide +kernel) (Nat.le_of_ble_eq_true rfl) (Nat.le_of_ble_eq_true rfl) (s_LenR (s_LenI s_Len0)) (Nat.le_of_ble_eq_true rfl) dX9_done_34 rfl) (sa_ci (pcA := 38) (se_iconst dX9_done_37 (by decide +kernel) rfl) sa_nil)) T_X9_factors gX9_done_X9_factors rfl (by decide +kernel) (Nat.le_of_ble_eq_true rfl) (Nat.le_of_ble_eq_true rfl) (s_LenI (s_LenI s_Len0)) (Nat.le_of_ble_eq_true rfl) dX9_done_38 rfl) (se_iconst dX9_done_41 (by decide +kernel) rfl) dX9_done_42 rfl) sa_nil)) T_X9_factorOf gX9_done_X9_factorOf rfl (by decide +kernel) (Nat.le_of_ble_eq_true rfl) (Nat.le_of_ble_eq_true rfl) (s_LenI (s_LenI s_Len0)) (Nat.le_of_ble_eq_true rfl) dX9_done_43 rfl) sa_nil))) T_X9_strikes (s_Rcv_of 7 _ _) rfl gX9_done_X9_strikes rfl (by decide +kernel) (Nat.le_of_ble_eq_true rfl) (Nat.le_of_ble_eq_true rfl) (s_LenR (s_LenI (s_LenI s_Len0))) (Nat.le_of_ble_eq_true rfl) dX9_done_46 rfl))) dX9_done_49 rfl)
theorem T_X9_done : sMet vwCl RX6 yX9_done wsX9_done 3 67 M_X9_done := sMet_of rfl (by decide +kernel) rfl rfl (fun h => by cases h) (m_ofV_run _ _ _) S_X9_done (m_ofV_cat _ _ _ (Nat.le_of_ble_eq_true rfl))
theorem in_X9_ifDone_X9 : ∀ w ∈ u_ws RX9 TX9 18, w ∈ wsX9_ifDone := by decide +kernel
theorem lk_X9_ifDone_7 : Cond.fieldLink RX9 7 RX9 "s" "[I" ∈ wsX9_ifDone := by decide +kernel
def B_X9_ifDone : sStm :=
  (s_seq (s_if (c_or (c_not (c_cmp0 i_ne (e_callI M_X9_in (a_ci (e_i 1) (a_ci (e_k (nI 0)) (a_ci (e_k (nI 2)) a_nil)))))) (c_not (c_cmp0 i_ne (e_callI M_X9_in (a_ci (e_i 3) (a_ci (e_k (nI 0)) (a_ci (e_k (nI 3)) a_nil)))))))
    (s_retI (e_k (-1))) s_skip)
    (s_seq (s_decI 4 (e_callI M_X9_whyNotDone (a_cr (e_r 0) (a_ci (e_i 1) (a_ci (e_i 2) a_nil)))))
    (s_seq (s_if (c_cmp0 i_lt (e_i 4))
    (s_retI (e_i 4)) s_skip)
    (s_seq (s_callV M_X9_putsAside (a_cr (e_r 0) a_nil))
    (s_seq (s_decI 5 (e_callI M_X9_done (a_cr (e_r 0) (a_ci (e_i 1) (a_ci (e_i 2) a_nil)))))
    (s_seq (s_setI 5 (e_if (c_cmp0 i_eq (e_i 3)) (e_callI M_X9_pairs (a_cr (e_r 0) a_nil)) (e_if (c_cmp i_eq (e_i 3) (e_k (nI 1))) (e_callI M_X9_families (a_cr (e_r 0) (a_ci (e_k (nI 0)) a_nil))) (e_if (c_cmp i_eq (e_i 3) (e_k (nI 2))) (e_callI M_X9_longestOf (a_cr (e_r 0) a_nil)) (e_ald (e_getR 7 0 (e_r 0)) (e_k (nI 2)))))))
    (s_seq (s_callV M_X9_putsBack (a_cr (e_r 0) a_nil))
    (s_retI (e_i 5)))))))))
def M_X9_ifDone : sSem := m_ofV 7 4 B_X9_ifDone
set_option maxRecDepth 100000 in
set_option maxHeartbeats 4000000 in
theorem S_X9_ifDone : sSS (cX9_ifDone, wsX9_ifDone, RX9, (some .int), 5, 120, 6, vwCl, RX6, false) 0 0 B_X9_ifDone :=
  (ss_seq (pcA := 20) (ss_if (pcT := 18) (pcF := 20) (sc_or (pcA := 9) (sc_not (sc_Fne0 (pcB := 6) (se_callSI (pcA := 3) (index := 51) (sa_ci (pcA := 1) (se_iload_n dX9_ifDone_0 rfl rfl) (sa_ci (pcA := 2) (se_iconst dX9_ifDone_1 (by decide +kernel) rfl) (sa_ci (pcA := 3) (se_iconst dX9_ifDone_2 (by decide +kernel) rfl) sa_nil))) T_X9_in gX9_ifDone_X9_in rfl (by decide +kernel) (Nat.le_of_ble_eq_true rfl) (Nat.le_of_ble_eq_true rfl) (s_LenI (s_LenI (s_LenI s_Len0))) (Nat.le_of_ble_eq_true rfl) dX9_ifDone_3 rfl) dX9_ifDone_6 rfl rfl)) (sc_not (sc_Tne0 (pcB := 15) (se_callSI (pcA := 12) (index := 51) (sa_ci (pcA := 10) (se_iload_n dX9_ifDone_9 rfl rfl) (sa_ci (pcA := 11) (se_iconst dX9_ifDone_10 (by decide +kernel) rfl) (sa_ci (pcA := 12) (se_iconst dX9_ifDone_11 (by decide +kernel) rfl) sa_nil))) T_X9_in gX9_ifDone_X9_in rfl (by decide +kernel) (Nat.le_of_ble_eq_true rfl) (Nat.le_of_ble_eq_true rfl) (s_LenI (s_LenI (s_LenI s_Len0))) (Nat.le_of_ble_eq_true rfl) dX9_ifDone_12 rfl) dX9_ifDone_15 rfl rfl)))
    (ss_retI (pcA := 19) (se_iconst dX9_ifDone_18 (by decide +kernel) rfl) dX9_ifDone_19 rfl) ss_skip)
    (ss_seq (pcA := 28) (ss_decI (pcA := 26) (se_callVI (pcA := 23) (ci := 7) (index := 231) (sa_cr (pcA := 21) (se_aload_n dX9_ifDone_20 rfl rfl) (sa_ci (pcA := 22) (se_iload_n dX9_ifDone_21 rfl rfl) (sa_ci (pcA := 23) (se_iload_n dX9_ifDone_22 rfl rfl) sa_nil))) T_X9_whyNotDone (s_Rcv_of 7 _ _) rfl gX9_ifDone_X9_whyNotDone rfl (by decide +kernel) (Nat.le_of_ble_eq_true rfl) (Nat.le_of_ble_eq_true rfl) (s_LenR (s_LenI (s_LenI s_Len0))) (Nat.le_of_ble_eq_true rfl) dX9_ifDone_23 rfl) dX9_ifDone_26 (Nat.le_of_ble_eq_true rfl) rfl)
    (ss_seq (pcA := 36) (ss_if (pcT := 33) (pcF := 36) (sc_Flt0 (pcB := 30) (se_iload dX9_ifDone_28 rfl) dX9_ifDone_30 rfl rfl)
    (ss_retI (pcA := 35) (se_iload dX9_ifDone_33 rfl) dX9_ifDone_35 rfl) ss_skip)
    (ss_seq (pcA := 40) (ss_callVV (pcA := 37) (ci := 7) (index := 122) (sa_cr (pcA := 37) (se_aload_n dX9_ifDone_36 rfl rfl) sa_nil) T_X9_putsAside (s_Rcv_of 7 _ _) rfl gX9_ifDone_X9_putsAside rfl (by decide +kernel) (Nat.le_of_ble_eq_true rfl) (Nat.le_of_ble_eq_true rfl) (s_LenR s_Len0) dX9_ifDone_37 rfl)
    (ss_seq (pcA := 48) (ss_decI (pcA := 46) (se_callVI (pcA := 43) (ci := 7) (index := 234) (sa_cr (pcA := 41) (se_aload_n dX9_ifDone_40 rfl rfl) (sa_ci (pcA := 42) (se_iload_n dX9_ifDone_41 rfl rfl) (sa_ci (pcA := 43) (se_iload_n dX9_ifDone_42 rfl rfl) sa_nil))) T_X9_done (s_Rcv_of 7 _ _) rfl gX9_ifDone_X9_done rfl (by decide +kernel) (Nat.le_of_ble_eq_true rfl) (Nat.le_of_ble_eq_true rfl) (s_LenR (s_LenI (s_LenI s_Len0))) (Nat.le_of_ble_eq_true rfl) dX9_ifDone_43 rfl) dX9_ifDone_46 (Nat.le_of_ble_eq_true rfl) rfl)
    (ss_seq (pcA := 92) (ss_setI (pcA := 90) (se_if (pcT := 52) (pcF := 59) (pcG := 56) (sc_Feq0 (pcB := 49) (se_iload_n dX9_ifDone_48 rfl rfl) dX9_ifDone_49 rfl rfl) (se_callVI (pcA := 53) (ci := 7) (index := 215) (sa_cr (pcA := 53) (se_aload_n dX9_ifDone_52 rfl rfl) sa_nil) T_X9_pairs (s_Rcv_of 7 _ _) rfl gX9_ifDone_X9_pairs rfl (by decide +kernel) (Nat.le_of_ble_eq_true rfl) (Nat.le_of_ble_eq_true rfl) (s_LenR s_Len0) (Nat.le_of_ble_eq_true rfl) dX9_ifDone_53 rfl) dX9_ifDone_56 rfl (se_if (pcT := 64) (pcF := 72) (pcG := 69) (sc_Feq (pcA := 60) (pcB := 61) (se_iload_n dX9_ifDone_59 rfl rfl) (se_iconst dX9_ifDone_60 (by decide +kernel) rfl) dX9_ifDone_61 rfl rfl) (se_callVI (pcA := 66) (ci := 7) (index := 218) (sa_cr (pcA := 65) (se_aload_n dX9_ifDone_64 rfl rfl) (sa_ci (pcA := 66) (se_iconst dX9_ifDone_65 (by decide +kernel) rfl) sa_nil)) T_X9_families (s_Rcv_of 7 _ _) rfl gX9_ifDone_X9_families rfl (by decide +kernel) (Nat.le_of_ble_eq_true rfl) (Nat.le_of_ble_eq_true rfl) (s_LenR (s_LenI s_Len0)) (Nat.le_of_ble_eq_true rfl) dX9_ifDone_66 rfl) dX9_ifDone_69 rfl (se_if (pcT := 77) (pcF := 84) (pcG := 81) (sc_Feq (pcA := 73) (pcB := 74) (se_iload_n dX9_ifDone_72 rfl rfl) (se_iconst dX9_ifDone_73 (by decide +kernel) rfl) dX9_ifDone_74 rfl rfl) (se_callVI (pcA := 78) (ci := 7) (index := 237) (sa_cr (pcA := 78) (se_aload_n dX9_ifDone_77 rfl rfl) sa_nil) T_X9_longestOf (s_Rcv_of 7 _ _) rfl gX9_ifDone_X9_longestOf rfl (by decide +kernel) (Nat.le_of_ble_eq_true rfl) (Nat.le_of_ble_eq_true rfl) (s_LenR s_Len0) (Nat.le_of_ble_eq_true rfl) dX9_ifDone_78 rfl) dX9_ifDone_81 rfl (se_ald (pcA := 88) (pcB := 89) (se_getR (pcA := 85) (T := TX9) (k := 0) (index := 7) (se_aload_n dX9_ifDone_84 rfl rfl) rfl in_X9_ifDone_X9 (Nat.le_of_ble_eq_true rfl) lk_X9_ifDone_7 rfl dX9_ifDone_85 rfl) (se_iconst dX9_ifDone_88 (by decide +kernel) rfl) dX9_ifDone_89 rfl)))) dX9_ifDone_90 (Nat.le_of_ble_eq_true rfl) rfl)
    (ss_seq (pcA := 96) (ss_callVV (pcA := 93) (ci := 7) (index := 129) (sa_cr (pcA := 93) (se_aload_n dX9_ifDone_92 rfl rfl) sa_nil) T_X9_putsBack (s_Rcv_of 7 _ _) rfl gX9_ifDone_X9_putsBack rfl (by decide +kernel) (Nat.le_of_ble_eq_true rfl) (Nat.le_of_ble_eq_true rfl) (s_LenR s_Len0) dX9_ifDone_93 rfl)
    (ss_retI (pcA := 98) (se_iload dX9_ifDone_96 rfl) dX9_ifDone_98 rfl))))))))
theorem T_X9_ifDone : sMet vwCl RX6 yX9_ifDone wsX9_ifDone 5 120 M_X9_ifDone := sMet_of rfl (by decide +kernel) rfl rfl (fun h => by cases h) (m_ofV_run _ _ _) S_X9_ifDone (m_ofV_cat _ _ _ (Nat.le_of_ble_eq_true rfl))
theorem in_X9_longest_X9 : ∀ w ∈ u_ws RX9 TX9 18, w ∈ wsX9_longest := by decide +kernel
theorem lk_X9_longest_7 : Cond.fieldLink RX9 7 RX9 "s" "[I" ∈ wsX9_longest := by decide +kernel
abbrev C_X9_longest_1 : sCd := (c_cmp i_lt (e_i 4) (e_ald (e_getR 7 0 (e_r 0)) (e_k (nI 2))))
abbrev W_X9_longest_1 : sStm :=
  (s_seq (s_if (c_and (c_cmp0 i_ne (e_callI M_X9_finds (a_cr (e_r 0) (a_ci (e_i 3) (a_ci (e_i 4) (a_ci (e_k (nI 0)) a_nil)))))) (c_cmp i_eq (e_callI M_X9_measure (a_cr (e_r 0) (a_ci (e_i 3) (a_ci (e_i 4) (a_ci (e_k (nI 0)) a_nil))))) (e_i 2)))
    (s_retI (e_if (c_cmp0 i_eq (e_i 1)) (e_i 2) (e_if (c_cmp i_eq (e_i 1) (e_k (nI 1))) (e_i 3) (e_i 4)))) s_skip)
    (s_inc 4 (nI 1)))
abbrev C_X9_longest_2 : sCd := (c_cmp i_lt (e_i 3) (e_ald (e_getR 7 0 (e_r 0)) (e_k (nI 2))))
abbrev W_X9_longest_2 : sStm :=
  (s_seq (s_blk 4 (s_seq (s_decI 4 (e_i 3))
    (s_while C_X9_longest_1 W_X9_longest_1)))
    (s_inc 3 (nI 1)))
def B_X9_longest : sStm :=
  (s_seq (s_if (c_not (c_cmp0 i_ne (e_callI M_X9_in (a_ci (e_i 1) (a_ci (e_k (nI 0)) (a_ci (e_k (nI 2)) a_nil))))))
    (s_retI (e_k (-1))) s_skip)
    (s_seq (s_decI 2 (e_callI M_X9_longestOf (a_cr (e_r 0) a_nil)))
    (s_seq (s_blk 3 (s_seq (s_decI 3 (e_k (nI 0)))
    (s_while C_X9_longest_2 W_X9_longest_2)))
    (s_retI (e_k (-4))))))
def M_X9_longest : sSem := m_ofV 7 2 B_X9_longest
set_option maxRecDepth 100000 in
set_option maxHeartbeats 4000000 in
theorem S_X9_longest : sSS (cX9_longest, wsX9_longest, RX9, (some .int), 5, 120, 5, vwCl, RX6, false) 0 0 B_X9_longest :=
  (ss_seq (pcA := 11) (ss_if (pcT := 9) (pcF := 11) (sc_not (sc_Tne0 (pcB := 6) (se_callSI (pcA := 3) (index := 51) (sa_ci (pcA := 1) (se_iload_n dX9_longest_0 rfl rfl) (sa_ci (pcA := 2) (se_iconst dX9_longest_1 (by decide +kernel) rfl) (sa_ci (pcA := 3) (se_iconst dX9_longest_2 (by decide +kernel) rfl) sa_nil))) T_X9_in gX9_longest_X9_in rfl (by decide +kernel) (Nat.le_of_ble_eq_true rfl) (Nat.le_of_ble_eq_true rfl) (s_LenI (s_LenI (s_LenI s_Len0))) (Nat.le_of_ble_eq_true rfl) dX9_longest_3 rfl) dX9_longest_6 rfl rfl))
    (ss_retI (pcA := 10) (se_iconst dX9_longest_9 (by decide +kernel) rfl) dX9_longest_10 rfl) ss_skip)
    (ss_seq (pcA := 16) (ss_decI_n (pcA := 15) (se_callVI (pcA := 12) (ci := 7) (index := 237) (sa_cr (pcA := 12) (se_aload_n dX9_longest_11 rfl rfl) sa_nil) T_X9_longestOf (s_Rcv_of 7 _ _) rfl gX9_longest_X9_longestOf rfl (by decide +kernel) (Nat.le_of_ble_eq_true rfl) (Nat.le_of_ble_eq_true rfl) (s_LenR s_Len0) (Nat.le_of_ble_eq_true rfl) dX9_longest_12 rfl) dX9_longest_15 rfl (Nat.le_of_ble_eq_true rfl) rfl)
    (ss_seq (pcA := 97) (ss_blk (ss_seq (pcA := 18) (ss_decI_n (pcA := 17) (se_iconst dX9_longest_16 (by decide +kernel) rfl) dX9_longest_17 rfl (Nat.le_of_ble_eq_true rfl) rfl)
    (ss_while (pcB := 28) (sc_Flt (pcA := 19) (pcB := 25) (se_iload_n dX9_longest_18 rfl rfl) (se_ald (pcA := 23) (pcB := 24) (se_getR (pcA := 20) (T := TX9) (k := 0) (index := 7) (se_aload_n dX9_longest_19 rfl rfl) rfl in_X9_longest_X9 (Nat.le_of_ble_eq_true rfl) lk_X9_longest_7 rfl dX9_longest_20 rfl) (se_iconst dX9_longest_23 (by decide +kernel) rfl) dX9_longest_24 rfl) dX9_longest_25 rfl rfl)
    (ss_seq (pcA := 91) (ss_blk (ss_seq (pcA := 31) (ss_decI (pcA := 29) (se_iload_n dX9_longest_28 rfl rfl) dX9_longest_29 (Nat.le_of_ble_eq_true rfl) rfl)
    (ss_while (pcB := 42) (sc_Flt (pcA := 33) (pcB := 39) (se_iload dX9_longest_31 rfl) (se_ald (pcA := 37) (pcB := 38) (se_getR (pcA := 34) (T := TX9) (k := 0) (index := 7) (se_aload_n dX9_longest_33 rfl rfl) rfl in_X9_longest_X9 (Nat.le_of_ble_eq_true rfl) lk_X9_longest_7 rfl dX9_longest_34 rfl) (se_iconst dX9_longest_37 (by decide +kernel) rfl) dX9_longest_38 rfl) dX9_longest_39 rfl rfl)
    (ss_seq (pcA := 85) (ss_if (pcT := 65) (pcF := 85) (sc_and (pcA := 53) (sc_Fne0 (pcB := 50) (se_callVI (pcA := 47) (ci := 7) (index := 196) (sa_cr (pcA := 43) (se_aload_n dX9_longest_42 rfl rfl) (sa_ci (pcA := 44) (se_iload_n dX9_longest_43 rfl rfl) (sa_ci (pcA := 46) (se_iload dX9_longest_44 rfl) (sa_ci (pcA := 47) (se_iconst dX9_longest_46 (by decide +kernel) rfl) sa_nil)))) T_X9_finds (s_Rcv_of 7 _ _) rfl gX9_longest_X9_finds rfl (by decide +kernel) (Nat.le_of_ble_eq_true rfl) (Nat.le_of_ble_eq_true rfl) (s_LenR (s_LenI (s_LenI (s_LenI s_Len0)))) (Nat.le_of_ble_eq_true rfl) dX9_longest_47 rfl) dX9_longest_50 rfl rfl) (sc_Feq (pcA := 61) (pcB := 62) (se_callVI (pcA := 58) (ci := 7) (index := 199) (sa_cr (pcA := 54) (se_aload_n dX9_longest_53 rfl rfl) (sa_ci (pcA := 55) (se_iload_n dX9_longest_54 rfl rfl) (sa_ci (pcA := 57) (se_iload dX9_longest_55 rfl) (sa_ci (pcA := 58) (se_iconst dX9_longest_57 (by decide +kernel) rfl) sa_nil)))) T_X9_measure (s_Rcv_of 7 _ _) rfl gX9_longest_X9_measure rfl (by decide +kernel) (Nat.le_of_ble_eq_true rfl) (Nat.le_of_ble_eq_true rfl) (s_LenR (s_LenI (s_LenI (s_LenI s_Len0)))) (Nat.le_of_ble_eq_true rfl) dX9_longest_58 rfl) (se_iload_n dX9_longest_61 rfl rfl) dX9_longest_62 rfl rfl))
    (ss_retI (pcA := 84) (se_if (pcT := 69) (pcF := 73) (pcG := 70) (sc_Feq0 (pcB := 66) (se_iload_n dX9_longest_65 rfl rfl) dX9_longest_66 rfl rfl) (se_iload_n dX9_longest_69 rfl rfl) dX9_longest_70 rfl (se_if (pcT := 78) (pcF := 82) (pcG := 79) (sc_Feq (pcA := 74) (pcB := 75) (se_iload_n dX9_longest_73 rfl rfl) (se_iconst dX9_longest_74 (by decide +kernel) rfl) dX9_longest_75 rfl rfl) (se_iload_n dX9_longest_78 rfl rfl) dX9_longest_79 rfl (se_iload dX9_longest_82 rfl))) dX9_longest_84 rfl) ss_skip)
    (ss_goto (pcG := 88) (ss_inc dX9_longest_85 (Nat.le_of_ble_eq_true rfl) (by decide +kernel) rfl) dX9_longest_88 rfl)))))
    (ss_goto (pcG := 94) (ss_inc dX9_longest_91 (Nat.le_of_ble_eq_true rfl) (by decide +kernel) rfl) dX9_longest_94 rfl)))))
    (ss_retI (pcA := 99) (se_bipush dX9_longest_97 (by decide +kernel) rfl) dX9_longest_99 rfl))))
theorem T_X9_longest : sMet vwCl RX6 yX9_longest wsX9_longest 5 120 M_X9_longest := sMet_of rfl (by decide +kernel) rfl rfl (fun h => by cases h) (m_ofV_run _ _ _) S_X9_longest (m_ofV_cat _ _ _ (Nat.le_of_ble_eq_true rfl))
def B_X9_pairsWithout : sStm :=
  (s_seq (s_callV M_X9_putsAside (a_cr (e_r 0) a_nil))
    (s_seq (s_decI 3 (e_callI M_X9_strikes (a_cr (e_r 0) (a_ci (e_i 1) (a_ci (e_i 2) a_nil)))))
    (s_seq (s_decI 4 (e_if (c_cmp i_lt (e_i 3) (e_k (nI 1))) (e_i 3) (e_callI M_X9_pairs (a_cr (e_r 0) a_nil))))
    (s_seq (s_callV M_X9_putsBack (a_cr (e_r 0) a_nil))
    (s_retI (e_i 4))))))
def M_X9_pairsWithout : sSem := m_ofV 7 3 B_X9_pairsWithout
set_option maxRecDepth 100000 in
set_option maxHeartbeats 4000000 in
theorem S_X9_pairsWithout : sSS (cX9_pairsWithout, wsX9_pairsWithout, RX9, (some .int), 4, 93, 5, vwCl, RX6, false) 0 0 B_X9_pairsWithout :=
  (ss_seq (pcA := 4) (ss_callVV (pcA := 1) (ci := 7) (index := 122) (sa_cr (pcA := 1) (se_aload_n dX9_pairsWithout_0 rfl rfl) sa_nil) T_X9_putsAside (s_Rcv_of 7 _ _) rfl gX9_pairsWithout_X9_putsAside rfl (by decide +kernel) (Nat.le_of_ble_eq_true rfl) (Nat.le_of_ble_eq_true rfl) (s_LenR s_Len0) dX9_pairsWithout_1 rfl)
    (ss_seq (pcA := 11) (ss_decI_n (pcA := 10) (se_callVI (pcA := 7) (ci := 7) (index := 115) (sa_cr (pcA := 5) (se_aload_n dX9_pairsWithout_4 rfl rfl) (sa_ci (pcA := 6) (se_iload_n dX9_pairsWithout_5 rfl rfl) (sa_ci (pcA := 7) (se_iload_n dX9_pairsWithout_6 rfl rfl) sa_nil))) T_X9_strikes (s_Rcv_of 7 _ _) rfl gX9_pairsWithout_X9_strikes rfl (by decide +kernel) (Nat.le_of_ble_eq_true rfl) (Nat.le_of_ble_eq_true rfl) (s_LenR (s_LenI (s_LenI s_Len0))) (Nat.le_of_ble_eq_true rfl) dX9_pairsWithout_7 rfl) dX9_pairsWithout_10 rfl (Nat.le_of_ble_eq_true rfl) rfl)
    (ss_seq (pcA := 26) (ss_decI (pcA := 24) (se_if (pcT := 16) (pcF := 20) (pcG := 17) (sc_Flt (pcA := 12) (pcB := 13) (se_iload_n dX9_pairsWithout_11 rfl rfl) (se_iconst dX9_pairsWithout_12 (by decide +kernel) rfl) dX9_pairsWithout_13 rfl rfl) (se_iload_n dX9_pairsWithout_16 rfl rfl) dX9_pairsWithout_17 rfl (se_callVI (pcA := 21) (ci := 7) (index := 215) (sa_cr (pcA := 21) (se_aload_n dX9_pairsWithout_20 rfl rfl) sa_nil) T_X9_pairs (s_Rcv_of 7 _ _) rfl gX9_pairsWithout_X9_pairs rfl (by decide +kernel) (Nat.le_of_ble_eq_true rfl) (Nat.le_of_ble_eq_true rfl) (s_LenR s_Len0) (Nat.le_of_ble_eq_true rfl) dX9_pairsWithout_21 rfl)) dX9_pairsWithout_24 (Nat.le_of_ble_eq_true rfl) rfl)
    (ss_seq (pcA := 30) (ss_callVV (pcA := 27) (ci := 7) (index := 129) (sa_cr (pcA := 27) (se_aload_n dX9_pairsWithout_26 rfl rfl) sa_nil) T_X9_putsBack (s_Rcv_of 7 _ _) rfl gX9_pairsWithout_X9_putsBack rfl (by decide +kernel) (Nat.le_of_ble_eq_true rfl) (Nat.le_of_ble_eq_true rfl) (s_LenR s_Len0) dX9_pairsWithout_27 rfl)
    (ss_retI (pcA := 32) (se_iload dX9_pairsWithout_30 rfl) dX9_pairsWithout_32 rfl)))))
theorem T_X9_pairsWithout : sMet vwCl RX6 yX9_pairsWithout wsX9_pairsWithout 4 93 M_X9_pairsWithout := sMet_of rfl (by decide +kernel) rfl rfl (fun h => by cases h) (m_ofV_run _ _ _) S_X9_pairsWithout (m_ofV_cat _ _ _ (Nat.le_of_ble_eq_true rfl))
theorem in_X9_bestStrike_X9 : ∀ w ∈ u_ws RX9 TX9 18, w ∈ wsX9_bestStrike := by decide +kernel
theorem lk_X9_bestStrike_7 : Cond.fieldLink RX9 7 RX9 "s" "[I" ∈ wsX9_bestStrike := by decide +kernel
abbrev C_X9_bestStrike_1 : sCd := (c_cmp i_lt (e_i 5) (e_callI M_X9_factors (a_ci (e_callI M_X9_of (a_cr (e_r 0) (a_ci (e_i 3) a_nil))) (a_ci (e_k (nI 1)) a_nil))))
abbrev W_X9_bestStrike_1 : sStm :=
  (s_seq (s_if (c_cmp i_ne (e_callI M_X9_factorOf (a_ci (e_callI M_X9_of (a_cr (e_r 0) (a_ci (e_i 3) a_nil))) (a_ci (e_i 5) a_nil))) (e_i 4))
    (s_blk 6 (s_seq (s_setI 4 (e_callI M_X9_factorOf (a_ci (e_callI M_X9_of (a_cr (e_r 0) (a_ci (e_i 3) a_nil))) (a_ci (e_i 5) a_nil))))
    (s_seq (s_decI 6 (e_callI M_X9_pairsWithout (a_cr (e_r 0) (a_ci (e_i 3) (a_ci (e_i 4) a_nil)))))
    (s_seq (s_setI 1 (e_if (c_or (c_cmp0 i_lt (e_i 1)) (c_cmp i_gt (e_i 6) (e_i 2))) (e_add (e_mul (e_k (nI 10000)) (e_i 3)) (e_i 4)) (e_i 1)))
    (s_setI 2 (e_if (c_cmp i_gt (e_i 6) (e_i 2)) (e_i 6) (e_i 2))))))) s_skip)
    (s_inc 5 (nI 1)))
abbrev C_X9_bestStrike_2 : sCd := (c_cmp i_lt (e_i 3) (e_ald (e_getR 7 0 (e_r 0)) (e_k (nI 2))))
abbrev W_X9_bestStrike_2 : sStm :=
  (s_seq (s_blk 4 (s_seq (s_decI 4 (e_k (nI 0)))
    (s_blk 5 (s_seq (s_decI 5 (e_k (nI 0)))
    (s_while C_X9_bestStrike_1 W_X9_bestStrike_1)))))
    (s_inc 3 (nI 1)))
def B_X9_bestStrike : sStm :=
  (s_seq (s_decI 1 (e_k (-4)))
    (s_seq (s_decI 2 (e_k (nI 0)))
    (s_seq (s_blk 3 (s_seq (s_decI 3 (e_k (nI 0)))
    (s_while C_X9_bestStrike_2 W_X9_bestStrike_2)))
    (s_retI (e_i 1)))))
def M_X9_bestStrike : sSem := m_ofV 7 1 B_X9_bestStrike
set_option maxRecDepth 100000 in
set_option maxHeartbeats 4000000 in
theorem S_X9_bestStrike : sSS (cX9_bestStrike, wsX9_bestStrike, RX9, (some .int), 5, 117, 7, vwCl, RX6, false) 0 0 B_X9_bestStrike :=
  (ss_seq (pcA := 3) (ss_decI_n (pcA := 2) (se_bipush dX9_bestStrike_0 (by decide +kernel) rfl) dX9_bestStrike_2 rfl (Nat.le_of_ble_eq_true rfl) rfl)
    (ss_seq (pcA := 5) (ss_decI_n (pcA := 4) (se_iconst dX9_bestStrike_3 (by decide +kernel) rfl) dX9_bestStrike_4 rfl (Nat.le_of_ble_eq_true rfl) rfl)
    (ss_seq (pcA := 121) (ss_blk (ss_seq (pcA := 7) (ss_decI_n (pcA := 6) (se_iconst dX9_bestStrike_5 (by decide +kernel) rfl) dX9_bestStrike_6 rfl (Nat.le_of_ble_eq_true rfl) rfl)
    (ss_while (pcB := 17) (sc_Flt (pcA := 8) (pcB := 14) (se_iload_n dX9_bestStrike_7 rfl rfl) (se_ald (pcA := 12) (pcB := 13) (se_getR (pcA := 9) (T := TX9) (k := 0) (index := 7) (se_aload_n dX9_bestStrike_8 rfl rfl) rfl in_X9_bestStrike_X9 (Nat.le_of_ble_eq_true rfl) lk_X9_bestStrike_7 rfl dX9_bestStrike_9 rfl) (se_iconst dX9_bestStrike_12 (by decide +kernel) rfl) dX9_bestStrike_13 rfl) dX9_bestStrike_14 rfl rfl)
    (ss_seq (pcA := 115) (ss_blk (ss_seq (pcA := 20) (ss_decI (pcA := 18) (se_iconst dX9_bestStrike_17 (by decide +kernel) rfl) dX9_bestStrike_18 (Nat.le_of_ble_eq_true rfl) rfl)
    (ss_blk (ss_seq (pcA := 23) (ss_decI (pcA := 21) (se_iconst dX9_bestStrike_20 (by decide +kernel) rfl) dX9_bestStrike_21 (Nat.le_of_ble_eq_true rfl) rfl)
    (ss_while (pcB := 37) (sc_Flt (pcA := 25) (pcB := 34) (se_iload dX9_bestStrike_23 rfl) (se_callSI (pcA := 31) (index := 171) (sa_ci (pcA := 30) (se_callVI (pcA := 27) (ci := 7) (index := 59) (sa_cr (pcA := 26) (se_aload_n dX9_bestStrike_25 rfl rfl) (sa_ci (pcA := 27) (se_iload_n dX9_bestStrike_26 rfl rfl) sa_nil)) T_X9_of (s_Rcv_of 7 _ _) rfl gX9_bestStrike_X9_of rfl (by decide +kernel) (Nat.le_of_ble_eq_true rfl) (Nat.le_of_ble_eq_true rfl) (s_LenR (s_LenI s_Len0)) (Nat.le_of_ble_eq_true rfl) dX9_bestStrike_27 rfl) (sa_ci (pcA := 31) (se_iconst dX9_bestStrike_30 (by decide +kernel) rfl) sa_nil)) T_X9_factors gX9_bestStrike_X9_factors rfl (by decide +kernel) (Nat.le_of_ble_eq_true rfl) (Nat.le_of_ble_eq_true rfl) (s_LenI (s_LenI s_Len0)) (Nat.le_of_ble_eq_true rfl) dX9_bestStrike_31 rfl) dX9_bestStrike_34 rfl rfl)
    (ss_seq (pcA := 109) (ss_if (pcT := 52) (pcF := 109) (sc_Fne (pcA := 47) (pcB := 49) (se_callSI (pcA := 44) (index := 175) (sa_ci (pcA := 42) (se_callVI (pcA := 39) (ci := 7) (index := 59) (sa_cr (pcA := 38) (se_aload_n dX9_bestStrike_37 rfl rfl) (sa_ci (pcA := 39) (se_iload_n dX9_bestStrike_38 rfl rfl) sa_nil)) T_X9_of (s_Rcv_of 7 _ _) rfl gX9_bestStrike_X9_of rfl (by decide +kernel) (Nat.le_of_ble_eq_true rfl) (Nat.le_of_ble_eq_true rfl) (s_LenR (s_LenI s_Len0)) (Nat.le_of_ble_eq_true rfl) dX9_bestStrike_39 rfl) (sa_ci (pcA := 44) (se_iload dX9_bestStrike_42 rfl) sa_nil)) T_X9_factorOf gX9_bestStrike_X9_factorOf rfl (by decide +kernel) (Nat.le_of_ble_eq_true rfl) (Nat.le_of_ble_eq_true rfl) (s_LenI (s_LenI s_Len0)) (Nat.le_of_ble_eq_true rfl) dX9_bestStrike_44 rfl) (se_iload dX9_bestStrike_47 rfl) dX9_bestStrike_49 rfl rfl)
    (ss_blk (ss_seq (pcA := 64) (ss_setI (pcA := 62) (se_callSI (pcA := 59) (index := 175) (sa_ci (pcA := 57) (se_callVI (pcA := 54) (ci := 7) (index := 59) (sa_cr (pcA := 53) (se_aload_n dX9_bestStrike_52 rfl rfl) (sa_ci (pcA := 54) (se_iload_n dX9_bestStrike_53 rfl rfl) sa_nil)) T_X9_of (s_Rcv_of 7 _ _) rfl gX9_bestStrike_X9_of rfl (by decide +kernel) (Nat.le_of_ble_eq_true rfl) (Nat.le_of_ble_eq_true rfl) (s_LenR (s_LenI s_Len0)) (Nat.le_of_ble_eq_true rfl) dX9_bestStrike_54 rfl) (sa_ci (pcA := 59) (se_iload dX9_bestStrike_57 rfl) sa_nil)) T_X9_factorOf gX9_bestStrike_X9_factorOf rfl (by decide +kernel) (Nat.le_of_ble_eq_true rfl) (Nat.le_of_ble_eq_true rfl) (s_LenI (s_LenI s_Len0)) (Nat.le_of_ble_eq_true rfl) dX9_bestStrike_59 rfl) dX9_bestStrike_62 (Nat.le_of_ble_eq_true rfl) rfl)
    (ss_seq (pcA := 73) (ss_decI (pcA := 71) (se_callVI (pcA := 68) (ci := 7) (index := 240) (sa_cr (pcA := 65) (se_aload_n dX9_bestStrike_64 rfl rfl) (sa_ci (pcA := 66) (se_iload_n dX9_bestStrike_65 rfl rfl) (sa_ci (pcA := 68) (se_iload dX9_bestStrike_66 rfl) sa_nil))) T_X9_pairsWithout (s_Rcv_of 7 _ _) rfl gX9_bestStrike_X9_pairsWithout rfl (by decide +kernel) (Nat.le_of_ble_eq_true rfl) (Nat.le_of_ble_eq_true rfl) (s_LenR (s_LenI (s_LenI s_Len0))) (Nat.le_of_ble_eq_true rfl) dX9_bestStrike_68 rfl) dX9_bestStrike_71 (Nat.le_of_ble_eq_true rfl) rfl)
    (ss_seq (pcA := 96) (ss_setI_n (pcA := 95) (se_if (pcT := 83) (pcF := 94) (pcG := 91) (sc_or (pcA := 77) (sc_Tlt0 (pcB := 74) (se_iload_n dX9_bestStrike_73 rfl rfl) dX9_bestStrike_74 rfl rfl) (sc_Fgt (pcA := 79) (pcB := 80) (se_iload dX9_bestStrike_77 rfl) (se_iload_n dX9_bestStrike_79 rfl rfl) dX9_bestStrike_80 rfl rfl)) (se_add (pcA := 88) (pcB := 90) (se_mul (pcA := 86) (pcB := 87) (se_sipush dX9_bestStrike_83 (by decide +kernel) rfl) (se_iload_n dX9_bestStrike_86 rfl rfl) dX9_bestStrike_87 rfl) (se_iload dX9_bestStrike_88 rfl) dX9_bestStrike_90 rfl) dX9_bestStrike_91 rfl (se_iload_n dX9_bestStrike_94 rfl rfl)) dX9_bestStrike_95 rfl (Nat.le_of_ble_eq_true rfl) rfl)
    (ss_setI_n (pcA := 108) (se_if (pcT := 102) (pcF := 107) (pcG := 104) (sc_Fgt (pcA := 98) (pcB := 99) (se_iload dX9_bestStrike_96 rfl) (se_iload_n dX9_bestStrike_98 rfl rfl) dX9_bestStrike_99 rfl rfl) (se_iload dX9_bestStrike_102 rfl) dX9_bestStrike_104 rfl (se_iload_n dX9_bestStrike_107 rfl rfl)) dX9_bestStrike_108 rfl (Nat.le_of_ble_eq_true rfl) rfl))))) ss_skip)
    (ss_goto (pcG := 112) (ss_inc dX9_bestStrike_109 (Nat.le_of_ble_eq_true rfl) (by decide +kernel) rfl) dX9_bestStrike_112 rfl)))))))
    (ss_goto (pcG := 118) (ss_inc dX9_bestStrike_115 (Nat.le_of_ble_eq_true rfl) (by decide +kernel) rfl) dX9_bestStrike_118 rfl)))))
    (ss_retI (pcA := 122) (se_iload_n dX9_bestStrike_121 rfl rfl) dX9_bestStrike_122 rfl))))
theorem T_X9_bestStrike : sMet vwCl RX6 yX9_bestStrike wsX9_bestStrike 5 117 M_X9_bestStrike := sMet_of rfl (by decide +kernel) rfl rfl (fun h => by cases h) (m_ofV_run _ _ _) S_X9_bestStrike (m_ofV_cat _ _ _ (Nat.le_of_ble_eq_true rfl))
theorem in_X9_undo_X9 : ∀ w ∈ u_ws RX9 TX9 18, w ∈ wsX9_undo := by decide +kernel
theorem lk_X9_undo_47 : Cond.fieldLink RX9 47 RX9 "pasts" "I" ∈ wsX9_undo := by decide +kernel
theorem lk_X9_undo_7 : Cond.fieldLink RX9 7 RX9 "s" "[I" ∈ wsX9_undo := by decide +kernel
theorem lk_X9_undo_13 : Cond.fieldLink RX9 13 RX9 "past" "[I" ∈ wsX9_undo := by decide +kernel
abbrev C_X9_undo_1 : sCd := (c_cmp i_lt (e_i 1) (e_k (nI 1245)))
abbrev W_X9_undo_1 : sStm :=
  (s_seq (s_ast (e_getR 7 0 (e_r 0)) (e_i 1) (e_ald (e_getR 7 1 (e_r 0)) (e_add (e_mul (e_k (nI 1245)) (e_get 7 6 (e_r 0))) (e_i 1))))
    (s_inc 1 (nI 1)))
def B_X9_undo : sStm :=
  (s_seq (s_if (c_cmp0 i_eq (e_get 7 6 (e_r 0)))
    (s_retI (e_k (-2))) s_skip)
    (s_seq (s_putop 7 6 (e_r 0) (fun x z => x - z) (e_k (nI 1)))
    (s_seq (s_blk 1 (s_seq (s_decI 1 (e_k (nI 0)))
    (s_while C_X9_undo_1 W_X9_undo_1)))
    (s_retI (e_get 7 6 (e_r 0))))))
def M_X9_undo : sSem := m_ofV 7 1 B_X9_undo
set_option maxRecDepth 100000 in
set_option maxHeartbeats 4000000 in
theorem S_X9_undo : sSS (cX9_undo, wsX9_undo, RX9, (some .int), 0, 0, 2, vwCl, RX6, false) 0 0 B_X9_undo :=
  (ss_seq (pcA := 10) (ss_if (pcT := 7) (pcF := 10) (sc_Feq0 (pcB := 4) (se_get (pcA := 1) (T := TX9) (k := 6) (index := 47) (se_aload_n dX9_undo_0 rfl rfl) rfl in_X9_undo_X9 (Nat.le_of_ble_eq_true rfl) lk_X9_undo_47 rfl dX9_undo_1 rfl) dX9_undo_4 rfl rfl)
    (ss_retI (pcA := 9) (se_bipush dX9_undo_7 (by decide +kernel) rfl) dX9_undo_9 rfl) ss_skip)
    (ss_seq (pcA := 20) (ss_putop (pcA := 11) (pcD := 12) (pcG := 15) (pcB := 16) (pcO := 17) (T := TX9) (index := 47) (se_aload_n dX9_undo_10 rfl rfl) dX9_undo_11 rfl rfl in_X9_undo_X9 tyX9 tyX9_ok nmX9 (Nat.le_of_ble_eq_true rfl) lk_X9_undo_47 rfl dX9_undo_12 rfl (se_iconst dX9_undo_15 (by decide +kernel) rfl) (Or.inr ⟨dX9_undo_16, rfl⟩) rfl rfl rfl dX9_undo_17 rfl)
    (ss_seq (pcA := 56) (ss_blk (ss_seq (pcA := 22) (ss_decI_n (pcA := 21) (se_iconst dX9_undo_20 (by decide +kernel) rfl) dX9_undo_21 rfl (Nat.le_of_ble_eq_true rfl) rfl)
    (ss_while (pcB := 29) (sc_Flt (pcA := 23) (pcB := 26) (se_iload_n dX9_undo_22 rfl rfl) (se_sipush dX9_undo_23 (by decide +kernel) rfl) dX9_undo_26 rfl rfl)
    (ss_seq (pcA := 50) (ss_ast (pcA := 33) (pcI := 34) (pcB := 49) (se_getR (pcA := 30) (T := TX9) (k := 0) (index := 7) (se_aload_n dX9_undo_29 rfl rfl) rfl in_X9_undo_X9 (Nat.le_of_ble_eq_true rfl) lk_X9_undo_7 rfl dX9_undo_30 rfl) (se_iload_n dX9_undo_33 rfl rfl) (se_ald (pcA := 38) (pcB := 48) (se_getR (pcA := 35) (T := TX9) (k := 1) (index := 13) (se_aload_n dX9_undo_34 rfl rfl) rfl in_X9_undo_X9 (Nat.le_of_ble_eq_true rfl) lk_X9_undo_13 rfl dX9_undo_35 rfl) (se_add (pcA := 46) (pcB := 47) (se_mul (pcA := 41) (pcB := 45) (se_sipush dX9_undo_38 (by decide +kernel) rfl) (se_get (pcA := 42) (T := TX9) (k := 6) (index := 47) (se_aload_n dX9_undo_41 rfl rfl) rfl in_X9_undo_X9 (Nat.le_of_ble_eq_true rfl) lk_X9_undo_47 rfl dX9_undo_42 rfl) dX9_undo_45 rfl) (se_iload_n dX9_undo_46 rfl rfl) dX9_undo_47 rfl) dX9_undo_48 rfl) dX9_undo_49 rfl)
    (ss_goto (pcG := 53) (ss_inc dX9_undo_50 (Nat.le_of_ble_eq_true rfl) (by decide +kernel) rfl) dX9_undo_53 rfl)))))
    (ss_retI (pcA := 60) (se_get (pcA := 57) (T := TX9) (k := 6) (index := 47) (se_aload_n dX9_undo_56 rfl rfl) rfl in_X9_undo_X9 (Nat.le_of_ble_eq_true rfl) lk_X9_undo_47 rfl dX9_undo_57 rfl) dX9_undo_60 rfl))))
theorem T_X9_undo : sMet vwCl RX6 yX9_undo wsX9_undo 0 0 M_X9_undo := sMet_of rfl (by decide +kernel) rfl rfl (fun h => by cases h) (m_ofV_run _ _ _) S_X9_undo (m_ofV_cat _ _ _ (Nat.le_of_ble_eq_true rfl))
theorem in_X9_save_X9 : ∀ w ∈ u_ws RX9 TX9 18, w ∈ wsX9_save := by decide +kernel
theorem lk_X9_save_243 : Cond.fieldLink RX9 243 RX9 "isKept" "Z" ∈ wsX9_save := by decide +kernel
theorem lk_X9_save_16 : Cond.fieldLink RX9 16 RX9 "kept" "[I" ∈ wsX9_save := by decide +kernel
theorem lk_X9_save_7 : Cond.fieldLink RX9 7 RX9 "s" "[I" ∈ wsX9_save := by decide +kernel
abbrev C_X9_save_1 : sCd := (c_cmp i_lt (e_i 1) (e_k (nI 1245)))
abbrev W_X9_save_1 : sStm :=
  (s_seq (s_ast (e_getR 7 2 (e_r 0)) (e_i 1) (e_ald (e_getR 7 0 (e_r 0)) (e_i 1)))
    (s_inc 1 (nI 1)))
def B_X9_save : sStm :=
  (s_seq (s_putZ 7 5 (e_r 0) (e_k (nI 1)))
    (s_seq (s_blk 1 (s_seq (s_decI 1 (e_k (nI 0)))
    (s_while C_X9_save_1 W_X9_save_1)))
    (s_retI (e_ald (e_getR 7 0 (e_r 0)) (e_k (nI 2))))))
def M_X9_save : sSem := m_ofV 7 1 B_X9_save
set_option maxRecDepth 100000 in
set_option maxHeartbeats 4000000 in
theorem S_X9_save : sSS (cX9_save, wsX9_save, RX9, (some .int), 0, 0, 2, vwCl, RX6, false) 0 0 B_X9_save :=
  (ss_seq (pcA := 5) (ss_putZ (pcA := 1) (pcB := 2) (T := TX9) (index := 243) (se_aload_n dX9_save_0 rfl rfl) (se_iconst dX9_save_1 (by decide +kernel) rfl) rfl in_X9_save_X9 tyX9 tyX9_ok nmX9 (Nat.le_of_ble_eq_true rfl) lk_X9_save_243 rfl rfl rfl dX9_save_2 rfl)
    (ss_seq (pcA := 32) (ss_blk (ss_seq (pcA := 7) (ss_decI_n (pcA := 6) (se_iconst dX9_save_5 (by decide +kernel) rfl) dX9_save_6 rfl (Nat.le_of_ble_eq_true rfl) rfl)
    (ss_while (pcB := 14) (sc_Flt (pcA := 8) (pcB := 11) (se_iload_n dX9_save_7 rfl rfl) (se_sipush dX9_save_8 (by decide +kernel) rfl) dX9_save_11 rfl rfl)
    (ss_seq (pcA := 26) (ss_ast (pcA := 18) (pcI := 19) (pcB := 25) (se_getR (pcA := 15) (T := TX9) (k := 2) (index := 16) (se_aload_n dX9_save_14 rfl rfl) rfl in_X9_save_X9 (Nat.le_of_ble_eq_true rfl) lk_X9_save_16 rfl dX9_save_15 rfl) (se_iload_n dX9_save_18 rfl rfl) (se_ald (pcA := 23) (pcB := 24) (se_getR (pcA := 20) (T := TX9) (k := 0) (index := 7) (se_aload_n dX9_save_19 rfl rfl) rfl in_X9_save_X9 (Nat.le_of_ble_eq_true rfl) lk_X9_save_7 rfl dX9_save_20 rfl) (se_iload_n dX9_save_23 rfl rfl) dX9_save_24 rfl) dX9_save_25 rfl)
    (ss_goto (pcG := 29) (ss_inc dX9_save_26 (Nat.le_of_ble_eq_true rfl) (by decide +kernel) rfl) dX9_save_29 rfl)))))
    (ss_retI (pcA := 38) (se_ald (pcA := 36) (pcB := 37) (se_getR (pcA := 33) (T := TX9) (k := 0) (index := 7) (se_aload_n dX9_save_32 rfl rfl) rfl in_X9_save_X9 (Nat.le_of_ble_eq_true rfl) lk_X9_save_7 rfl dX9_save_33 rfl) (se_iconst dX9_save_36 (by decide +kernel) rfl) dX9_save_37 rfl) dX9_save_38 rfl)))
theorem T_X9_save : sMet vwCl RX6 yX9_save wsX9_save 0 0 M_X9_save := sMet_of rfl (by decide +kernel) rfl rfl (fun h => by cases h) (m_ofV_run _ _ _) S_X9_save (m_ofV_cat _ _ _ (Nat.le_of_ble_eq_true rfl))
theorem in_X9_restore_X9 : ∀ w ∈ u_ws RX9 TX9 18, w ∈ wsX9_restore := by decide +kernel
theorem lk_X9_restore_243 : Cond.fieldLink RX9 243 RX9 "isKept" "Z" ∈ wsX9_restore := by decide +kernel
theorem lk_X9_restore_7 : Cond.fieldLink RX9 7 RX9 "s" "[I" ∈ wsX9_restore := by decide +kernel
theorem lk_X9_restore_16 : Cond.fieldLink RX9 16 RX9 "kept" "[I" ∈ wsX9_restore := by decide +kernel
abbrev C_X9_restore_1 : sCd := (c_cmp i_lt (e_i 1) (e_k (nI 1245)))
abbrev W_X9_restore_1 : sStm :=
  (s_seq (s_ast (e_getR 7 0 (e_r 0)) (e_i 1) (e_ald (e_getR 7 2 (e_r 0)) (e_i 1)))
    (s_inc 1 (nI 1)))
def B_X9_restore : sStm :=
  (s_seq (s_if (c_not (c_cmp0 i_ne (e_get 7 5 (e_r 0))))
    (s_retI (e_k (-2))) s_skip)
    (s_seq (s_callV M_X9_changes (a_cr (e_r 0) a_nil))
    (s_seq (s_blk 1 (s_seq (s_decI 1 (e_k (nI 0)))
    (s_while C_X9_restore_1 W_X9_restore_1)))
    (s_retI (e_ald (e_getR 7 0 (e_r 0)) (e_k (nI 2)))))))
def M_X9_restore : sSem := m_ofV 7 1 B_X9_restore
set_option maxRecDepth 100000 in
set_option maxHeartbeats 4000000 in
theorem S_X9_restore : sSS (cX9_restore, wsX9_restore, RX9, (some .int), 1, 21, 2, vwCl, RX6, false) 0 0 B_X9_restore :=
  (ss_seq (pcA := 10) (ss_if (pcT := 7) (pcF := 10) (sc_not (sc_Tne0 (pcB := 4) (se_get (pcA := 1) (T := TX9) (k := 5) (index := 243) (se_aload_n dX9_restore_0 rfl rfl) rfl in_X9_restore_X9 (Nat.le_of_ble_eq_true rfl) lk_X9_restore_243 rfl dX9_restore_1 rfl) dX9_restore_4 rfl rfl))
    (ss_retI (pcA := 9) (se_bipush dX9_restore_7 (by decide +kernel) rfl) dX9_restore_9 rfl) ss_skip)
    (ss_seq (pcA := 14) (ss_callVV (pcA := 11) (ci := 7) (index := 79) (sa_cr (pcA := 11) (se_aload_n dX9_restore_10 rfl rfl) sa_nil) T_X9_changes (s_Rcv_of 7 _ _) rfl gX9_restore_X9_changes rfl (by decide +kernel) (Nat.le_of_ble_eq_true rfl) (Nat.le_of_ble_eq_true rfl) (s_LenR s_Len0) dX9_restore_11 rfl)
    (ss_seq (pcA := 41) (ss_blk (ss_seq (pcA := 16) (ss_decI_n (pcA := 15) (se_iconst dX9_restore_14 (by decide +kernel) rfl) dX9_restore_15 rfl (Nat.le_of_ble_eq_true rfl) rfl)
    (ss_while (pcB := 23) (sc_Flt (pcA := 17) (pcB := 20) (se_iload_n dX9_restore_16 rfl rfl) (se_sipush dX9_restore_17 (by decide +kernel) rfl) dX9_restore_20 rfl rfl)
    (ss_seq (pcA := 35) (ss_ast (pcA := 27) (pcI := 28) (pcB := 34) (se_getR (pcA := 24) (T := TX9) (k := 0) (index := 7) (se_aload_n dX9_restore_23 rfl rfl) rfl in_X9_restore_X9 (Nat.le_of_ble_eq_true rfl) lk_X9_restore_7 rfl dX9_restore_24 rfl) (se_iload_n dX9_restore_27 rfl rfl) (se_ald (pcA := 32) (pcB := 33) (se_getR (pcA := 29) (T := TX9) (k := 2) (index := 16) (se_aload_n dX9_restore_28 rfl rfl) rfl in_X9_restore_X9 (Nat.le_of_ble_eq_true rfl) lk_X9_restore_16 rfl dX9_restore_29 rfl) (se_iload_n dX9_restore_32 rfl rfl) dX9_restore_33 rfl) dX9_restore_34 rfl)
    (ss_goto (pcG := 38) (ss_inc dX9_restore_35 (Nat.le_of_ble_eq_true rfl) (by decide +kernel) rfl) dX9_restore_38 rfl)))))
    (ss_retI (pcA := 47) (se_ald (pcA := 45) (pcB := 46) (se_getR (pcA := 42) (T := TX9) (k := 0) (index := 7) (se_aload_n dX9_restore_41 rfl rfl) rfl in_X9_restore_X9 (Nat.le_of_ble_eq_true rfl) lk_X9_restore_7 rfl dX9_restore_42 rfl) (se_iconst dX9_restore_45 (by decide +kernel) rfl) dX9_restore_46 rfl) dX9_restore_47 rfl))))
theorem T_X9_restore : sMet vwCl RX6 yX9_restore wsX9_restore 1 21 M_X9_restore := sMet_of rfl (by decide +kernel) rfl rfl (fun h => by cases h) (m_ofV_run _ _ _) S_X9_restore (m_ofV_cat _ _ _ (Nat.le_of_ble_eq_true rfl))
