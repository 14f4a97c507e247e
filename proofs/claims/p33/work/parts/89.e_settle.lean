/-! THE LAW'S SETTLE (own work): a row of its own is made behind all, and kept -/
def hp (σ : sSt) (f : Nat → Int32) : sSt := (σ.1 ++ [kI 12 f], σ.2 + 12)
section
variable {σ : sSt} {M : tM} {S : tS} {f : Nat → Int32}
theorem hp_len : (hp σ f).1.length = σ.1.length + 1 := by
  show (σ.1 ++ [_]).length = _
  rw [List.length_append]
  rfl
theorem hp_le (hσ : 65 ≤ σ.1.length) : 65 ≤ (hp σ f).1.length := by rw [hp_len]; omega
theorem hp_mp (hσ : 65 ≤ σ.1.length) : mp (hp σ f) M = ((mp σ M).1 ++ [kI 12 f], (mp σ M).2 + 12) := by
  refine Prod.ext ?_ rfl
  show (σ.1 ++ [kI 12 f]).take 60 ++ (mC M ++ (σ.1 ++ [kI 12 f]).drop 65) = (σ.1.take 60 ++ (mC M ++ σ.1.drop 65)) ++ [kI 12 f]
  rw [List.take_append_of_le_length (by omega), List.drop_append_of_le_length (by omega), List.append_assoc, List.append_assoc]
theorem hp_a (hσ : 65 ≤ σ.1.length) : h_arr (mp (hp σ f) M) (some σ.1.length) = some (12, f) := by
  refine h_arr_eq ?_
  rw [hp_mp hσ]
  show ((mp σ M).1 ++ [kI 12 f])[σ.1.length]? = _
  rw [List.getElem?_append_right (by rw [mp_len hσ]; exact Nat.le_refl _), mp_len hσ, Nat.sub_self]
  rfl
theorem hp_s (hσ : 65 ≤ σ.1.length) {g : Nat → Int32} : ((mp (hp σ f) M).1.set σ.1.length (.inr (.inl (12, g))), (mp (hp σ f) M).2) = mp (hp σ g) M := by
  rw [hp_mp hσ, hp_mp hσ]
  refine Prod.ext ?_ rfl
  show ((mp σ M).1 ++ [kI 12 f]).set σ.1.length _ = (mp σ M).1 ++ [kI 12 g]
  rw [List.set_append_right _ _ (by rw [mp_len hσ]; exact Nat.le_refl _), mp_len hσ, Nat.sub_self]
  rfl
/-- the store's cells below stand as they stood -/
theorem hp_keep (hσ : 65 ≤ σ.1.length) : Keep σ (hp σ f) (fun _ => False) := by
  refine ⟨by rw [hp_len]; omega, fun i hi _ => ?_⟩
  show (σ.1 ++ [_])[i]? = _
  rw [List.getElem?_append_left hi]
theorem l_round1 (hσ : 65 ≤ σ.1.length) (h0 : Nat → Int32) {S0 : tS} (k0 : ∀ i x, S0.1[i]? = some x → h0 i = nI x) (ok0 : okS S0) (x : Int32) : ∀ (d k : Nat) (M : tM) (S : tS), LN S M → S.1.length = S0.1.length → S.2 = S0.2 → k + d + 1 = S.1.length → ∀ F, d < F → ∃ M', (∀ j, 1 ≤ j → M' j = M j) ∧
    (∀ T, rndF d k S = some T → s_wh C_L_settle_3 W_L_settle_3 F [.ref 60, .ref 61, .ref σ.1.length, .int x, .int (nI k)] (mp (hp σ h0) M) = some (.inr ([.ref 60, .ref 61, .ref σ.1.length, .int x, .int (nI (k + d))], mp (hp σ h0) M')) ∧ LN T M' ∧ T.1.length = S0.1.length ∧ T.2 = S0.2) ∧
    (rndF d k S = none → s_wh C_L_settle_3 W_L_settle_3 F [.ref 60, .ref 61, .ref σ.1.length, .int x, .int (nI k)] (mp (hp σ h0) M) = some (.inl (some (.int (-3)), mp (hp σ h0) M')) ∧ LN S0 M') := by
  intro d
  have hs' := hp_le (f := h0) hσ
  induction d with
  | zero =>
    intro k M S h hlS h2S hk F hF
    obtain ⟨F, rfl⟩ : ∃ F', F = F' + 1 := ⟨F - 1, by omega⟩
    have hl := h.1.1
    have w := lw_mp (M := M) hs'
    refine ⟨M, fun _ _ => rfl, fun T hT => ⟨wh_F ?_, by cases hT; exact ⟨h, hlS, h2S⟩⟩, fun hT => by cases hT⟩
    simp (disch := omega) only [x_and, x_or, x_shl, x_shr, x_k, x_i, x_r, x_nil, x_add, x_sub, x_mul, x_div, x_rem, x_get, x_getR, x_ald, x_aldR, x_len, x_lenR, x_if, xa_nil, xa_ci, xa_cr, x_callI, x_callR, x_new, x_newa, x_newq, x_max, x_min, xc_cmp, xc_cmp0, xc_null, xc_nn, xc_not, xc_and, xc_or, xc_if, xs_skip, xs_seq, xs_decI, xs_decR, xs_setI, xs_inc, xs_if, xs_blk, xs_retI, xs_retB, xs_retR, xs_retD, xs_ret0, xs_putI, xs_putZ, xs_putR, xs_putop, xs_ast, xs_astop, xs_astR, xs_callV, xs_callP, xs_super, xs_sw, s_go_inl, s_go_inr, s_cut_inl, s_cut_inr, o_void_n, v_i_int, v_i_none, v_r_ref, v_r_null, v_r_rf, h_set_some, o_some_s, zB_ne0, zB_ite, zB_ite2, g_Vn, g_Pi, nI_add, Option.bind_some, Option.map_some, Option.bind_none, Option.map_none, List.getElem?_cons_zero, List.getElem?_cons_succ, List.set_cons_zero, List.set_cons_succ, List.cons_append, List.nil_append, List.take_succ_cons, List.take_zero, List.length_cons, List.length_nil, Nat.zero_add, Nat.reduceAdd, Nat.reduceLT, if_true, if_false, Bool.false_eq_true, Bool.true_eq_false, decide_eq_true_eq, decide_true, decide_false, Bool.not_true, Bool.not_false, Option.isNone_none, Option.isNone_some, Option.isSome_none, Option.isSome_some, ite_true, ite_false, reduceIte, reduceCtorEq, and_true, true_and, eq_self, Option.some.injEq, Sum.inr.injEq, Sum.inl.injEq, Prod.mk.injEq, not_true_eq_false, not_false_eq_true, Bool.decide_eq_true, n0_ne, n1_ne, xz_ret, zb_if, n1_if, n0_if, v_rf, h_ix_nI, nI_clamp, zB_t, zB_f, uN_uN, uN_ap, Nat.reduceEqDiff, Nat.reduceMul, Nat.reduceSub, w.1, w.2.1, w.2.2.1, w.2.2.2.1, w.2.2.2.2, h.z, pk_sub, j_lt, show ¬ k < S.1.length - 1 by omega]
  | succ d ih =>
    intro k M S h hlS h2S hk F hF
    obtain ⟨F, rfl⟩ : ∃ F', F = F' + 1 := ⟨F - 1, by omega⟩
    have hl := h.1.1
    have hn : k + 1 < S.1.length := by omega
    have b1 := sN_ok h.1 k
    have hg := gcd_pos (b := sN S (k + 1)) b1.1
    have hg2 := gcd_le (b := sN S (k + 1)) b1.1
    have w := lw_mp (M := M) hs'
    have hC : C_L_settle_3 [.ref 60, .ref 61, .ref σ.1.length, .int x, .int (nI k)] (mp (hp σ h0) M) = some (true, mp (hp σ h0) M) := by
      simp (disch := omega) only [x_and, x_or, x_shl, x_shr, x_k, x_i, x_r, x_nil, x_add, x_sub, x_mul, x_div, x_rem, x_get, x_getR, x_ald, x_aldR, x_len, x_lenR, x_if, xa_nil, xa_ci, xa_cr, x_callI, x_callR, x_new, x_newa, x_newq, x_max, x_min, xc_cmp, xc_cmp0, xc_null, xc_nn, xc_not, xc_and, xc_or, xc_if, xs_skip, xs_seq, xs_decI, xs_decR, xs_setI, xs_inc, xs_if, xs_blk, xs_retI, xs_retB, xs_retR, xs_retD, xs_ret0, xs_putI, xs_putZ, xs_putR, xs_putop, xs_ast, xs_astop, xs_astR, xs_callV, xs_callP, xs_super, xs_sw, s_go_inl, s_go_inr, s_cut_inl, s_cut_inr, o_void_n, v_i_int, v_i_none, v_r_ref, v_r_null, v_r_rf, h_set_some, o_some_s, zB_ne0, zB_ite, zB_ite2, g_Vn, g_Pi, nI_add, Option.bind_some, Option.map_some, Option.bind_none, Option.map_none, List.getElem?_cons_zero, List.getElem?_cons_succ, List.set_cons_zero, List.set_cons_succ, List.cons_append, List.nil_append, List.take_succ_cons, List.take_zero, List.length_cons, List.length_nil, Nat.zero_add, Nat.reduceAdd, Nat.reduceLT, if_true, if_false, Bool.false_eq_true, Bool.true_eq_false, decide_eq_true_eq, decide_true, decide_false, Bool.not_true, Bool.not_false, Option.isNone_none, Option.isNone_some, Option.isSome_none, Option.isSome_some, ite_true, ite_false, reduceIte, reduceCtorEq, and_true, true_and, eq_self, Option.some.injEq, Sum.inr.injEq, Sum.inl.injEq, Prod.mk.injEq, not_true_eq_false, not_false_eq_true, Bool.decide_eq_true, n0_ne, n1_ne, xz_ret, zb_if, n1_if, n0_if, v_rf, h_ix_nI, nI_clamp, zB_t, zB_f, uN_uN, uN_ap, Nat.reduceEqDiff, Nat.reduceMul, Nat.reduceSub, w.1, w.2.1, w.2.2.1, w.2.2.2.1, w.2.2.2.2, h.z, pk_sub, j_lt, show k < S.1.length - 1 by omega]
    obtain ⟨M1, r1, h1, o1⟩ := l_share hs' h (i := k) (by omega)
    rw [dShare_n h.1 (by omega), if_pos hn] at r1 h1
    by_cases hb : lcm2 (sN S k) (sN S (k + 1)) ≤ 9999
    · rw [if_neg (by omega)] at r1 h1
      have hS : W_L_settle_3 [.ref 60, .ref 61, .ref σ.1.length, .int x, .int (nI k)] (mp (hp σ h0) M) = some (.inr ([.ref 60, .ref 61, .ref σ.1.length, .int x, .int (nI (k + 1))], mp (hp σ h0) M1)) := by
        simp (disch := omega) only [x_and, x_or, x_shl, x_shr, x_k, x_i, x_r, x_nil, x_add, x_sub, x_mul, x_div, x_rem, x_get, x_getR, x_ald, x_aldR, x_len, x_lenR, x_if, xa_nil, xa_ci, xa_cr, x_callI, x_callR, x_new, x_newa, x_newq, x_max, x_min, xc_cmp, xc_cmp0, xc_null, xc_nn, xc_not, xc_and, xc_or, xc_if, xs_skip, xs_seq, xs_decI, xs_decR, xs_setI, xs_inc, xs_if, xs_blk, xs_retI, xs_retB, xs_retR, xs_retD, xs_ret0, xs_putI, xs_putZ, xs_putR, xs_putop, xs_ast, xs_astop, xs_astR, xs_callV, xs_callP, xs_super, xs_sw, s_go_inl, s_go_inr, s_cut_inl, s_cut_inr, o_void_n, v_i_int, v_i_none, v_r_ref, v_r_null, v_r_rf, h_set_some, o_some_s, zB_ne0, zB_ite, zB_ite2, g_Vn, g_Pi, nI_add, Option.bind_some, Option.map_some, Option.bind_none, Option.map_none, List.getElem?_cons_zero, List.getElem?_cons_succ, List.set_cons_zero, List.set_cons_succ, List.cons_append, List.nil_append, List.take_succ_cons, List.take_zero, List.length_cons, List.length_nil, Nat.zero_add, Nat.reduceAdd, Nat.reduceLT, if_true, if_false, Bool.false_eq_true, Bool.true_eq_false, decide_eq_true_eq, decide_true, decide_false, Bool.not_true, Bool.not_false, Option.isNone_none, Option.isNone_some, Option.isSome_none, Option.isSome_some, ite_true, ite_false, reduceIte, reduceCtorEq, and_true, true_and, eq_self, Option.some.injEq, Sum.inr.injEq, Sum.inl.injEq, Prod.mk.injEq, not_true_eq_false, not_false_eq_true, Bool.decide_eq_true, n0_ne, n1_ne, xz_ret, zb_if, n1_if, n0_if, v_rf, h_ix_nI, nI_clamp, zB_t, zB_f, uN_uN, uN_ap, Nat.reduceEqDiff, Nat.reduceMul, Nat.reduceSub, r1, j_lt0]
      have h1 : LN (shr S k) M1 := h1
      obtain ⟨M2, o2, a1, a2⟩ := ih (k + 1) M1 (shr S k) h1 (by rw [shr_len]; exact hlS) h2S (by rw [shr_len]; omega) F (by omega)
      have e : rndF (d + 1) k S = rndF d (k + 1) (shr S k) := if_pos hb
      refine ⟨M2, fun j hj => (o2 j hj).trans (o1 j hj), fun T hT => ?_, fun hT => ?_⟩
      · rw [e] at hT
        obtain ⟨w1, w2⟩ := a1 T hT
        refine ⟨(wh_T hC hS).trans (w1.trans ?_), w2⟩
        rw [show k + 1 + d = k + (d + 1) by omega]
      · rw [e] at hT
        obtain ⟨w1, w2⟩ := a2 hT
        exact ⟨(wh_T hC hS).trans w1, w2⟩
    · rw [if_pos (by omega)] at r1 h1
      have r1 : M_L_share [.ref 60, .ref 61, .int (nI k)] (mp (hp σ h0) M) = some (some (.int (-3)), mp (hp σ h0) M1) := r1
      have e3 : i_lt (-3) 0 = true := by decide
      let G : Nat → Nat → Int32 := fun j z => if z < j then h0 z else M1 0 z
      have G0 : uN M1 0 (G 0) = M1 := by
        have e : G 0 = M1 0 := by
          funext z
          simp only [G]
          (repeat' split) <;> first | rfl | (exfalso; omega) | (refine congrArg _ ?_; omega) | (congr 1; omega)
        rw [e]
        exact uN_self M1 0
      have hw := wh_up (C := C_L_settle_2) (S := W_L_settle_2) (L := [.ref 60, .ref 61, .ref σ.1.length, .int x, .int (nI k), .int (nI 0)]) (σ := mp (hp σ h0) M1) (fun j => ([.ref 60, .ref 61, .ref σ.1.length, .int x, .int (nI k), .int (nI j)], mp (hp σ h0) (uN M1 0 (G j)))) 0 12 (by rw [G0]) (by omega) (by omega) (fun j h1' h2' => ⟨by
          show C_L_settle_2 [.ref 60, .ref 61, .ref σ.1.length, .int x, .int (nI k), .int (nI j)] (mp (hp σ h0) (uN M1 0 (G j))) = some (true, mp (hp σ h0) (uN M1 0 (G j)))
          simp (disch := omega) only [x_and, x_or, x_shl, x_shr, x_k, x_i, x_r, x_nil, x_add, x_sub, x_mul, x_div, x_rem, x_get, x_getR, x_ald, x_aldR, x_len, x_lenR, x_if, xa_nil, xa_ci, xa_cr, x_callI, x_callR, x_new, x_newa, x_newq, x_max, x_min, xc_cmp, xc_cmp0, xc_null, xc_nn, xc_not, xc_and, xc_or, xc_if, xs_skip, xs_seq, xs_decI, xs_decR, xs_setI, xs_inc, xs_if, xs_blk, xs_retI, xs_retB, xs_retR, xs_retD, xs_ret0, xs_putI, xs_putZ, xs_putR, xs_putop, xs_ast, xs_astop, xs_astR, xs_callV, xs_callP, xs_super, xs_sw, s_go_inl, s_go_inr, s_cut_inl, s_cut_inr, o_void_n, v_i_int, v_i_none, v_r_ref, v_r_null, v_r_rf, h_set_some, o_some_s, zB_ne0, zB_ite, zB_ite2, g_Vn, g_Pi, nI_add, Option.bind_some, Option.map_some, Option.bind_none, Option.map_none, List.getElem?_cons_zero, List.getElem?_cons_succ, List.set_cons_zero, List.set_cons_succ, List.cons_append, List.nil_append, List.take_succ_cons, List.take_zero, List.length_cons, List.length_nil, Nat.zero_add, Nat.reduceAdd, Nat.reduceLT, if_true, if_false, Bool.false_eq_true, Bool.true_eq_false, decide_eq_true_eq, decide_true, decide_false, Bool.not_true, Bool.not_false, Option.isNone_none, Option.isNone_some, Option.isSome_none, Option.isSome_some, ite_true, ite_false, reduceIte, reduceCtorEq, and_true, true_and, eq_self, Option.some.injEq, Sum.inr.injEq, Sum.inl.injEq, Prod.mk.injEq, j_lt, h2'], by
          show W_L_settle_2 [.ref 60, .ref 61, .ref σ.1.length, .int x, .int (nI k), .int (nI j)] (mp (hp σ h0) (uN M1 0 (G j))) = some (.inr ([.ref 60, .ref 61, .ref σ.1.length, .int x, .int (nI k), .int (nI (j + 1))], mp (hp σ h0) (uN M1 0 (G (j + 1)))))
          have e : upd (G j) j (h0 j) = G (j + 1) := by
            funext z
            simp only [upd, G]
            by_cases c : z = j
            · subst c
              rw [if_pos rfl, if_pos (by omega)]
            · rw [if_neg c]
              by_cases d : z < j
              · rw [if_pos d, if_pos (by omega)]
              · rw [if_neg d, if_neg (by omega)]
          simp (disch := omega) only [x_and, x_or, x_shl, x_shr, x_k, x_i, x_r, x_nil, x_add, x_sub, x_mul, x_div, x_rem, x_get, x_getR, x_ald, x_aldR, x_len, x_lenR, x_if, xa_nil, xa_ci, xa_cr, x_callI, x_callR, x_new, x_newa, x_newq, x_max, x_min, xc_cmp, xc_cmp0, xc_null, xc_nn, xc_not, xc_and, xc_or, xc_if, xs_skip, xs_seq, xs_decI, xs_decR, xs_setI, xs_inc, xs_if, xs_blk, xs_retI, xs_retB, xs_retR, xs_retD, xs_ret0, xs_putI, xs_putZ, xs_putR, xs_putop, xs_ast, xs_astop, xs_astR, xs_callV, xs_callP, xs_super, xs_sw, s_go_inl, s_go_inr, s_cut_inl, s_cut_inr, o_void_n, v_i_int, v_i_none, v_r_ref, v_r_null, v_r_rf, h_set_some, o_some_s, zB_ne0, zB_ite, zB_ite2, g_Vn, g_Pi, nI_add, Option.bind_some, Option.map_some, Option.bind_none, Option.map_none, List.getElem?_cons_zero, List.getElem?_cons_succ, List.set_cons_zero, List.set_cons_succ, List.cons_append, List.nil_append, List.take_succ_cons, List.take_zero, List.length_cons, List.length_nil, Nat.zero_add, Nat.reduceAdd, Nat.reduceLT, if_true, if_false, Bool.false_eq_true, Bool.true_eq_false, decide_eq_true_eq, decide_true, decide_false, Bool.not_true, Bool.not_false, Option.isNone_none, Option.isNone_some, Option.isSome_none, Option.isSome_some, ite_true, ite_false, reduceIte, reduceCtorEq, and_true, true_and, eq_self, Option.some.injEq, Sum.inr.injEq, Sum.inl.injEq, Prod.mk.injEq, not_true_eq_false, not_false_eq_true, Bool.decide_eq_true, n0_ne, n1_ne, xz_ret, zb_if, n1_if, n0_if, v_rf, h_ix_nI, nI_clamp, zB_t, zB_f, uN_uN, uN_ap, Nat.reduceEqDiff, Nat.reduceMul, Nat.reduceSub, hp_a hσ, mp_a0 hs', mp_s0 hs', e]⟩) (by
          show C_L_settle_2 [.ref 60, .ref 61, .ref σ.1.length, .int x, .int (nI k), .int (nI 12)] (mp (hp σ h0) (uN M1 0 (G 12))) = some (false, mp (hp σ h0) (uN M1 0 (G 12)))
          simp (disch := omega) only [x_and, x_or, x_shl, x_shr, x_k, x_i, x_r, x_nil, x_add, x_sub, x_mul, x_div, x_rem, x_get, x_getR, x_ald, x_aldR, x_len, x_lenR, x_if, xa_nil, xa_ci, xa_cr, x_callI, x_callR, x_new, x_newa, x_newq, x_max, x_min, xc_cmp, xc_cmp0, xc_null, xc_nn, xc_not, xc_and, xc_or, xc_if, xs_skip, xs_seq, xs_decI, xs_decR, xs_setI, xs_inc, xs_if, xs_blk, xs_retI, xs_retB, xs_retR, xs_retD, xs_ret0, xs_putI, xs_putZ, xs_putR, xs_putop, xs_ast, xs_astop, xs_astR, xs_callV, xs_callP, xs_super, xs_sw, s_go_inl, s_go_inr, s_cut_inl, s_cut_inr, o_void_n, v_i_int, v_i_none, v_r_ref, v_r_null, v_r_rf, h_set_some, o_some_s, zB_ne0, zB_ite, zB_ite2, g_Vn, g_Pi, nI_add, Option.bind_some, Option.map_some, Option.bind_none, Option.map_none, List.getElem?_cons_zero, List.getElem?_cons_succ, List.set_cons_zero, List.set_cons_succ, List.cons_append, List.nil_append, List.take_succ_cons, List.take_zero, List.length_cons, List.length_nil, Nat.zero_add, Nat.reduceAdd, Nat.reduceLT, if_true, if_false, Bool.false_eq_true, Bool.true_eq_false, decide_eq_true_eq, decide_true, decide_false, Bool.not_true, Bool.not_false, Option.isNone_none, Option.isNone_some, Option.isSome_none, Option.isSome_some, ite_true, ite_false, reduceIte, reduceCtorEq, and_true, true_and, eq_self, Option.some.injEq, Sum.inr.injEq, Sum.inl.injEq, Prod.mk.injEq, j_lt, Nat.lt_irrefl])
      have hS : W_L_settle_3 [.ref 60, .ref 61, .ref σ.1.length, .int x, .int (nI k)] (mp (hp σ h0) M) = some (.inl (some (.int (-3)), mp (hp σ h0) (uN M1 0 (G 12)))) := by
        simp (disch := omega) only [x_and, x_or, x_shl, x_shr, x_k, x_i, x_r, x_nil, x_add, x_sub, x_mul, x_div, x_rem, x_get, x_getR, x_ald, x_aldR, x_len, x_lenR, x_if, xa_nil, xa_ci, xa_cr, x_callI, x_callR, x_new, x_newa, x_newq, x_max, x_min, xc_cmp, xc_cmp0, xc_null, xc_nn, xc_not, xc_and, xc_or, xc_if, xs_skip, xs_seq, xs_decI, xs_decR, xs_setI, xs_inc, xs_if, xs_blk, xs_retI, xs_retB, xs_retR, xs_retD, xs_ret0, xs_putI, xs_putZ, xs_putR, xs_putop, xs_ast, xs_astop, xs_astR, xs_callV, xs_callP, xs_super, xs_sw, s_go_inl, s_go_inr, s_cut_inl, s_cut_inr, o_void_n, v_i_int, v_i_none, v_r_ref, v_r_null, v_r_rf, h_set_some, o_some_s, zB_ne0, zB_ite, zB_ite2, g_Vn, g_Pi, nI_add, Option.bind_some, Option.map_some, Option.bind_none, Option.map_none, List.getElem?_cons_zero, List.getElem?_cons_succ, List.set_cons_zero, List.set_cons_succ, List.cons_append, List.nil_append, List.take_succ_cons, List.take_zero, List.length_cons, List.length_nil, Nat.zero_add, Nat.reduceAdd, Nat.reduceLT, if_true, if_false, Bool.false_eq_true, Bool.true_eq_false, decide_eq_true_eq, decide_true, decide_false, Bool.not_true, Bool.not_false, Option.isNone_none, Option.isNone_some, Option.isSome_none, Option.isSome_some, ite_true, ite_false, reduceIte, reduceCtorEq, and_true, true_and, eq_self, Option.some.injEq, Sum.inr.injEq, Sum.inl.injEq, Prod.mk.injEq, not_true_eq_false, not_false_eq_true, Bool.decide_eq_true, n0_ne, n1_ne, xz_ret, zb_if, n1_if, n0_if, v_rf, h_ix_nI, nI_clamp, zB_t, zB_f, uN_uN, uN_ap, Nat.reduceEqDiff, Nat.reduceMul, Nat.reduceSub, r1, e3, hw]
      have e : rndF (d + 1) k S = none := if_neg hb
      refine ⟨uN M1 0 (G 12), fun j hj => ?_, fun T hT => (by rw [e] at hT; cases hT), fun _ => ⟨wh_R hC hS, ok0, ?_, ?_, ?_, ?_, fun i y hy => ?_⟩⟩
      · show (if j = 0 then _ else M1 j) = M j
        rw [if_neg (by omega)]
        exact o1 j hj
      · show M1 1 0 = _
        rw [o1 1 (by omega), h.z, hlS]
      · show M1 1 1 = _
        rw [o1 1 (by omega), h.2.2.1, h2S]
      · show M1 1 2 = _
        rw [o1 1 (by omega), h.2.2.2.1, h2S]
      · show M1 1 3 = _
        rw [o1 1 (by omega), h.2.2.2.2.1, h2S]
      · show (if i < 12 then h0 i else _) = _
        have := ok0.1
        have := (List.getElem?_eq_some_iff.mp hy).1
        rw [if_pos (by omega)]
        exact k0 i y hy
theorem l_roundsF (hσ : 65 ≤ σ.1.length) (h0 : Nat → Int32) {S0 : tS} (k0 : ∀ i x, S0.1[i]? = some x → h0 i = nI x) (ok0 : okS S0) : ∀ (d k n : Nat) (M : tM) (S : tS), LN S M → S.1.length = S0.1.length → S.2 = S0.2 → LastP S k → 13 ≤ k + d → 1 ≤ d → ∀ F, d < F → ∃ M', (∀ j, 1 ≤ j → M' j = M j) ∧
    (∀ r, sirF d S = some r → s_wh C_L_settle_4 W_L_settle_4 F [.ref 60, .ref 61, .ref σ.1.length, .int (nI n)] (mp (hp σ h0) M) = some (.inr ([.ref 60, .ref 61, .ref σ.1.length, .int (nI (n + r.1))], mp (hp σ h0) M')) ∧ LN r.2 M') ∧
    (sirF d S = none → s_wh C_L_settle_4 W_L_settle_4 F [.ref 60, .ref 61, .ref σ.1.length, .int (nI n)] (mp (hp σ h0) M) = some (.inl (some (.int (-3)), mp (hp σ h0) M')) ∧ LN S0 M') := by
  intro d
  have hs' := hp_le (f := h0) hσ
  induction d with
  | zero =>
    intro k n M S h _ _ hL hk hd
    omega
  | succ d ih =>
    intro k n M S h hlS h2S hL hk hd F hF
    obtain ⟨F, rfl⟩ : ∃ F', F = F' + 1 := ⟨F - 1, by omega⟩
    have hl := h.1.1
    have hset := l_isSettled (lw_mp (M := M) hs') h
    by_cases hs : stl S = true
    · have e : sirF (d + 1) S = some (0, S) := if_pos hs
      refine ⟨M, fun _ _ => rfl, fun r hr => ?_, fun hr => (by rw [e] at hr; cases hr)⟩
      rw [e] at hr
      cases hr
      refine ⟨wh_F ?_, h⟩
      simp (disch := omega) only [x_and, x_or, x_shl, x_shr, x_k, x_i, x_r, x_nil, x_add, x_sub, x_mul, x_div, x_rem, x_get, x_getR, x_ald, x_aldR, x_len, x_lenR, x_if, xa_nil, xa_ci, xa_cr, x_callI, x_callR, x_new, x_newa, x_newq, x_max, x_min, xc_cmp, xc_cmp0, xc_null, xc_nn, xc_not, xc_and, xc_or, xc_if, xs_skip, xs_seq, xs_decI, xs_decR, xs_setI, xs_inc, xs_if, xs_blk, xs_retI, xs_retB, xs_retR, xs_retD, xs_ret0, xs_putI, xs_putZ, xs_putR, xs_putop, xs_ast, xs_astop, xs_astR, xs_callV, xs_callP, xs_super, xs_sw, s_go_inl, s_go_inr, s_cut_inl, s_cut_inr, o_void_n, v_i_int, v_i_none, v_r_ref, v_r_null, v_r_rf, h_set_some, o_some_s, zB_ne0, zB_ite, zB_ite2, g_Vn, g_Pi, nI_add, Option.bind_some, Option.map_some, Option.bind_none, Option.map_none, List.getElem?_cons_zero, List.getElem?_cons_succ, List.set_cons_zero, List.set_cons_succ, List.cons_append, List.nil_append, List.take_succ_cons, List.take_zero, List.length_cons, List.length_nil, Nat.zero_add, Nat.reduceAdd, Nat.reduceLT, if_true, if_false, Bool.false_eq_true, Bool.true_eq_false, decide_eq_true_eq, decide_true, decide_false, Bool.not_true, Bool.not_false, Option.isNone_none, Option.isNone_some, Option.isSome_none, Option.isSome_some, ite_true, ite_false, reduceIte, reduceCtorEq, and_true, true_and, eq_self, Option.some.injEq, Sum.inr.injEq, Sum.inl.injEq, Prod.mk.injEq, not_true_eq_false, not_false_eq_true, Bool.decide_eq_true, n0_ne, n1_ne, xz_ret, zb_if, n1_if, n0_if, v_rf, h_ix_nI, nI_clamp, zB_t, zB_f, uN_uN, uN_ap, Nat.reduceEqDiff, Nat.reduceMul, Nat.reduceSub, hset, hs]
    · have h2 := stl_len hs
      have hk12 : k < 12 := by
        rcases Nat.lt_or_ge k 12 with q | q
        · exact q
        · exact absurd (last_stl hL (by omega)) hs
      have hs'' : stl S = false := by cases c : stl S with | false => rfl | true => exact absurd c hs
      have hC : C_L_settle_4 [.ref 60, .ref 61, .ref σ.1.length, .int (nI n)] (mp (hp σ h0) M) = some (true, mp (hp σ h0) M) := by
        simp (disch := omega) only [x_and, x_or, x_shl, x_shr, x_k, x_i, x_r, x_nil, x_add, x_sub, x_mul, x_div, x_rem, x_get, x_getR, x_ald, x_aldR, x_len, x_lenR, x_if, xa_nil, xa_ci, xa_cr, x_callI, x_callR, x_new, x_newa, x_newq, x_max, x_min, xc_cmp, xc_cmp0, xc_null, xc_nn, xc_not, xc_and, xc_or, xc_if, xs_skip, xs_seq, xs_decI, xs_decR, xs_setI, xs_inc, xs_if, xs_blk, xs_retI, xs_retB, xs_retR, xs_retD, xs_ret0, xs_putI, xs_putZ, xs_putR, xs_putop, xs_ast, xs_astop, xs_astR, xs_callV, xs_callP, xs_super, xs_sw, s_go_inl, s_go_inr, s_cut_inl, s_cut_inr, o_void_n, v_i_int, v_i_none, v_r_ref, v_r_null, v_r_rf, h_set_some, o_some_s, zB_ne0, zB_ite, zB_ite2, g_Vn, g_Pi, nI_add, Option.bind_some, Option.map_some, Option.bind_none, Option.map_none, List.getElem?_cons_zero, List.getElem?_cons_succ, List.set_cons_zero, List.set_cons_succ, List.cons_append, List.nil_append, List.take_succ_cons, List.take_zero, List.length_cons, List.length_nil, Nat.zero_add, Nat.reduceAdd, Nat.reduceLT, if_true, if_false, Bool.false_eq_true, Bool.true_eq_false, decide_eq_true_eq, decide_true, decide_false, Bool.not_true, Bool.not_false, Option.isNone_none, Option.isNone_some, Option.isSome_none, Option.isSome_some, ite_true, ite_false, reduceIte, reduceCtorEq, and_true, true_and, eq_self, Option.some.injEq, Sum.inr.injEq, Sum.inl.injEq, Prod.mk.injEq, not_true_eq_false, not_false_eq_true, Bool.decide_eq_true, n0_ne, n1_ne, xz_ret, zb_if, n1_if, n0_if, v_rf, h_ix_nI, nI_clamp, zB_t, zB_f, uN_uN, uN_ap, Nat.reduceEqDiff, Nat.reduceMul, Nat.reduceSub, hset, hs'']
      obtain ⟨M1, o1, a1, a2⟩ := l_round1 hσ h0 k0 ok0 (nI n) (S.1.length - 1) 0 M S h hlS h2S (by omega) s_FUEL (by unfold s_FUEL; omega)
      have e : sirF (d + 1) S = (rndF (S.1.length - 1) 0 S).bind fun T => (sirF d T).map fun r => (r.1 + 1, r.2) := if_neg hs
      cases hr : rndF (S.1.length - 1) 0 S with
      | none =>
        rw [hr] at e
        have e : sirF (d + 1) S = none := e
        obtain ⟨w, hT⟩ := a2 hr
        have w : s_while C_L_settle_3 W_L_settle_3 [.ref 60, .ref 61, .ref σ.1.length, .int (nI n), .int (nI 0)] (mp (hp σ h0) M) = _ := w
        have hS : W_L_settle_4 [.ref 60, .ref 61, .ref σ.1.length, .int (nI n)] (mp (hp σ h0) M) = some (.inl (some (.int (-3)), mp (hp σ h0) M1)) := by
          simp only [x_and, x_or, x_shl, x_shr, x_k, x_i, x_r, x_nil, x_add, x_sub, x_mul, x_div, x_rem, x_get, x_getR, x_ald, x_aldR, x_len, x_lenR, x_if, xa_nil, xa_ci, xa_cr, x_callI, x_callR, x_new, x_newa, x_newq, x_max, x_min, xc_cmp, xc_cmp0, xc_null, xc_nn, xc_not, xc_and, xc_or, xc_if, xs_skip, xs_seq, xs_decI, xs_decR, xs_setI, xs_inc, xs_if, xs_blk, xs_retI, xs_retB, xs_retR, xs_retD, xs_ret0, xs_putI, xs_putZ, xs_putR, xs_putop, xs_ast, xs_astop, xs_astR, xs_callV, xs_callP, xs_super, xs_sw, s_go_inl, s_go_inr, s_cut_inl, s_cut_inr, o_void_n, v_i_int, v_i_none, v_r_ref, v_r_null, v_r_rf, h_set_some, o_some_s, zB_ne0, zB_ite, zB_ite2, g_Vn, g_Pi, nI_add, Option.bind_some, Option.map_some, Option.bind_none, Option.map_none, List.getElem?_cons_zero, List.getElem?_cons_succ, List.set_cons_zero, List.set_cons_succ, List.cons_append, List.nil_append, List.take_succ_cons, List.take_zero, List.length_cons, List.length_nil, Nat.zero_add, Nat.reduceAdd, Nat.reduceLT, if_true, if_false, Bool.false_eq_true, Bool.true_eq_false, decide_eq_true_eq, decide_true, decide_false, Bool.not_true, Bool.not_false, Option.isNone_none, Option.isNone_some, Option.isSome_none, Option.isSome_some, ite_true, ite_false, reduceIte, reduceCtorEq, and_true, true_and, eq_self, Option.some.injEq, Sum.inr.injEq, Sum.inl.injEq, Prod.mk.injEq, w]
        exact ⟨M1, o1, fun T hT => (by rw [e] at hT; cases hT), fun _ => ⟨wh_R hC hS, hT⟩⟩
      | some T =>
        rw [hr] at e
        have e : sirF (d + 1) S = (sirF d T).map fun r => (r.1 + 1, r.2) := e
        obtain ⟨w, hT, lT0, l2T⟩ := a1 T hr
        obtain ⟨lT, pT⟩ := last_round hr (by omega) hL
        have w : s_while C_L_settle_3 W_L_settle_3 [.ref 60, .ref 61, .ref σ.1.length, .int (nI n), .int (nI 0)] (mp (hp σ h0) M) = _ := w
        have hS : W_L_settle_4 [.ref 60, .ref 61, .ref σ.1.length, .int (nI n)] (mp (hp σ h0) M) = some (.inr ([.ref 60, .ref 61, .ref σ.1.length, .int (nI (n + 1))], mp (hp σ h0) M1)) := by
          simp only [x_and, x_or, x_shl, x_shr, x_k, x_i, x_r, x_nil, x_add, x_sub, x_mul, x_div, x_rem, x_get, x_getR, x_ald, x_aldR, x_len, x_lenR, x_if, xa_nil, xa_ci, xa_cr, x_callI, x_callR, x_new, x_newa, x_newq, x_max, x_min, xc_cmp, xc_cmp0, xc_null, xc_nn, xc_not, xc_and, xc_or, xc_if, xs_skip, xs_seq, xs_decI, xs_decR, xs_setI, xs_inc, xs_if, xs_blk, xs_retI, xs_retB, xs_retR, xs_retD, xs_ret0, xs_putI, xs_putZ, xs_putR, xs_putop, xs_ast, xs_astop, xs_astR, xs_callV, xs_callP, xs_super, xs_sw, s_go_inl, s_go_inr, s_cut_inl, s_cut_inr, o_void_n, v_i_int, v_i_none, v_r_ref, v_r_null, v_r_rf, h_set_some, o_some_s, zB_ne0, zB_ite, zB_ite2, g_Vn, g_Pi, nI_add, Option.bind_some, Option.map_some, Option.bind_none, Option.map_none, List.getElem?_cons_zero, List.getElem?_cons_succ, List.set_cons_zero, List.set_cons_succ, List.cons_append, List.nil_append, List.take_succ_cons, List.take_zero, List.length_cons, List.length_nil, Nat.zero_add, Nat.reduceAdd, Nat.reduceLT, if_true, if_false, Bool.false_eq_true, Bool.true_eq_false, decide_eq_true_eq, decide_true, decide_false, Bool.not_true, Bool.not_false, Option.isNone_none, Option.isNone_some, Option.isSome_none, Option.isSome_some, ite_true, ite_false, reduceIte, reduceCtorEq, and_true, true_and, eq_self, Option.some.injEq, Sum.inr.injEq, Sum.inl.injEq, Prod.mk.injEq, w]
        obtain ⟨M2, o2, b1, b2⟩ := ih (k + 1) (n + 1) M1 T hT lT0 l2T pT (by omega) (by omega) F (by omega)
        refine ⟨M2, fun j hj => (o2 j hj).trans (o1 j hj), fun r hr2 => ?_, fun hr2 => ?_⟩
        · rw [e] at hr2
          cases hq : sirF d T with
          | none => rw [hq] at hr2; cases hr2
          | some q =>
            rw [hq] at hr2
            cases hr2
            obtain ⟨c1, c2⟩ := b1 q hq
            refine ⟨(wh_T hC hS).trans (c1.trans ?_), c2⟩
            rw [show n + 1 + q.1 = n + (q.1 + 1) by omega]
        · rw [e] at hr2
          cases hq : sirF d T with
          | none =>
            obtain ⟨c1, c2⟩ := b2 hq
            exact ⟨(wh_T hC hS).trans c1, c2⟩
          | some q => rw [hq] at hr2; cases hr2
theorem l_settle (hσ : 65 ≤ σ.1.length) (h : LN S M) : ∃ M' f, M_L_settle [.ref 60, .ref 61] (mp σ M) = some (some (.int (dSettle S).1), mp (hp σ f) M') ∧ LN (dSettle S).2 M' ∧ ∀ k, 1 ≤ k → M' k = M k := by
  have hl := h.1.1
  let G : Nat → Nat → Int32 := fun j z => if z < j then M 0 z else 0
  have G0 : ((mp σ M).1 ++ [.inr (.inl (12, fun _ => 0))], (mp σ M).2 + 12) = mp (hp σ (G 0)) M := by
    have e : G 0 = fun _ => 0 := by
      funext z
      exact if_neg (Nat.not_lt_zero z)
    rw [e, hp_mp hσ]
  have nw : e_newa (e_k (nI 12)) [.ref 60, .ref 61] (mp σ M) = some (some σ.1.length, mp (hp σ (G 0)) M) := by
    rw [← G0]
    show (if 0 ≤ (nI 12).toInt ∧ (nI 12).toInt ≤ 100000 then (some (some (mp σ M).1.length, ((mp σ M).1 ++ [.inr (.inl ((nI 12).toNatClampNeg, fun _ => 0))], (mp σ M).2 + (nI 12).toNatClampNeg)) : Option (Option Nat × sSt)) else none) = _
    rw [if_pos (by decide), mp_len hσ, nI_clamp (by omega)]
  have hw := wh_up (C := C_L_settle_1) (S := W_L_settle_1) (L := [.ref 60, .ref 61, .ref σ.1.length, .int (nI 0)]) (σ := mp (hp σ (G 0)) M) (fun j => ([.ref 60, .ref 61, .ref σ.1.length, .int (nI j)], mp (hp σ (G j)) M)) 0 12 rfl (by omega) (by omega) (fun j h1' h2' => ⟨by
      show C_L_settle_1 [.ref 60, .ref 61, .ref σ.1.length, .int (nI j)] (mp (hp σ (G j)) M) = some (true, mp (hp σ (G j)) M)
      simp (disch := omega) only [x_and, x_or, x_shl, x_shr, x_k, x_i, x_r, x_nil, x_add, x_sub, x_mul, x_div, x_rem, x_get, x_getR, x_ald, x_aldR, x_len, x_lenR, x_if, xa_nil, xa_ci, xa_cr, x_callI, x_callR, x_new, x_newa, x_newq, x_max, x_min, xc_cmp, xc_cmp0, xc_null, xc_nn, xc_not, xc_and, xc_or, xc_if, xs_skip, xs_seq, xs_decI, xs_decR, xs_setI, xs_inc, xs_if, xs_blk, xs_retI, xs_retB, xs_retR, xs_retD, xs_ret0, xs_putI, xs_putZ, xs_putR, xs_putop, xs_ast, xs_astop, xs_astR, xs_callV, xs_callP, xs_super, xs_sw, s_go_inl, s_go_inr, s_cut_inl, s_cut_inr, o_void_n, v_i_int, v_i_none, v_r_ref, v_r_null, v_r_rf, h_set_some, o_some_s, zB_ne0, zB_ite, zB_ite2, g_Vn, g_Pi, nI_add, Option.bind_some, Option.map_some, Option.bind_none, Option.map_none, List.getElem?_cons_zero, List.getElem?_cons_succ, List.set_cons_zero, List.set_cons_succ, List.cons_append, List.nil_append, List.take_succ_cons, List.take_zero, List.length_cons, List.length_nil, Nat.zero_add, Nat.reduceAdd, Nat.reduceLT, if_true, if_false, Bool.false_eq_true, Bool.true_eq_false, decide_eq_true_eq, decide_true, decide_false, Bool.not_true, Bool.not_false, Option.isNone_none, Option.isNone_some, Option.isSome_none, Option.isSome_some, ite_true, ite_false, reduceIte, reduceCtorEq, and_true, true_and, eq_self, Option.some.injEq, Sum.inr.injEq, Sum.inl.injEq, Prod.mk.injEq, j_lt, h2'], by
      show W_L_settle_1 [.ref 60, .ref 61, .ref σ.1.length, .int (nI j)] (mp (hp σ (G j)) M) = some (.inr ([.ref 60, .ref 61, .ref σ.1.length, .int (nI (j + 1))], mp (hp σ (G (j + 1))) M))
      have e : upd (G j) j (M 0 j) = G (j + 1) := by
        funext z
        simp only [upd, G]
        by_cases c : z = j
        · subst c
          rw [if_pos rfl, if_pos (by omega)]
        · rw [if_neg c]
          by_cases d : z < j
          · rw [if_pos d, if_pos (by omega)]
          · rw [if_neg d, if_neg (by omega)]
      simp (disch := omega) only [x_and, x_or, x_shl, x_shr, x_k, x_i, x_r, x_nil, x_add, x_sub, x_mul, x_div, x_rem, x_get, x_getR, x_ald, x_aldR, x_len, x_lenR, x_if, xa_nil, xa_ci, xa_cr, x_callI, x_callR, x_new, x_newa, x_newq, x_max, x_min, xc_cmp, xc_cmp0, xc_null, xc_nn, xc_not, xc_and, xc_or, xc_if, xs_skip, xs_seq, xs_decI, xs_decR, xs_setI, xs_inc, xs_if, xs_blk, xs_retI, xs_retB, xs_retR, xs_retD, xs_ret0, xs_putI, xs_putZ, xs_putR, xs_putop, xs_ast, xs_astop, xs_astR, xs_callV, xs_callP, xs_super, xs_sw, s_go_inl, s_go_inr, s_cut_inl, s_cut_inr, o_void_n, v_i_int, v_i_none, v_r_ref, v_r_null, v_r_rf, h_set_some, o_some_s, zB_ne0, zB_ite, zB_ite2, g_Vn, g_Pi, nI_add, Option.bind_some, Option.map_some, Option.bind_none, Option.map_none, List.getElem?_cons_zero, List.getElem?_cons_succ, List.set_cons_zero, List.set_cons_succ, List.cons_append, List.nil_append, List.take_succ_cons, List.take_zero, List.length_cons, List.length_nil, Nat.zero_add, Nat.reduceAdd, Nat.reduceLT, if_true, if_false, Bool.false_eq_true, Bool.true_eq_false, decide_eq_true_eq, decide_true, decide_false, Bool.not_true, Bool.not_false, Option.isNone_none, Option.isNone_some, Option.isSome_none, Option.isSome_some, ite_true, ite_false, reduceIte, reduceCtorEq, and_true, true_and, eq_self, Option.some.injEq, Sum.inr.injEq, Sum.inl.injEq, Prod.mk.injEq, not_true_eq_false, not_false_eq_true, Bool.decide_eq_true, n0_ne, n1_ne, xz_ret, zb_if, n1_if, n0_if, v_rf, h_ix_nI, nI_clamp, zB_t, zB_f, uN_uN, uN_ap, Nat.reduceEqDiff, Nat.reduceMul, Nat.reduceSub, hp_a hσ, hp_s hσ, mp_a0 (hp_le hσ), e]⟩) (by
      show C_L_settle_1 [.ref 60, .ref 61, .ref σ.1.length, .int (nI 12)] (mp (hp σ (G 12)) M) = some (false, mp (hp σ (G 12)) M)
      simp (disch := omega) only [x_and, x_or, x_shl, x_shr, x_k, x_i, x_r, x_nil, x_add, x_sub, x_mul, x_div, x_rem, x_get, x_getR, x_ald, x_aldR, x_len, x_lenR, x_if, xa_nil, xa_ci, xa_cr, x_callI, x_callR, x_new, x_newa, x_newq, x_max, x_min, xc_cmp, xc_cmp0, xc_null, xc_nn, xc_not, xc_and, xc_or, xc_if, xs_skip, xs_seq, xs_decI, xs_decR, xs_setI, xs_inc, xs_if, xs_blk, xs_retI, xs_retB, xs_retR, xs_retD, xs_ret0, xs_putI, xs_putZ, xs_putR, xs_putop, xs_ast, xs_astop, xs_astR, xs_callV, xs_callP, xs_super, xs_sw, s_go_inl, s_go_inr, s_cut_inl, s_cut_inr, o_void_n, v_i_int, v_i_none, v_r_ref, v_r_null, v_r_rf, h_set_some, o_some_s, zB_ne0, zB_ite, zB_ite2, g_Vn, g_Pi, nI_add, Option.bind_some, Option.map_some, Option.bind_none, Option.map_none, List.getElem?_cons_zero, List.getElem?_cons_succ, List.set_cons_zero, List.set_cons_succ, List.cons_append, List.nil_append, List.take_succ_cons, List.take_zero, List.length_cons, List.length_nil, Nat.zero_add, Nat.reduceAdd, Nat.reduceLT, if_true, if_false, Bool.false_eq_true, Bool.true_eq_false, decide_eq_true_eq, decide_true, decide_false, Bool.not_true, Bool.not_false, Option.isNone_none, Option.isNone_some, Option.isSome_none, Option.isSome_some, ite_true, ite_false, reduceIte, reduceCtorEq, and_true, true_and, eq_self, Option.some.injEq, Sum.inr.injEq, Sum.inl.injEq, Prod.mk.injEq, j_lt, Nat.lt_irrefl])
  have k0 : ∀ i x, S.1[i]? = some x → G 12 i = nI x := fun i x hx => by
    have := (List.getElem?_eq_some_iff.mp hx).1
    show (if i < 12 then M 0 i else 0) = _
    rw [if_pos (by omega)]
    exact h.2.2.2.2.2 i x hx
  obtain ⟨M', o, a1, a2⟩ := l_roundsF hσ (G 12) k0 h.1 13 0 0 M S h rfl rfl (fun j h1 h2 => by omega) (by omega) (by omega) s_FUEL (by unfold s_FUEL; omega)
  unfold dSettle
  cases hr : sirF 13 S with
  | none =>
    obtain ⟨w, hT⟩ := a2 hr
    have w : s_while C_L_settle_4 W_L_settle_4 [.ref 60, .ref 61, .ref σ.1.length, .int (nI 0)] (mp (hp σ (G 12)) M) = _ := w
    refine ⟨M', G 12, m_eq rfl rfl ?_, hT, o⟩
    unfold B_L_settle
    simp only [xs_seq, xs_decR, nw, x_and, x_or, x_shl, x_shr, x_k, x_i, x_r, x_nil, x_add, x_sub, x_mul, x_div, x_rem, x_get, x_getR, x_ald, x_aldR, x_len, x_lenR, x_if, xa_nil, xa_ci, xa_cr, x_callI, x_callR, x_new, x_newa, x_newq, x_max, x_min, xc_cmp, xc_cmp0, xc_null, xc_nn, xc_not, xc_and, xc_or, xc_if, xs_skip, xs_seq, xs_decI, xs_decR, xs_setI, xs_inc, xs_if, xs_blk, xs_retI, xs_retB, xs_retR, xs_retD, xs_ret0, xs_putI, xs_putZ, xs_putR, xs_putop, xs_ast, xs_astop, xs_astR, xs_callV, xs_callP, xs_super, xs_sw, s_go_inl, s_go_inr, s_cut_inl, s_cut_inr, o_void_n, v_i_int, v_i_none, v_r_ref, v_r_null, v_r_rf, h_set_some, o_some_s, zB_ne0, zB_ite, zB_ite2, g_Vn, g_Pi, nI_add, Option.bind_some, Option.map_some, Option.bind_none, Option.map_none, List.getElem?_cons_zero, List.getElem?_cons_succ, List.set_cons_zero, List.set_cons_succ, List.cons_append, List.nil_append, List.take_succ_cons, List.take_zero, List.length_cons, List.length_nil, Nat.zero_add, Nat.reduceAdd, Nat.reduceLT, if_true, if_false, Bool.false_eq_true, Bool.true_eq_false, decide_eq_true_eq, decide_true, decide_false, Bool.not_true, Bool.not_false, Option.isNone_none, Option.isNone_some, Option.isSome_none, Option.isSome_some, ite_true, ite_false, reduceIte, reduceCtorEq, and_true, true_and, eq_self, Option.some.injEq, Sum.inr.injEq, Sum.inl.injEq, Prod.mk.injEq, v_rf, hw, w]
  | some r =>
    obtain ⟨w, hT⟩ := a1 r hr
    rw [Nat.zero_add] at w
    have w : s_while C_L_settle_4 W_L_settle_4 [.ref 60, .ref 61, .ref σ.1.length, .int (nI 0)] (mp (hp σ (G 12)) M) = _ := w
    refine ⟨M', G 12, m_eq rfl rfl ?_, hT, o⟩
    unfold B_L_settle
    simp only [xs_seq, xs_decR, nw, x_and, x_or, x_shl, x_shr, x_k, x_i, x_r, x_nil, x_add, x_sub, x_mul, x_div, x_rem, x_get, x_getR, x_ald, x_aldR, x_len, x_lenR, x_if, xa_nil, xa_ci, xa_cr, x_callI, x_callR, x_new, x_newa, x_newq, x_max, x_min, xc_cmp, xc_cmp0, xc_null, xc_nn, xc_not, xc_and, xc_or, xc_if, xs_skip, xs_seq, xs_decI, xs_decR, xs_setI, xs_inc, xs_if, xs_blk, xs_retI, xs_retB, xs_retR, xs_retD, xs_ret0, xs_putI, xs_putZ, xs_putR, xs_putop, xs_ast, xs_astop, xs_astR, xs_callV, xs_callP, xs_super, xs_sw, s_go_inl, s_go_inr, s_cut_inl, s_cut_inr, o_void_n, v_i_int, v_i_none, v_r_ref, v_r_null, v_r_rf, h_set_some, o_some_s, zB_ne0, zB_ite, zB_ite2, g_Vn, g_Pi, nI_add, Option.bind_some, Option.map_some, Option.bind_none, Option.map_none, List.getElem?_cons_zero, List.getElem?_cons_succ, List.set_cons_zero, List.set_cons_succ, List.cons_append, List.nil_append, List.take_succ_cons, List.take_zero, List.length_cons, List.length_nil, Nat.zero_add, Nat.reduceAdd, Nat.reduceLT, if_true, if_false, Bool.false_eq_true, Bool.true_eq_false, decide_eq_true_eq, decide_true, decide_false, Bool.not_true, Bool.not_false, Option.isNone_none, Option.isNone_some, Option.isSome_none, Option.isSome_some, ite_true, ite_false, reduceIte, reduceCtorEq, and_true, true_and, eq_self, Option.some.injEq, Sum.inr.injEq, Sum.inl.injEq, Prod.mk.injEq, v_rf, hw, w]
end
