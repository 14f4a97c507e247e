/-! THE LAW'S DEEDS on its rows (own work): out, put, account, broke -/
theorem LN.z {S : tS} {M : tM} (h : LN S M) : M 1 0 = nI S.1.length := h.2.1
section
variable {σ : sSt} {M : tM} {S : tS}
theorem l_out (hσ : 65 ≤ σ.1.length) (h : LN S M) {i : Nat} (hi : i < S.1.length) : ∃ M', M_L_out [.ref 60, .ref 61, .int (nI i)] (mp σ M) = some (none, mp σ M') ∧ LN (S.1.eraseIdx i, S.2) M' ∧ ∀ k, 2 ≤ k → M' k = M k := by
  have hl := h.1.1
  obtain ⟨n, hn⟩ : ∃ n, n + 1 = S.1.length := ⟨S.1.length - 1, by omega⟩
  have hs : nI S.1.length - nI 1 = nI n := by rw [pk_sub (by omega), ← hn, Nat.add_sub_cancel]
  obtain ⟨f1, hf1⟩ : ∃ f1, f1 = upd (M 1) 0 (nI n) := ⟨_, rfl⟩
  have f10 : f1 0 = nI n := by rw [hf1]; rfl
  have f1o : ∀ z, z ≠ 0 → f1 z = M 1 z := fun z hz => by rw [hf1]; exact if_neg hz
  let G : Nat → Nat → Int32 := fun k z => if i ≤ z ∧ z < k then M 0 (z + 1) else M 0 z
  have G0 : uN (uN M 1 f1) 0 (G i) = uN M 1 f1 := by
    have e : G i = M 0 := by
      funext z
      simp only [G]
      (repeat' split) <;> first | rfl | (exfalso; omega) | (refine congrArg _ ?_; omega) | (congr 1; omega)
    rw [e]
    exact uN_self (uN M 1 f1) 0
  have hw := wh_up (C := C_L_out_1) (S := W_L_out_1) (L := [.ref 60, .ref 61, .int (nI i), .int (nI i)]) (σ := mp σ (uN M 1 f1)) (fun j => ([.ref 60, .ref 61, .int (nI i), .int (nI j)], mp σ (uN (uN M 1 f1) 0 (G j)))) i n (by rw [G0]) (by omega) (by omega) (fun j h1 h2 => ⟨by
      show C_L_out_1 [.ref 60, .ref 61, .int (nI i), .int (nI j)] (mp σ (uN (uN M 1 f1) 0 (G j))) = some (true, mp σ (uN (uN M 1 f1) 0 (G j)))
      simp (disch := omega) only [x_and, x_or, x_shl, x_shr, x_k, x_i, x_r, x_nil, x_add, x_sub, x_mul, x_div, x_rem, x_get, x_getR, x_ald, x_aldR, x_len, x_lenR, x_if, xa_nil, xa_ci, xa_cr, x_callI, x_callR, x_new, x_newa, x_newq, x_max, x_min, xc_cmp, xc_cmp0, xc_null, xc_nn, xc_not, xc_and, xc_or, xc_if, xs_skip, xs_seq, xs_decI, xs_decR, xs_setI, xs_inc, xs_if, xs_blk, xs_retI, xs_retB, xs_retR, xs_retD, xs_ret0, xs_putI, xs_putZ, xs_putR, xs_putop, xs_ast, xs_astop, xs_astR, xs_callV, xs_callP, xs_super, xs_sw, s_go_inl, s_go_inr, s_cut_inl, s_cut_inr, o_void_n, v_i_int, v_i_none, v_r_ref, v_r_null, v_r_rf, h_set_some, o_some_s, zB_ne0, zB_ite, zB_ite2, g_Vn, g_Pi, nI_add, Option.bind_some, Option.map_some, Option.bind_none, Option.map_none, List.getElem?_cons_zero, List.getElem?_cons_succ, List.set_cons_zero, List.set_cons_succ, List.cons_append, List.nil_append, List.take_succ_cons, List.take_zero, List.length_cons, List.length_nil, Nat.zero_add, Nat.reduceAdd, Nat.reduceLT, if_true, if_false, Bool.false_eq_true, Bool.true_eq_false, decide_eq_true_eq, decide_true, decide_false, Bool.not_true, Bool.not_false, Option.isNone_none, Option.isNone_some, Option.isSome_none, Option.isSome_some, ite_true, ite_false, reduceIte, reduceCtorEq, and_true, true_and, eq_self, Option.some.injEq, Sum.inr.injEq, Sum.inl.injEq, Prod.mk.injEq, not_true_eq_false, not_false_eq_true, Bool.decide_eq_true, n0_ne, n1_ne, xz_ret, zb_if, n1_if, n0_if, v_rf, h_ix_nI, nI_clamp, zB_t, zB_f, uN_uN, uN_ap, Nat.reduceEqDiff, Nat.reduceMul, Nat.reduceSub, mp_a0 hσ, mp_a1 hσ, mp_a2 hσ, mp_a3 hσ, mp_a4 hσ, mp_s0 hσ, mp_s1 hσ, mp_s2 hσ, mp_s3 hσ, mp_s4 hσ, f10, j_lt, h2], by
      show W_L_out_1 [.ref 60, .ref 61, .int (nI i), .int (nI j)] (mp σ (uN (uN M 1 f1) 0 (G j))) = some (.inr ([.ref 60, .ref 61, .int (nI i), .int (nI (j + 1))], mp σ (uN (uN M 1 f1) 0 (G (j + 1)))))
      have e : upd (G j) j (G j (j + 1)) = G (j + 1) := by
        funext z
        simp only [upd, G]
        (repeat' split) <;> first | rfl | (exfalso; omega) | (refine congrArg _ ?_; omega) | (congr 1; omega)
      simp (disch := omega) only [x_and, x_or, x_shl, x_shr, x_k, x_i, x_r, x_nil, x_add, x_sub, x_mul, x_div, x_rem, x_get, x_getR, x_ald, x_aldR, x_len, x_lenR, x_if, xa_nil, xa_ci, xa_cr, x_callI, x_callR, x_new, x_newa, x_newq, x_max, x_min, xc_cmp, xc_cmp0, xc_null, xc_nn, xc_not, xc_and, xc_or, xc_if, xs_skip, xs_seq, xs_decI, xs_decR, xs_setI, xs_inc, xs_if, xs_blk, xs_retI, xs_retB, xs_retR, xs_retD, xs_ret0, xs_putI, xs_putZ, xs_putR, xs_putop, xs_ast, xs_astop, xs_astR, xs_callV, xs_callP, xs_super, xs_sw, s_go_inl, s_go_inr, s_cut_inl, s_cut_inr, o_void_n, v_i_int, v_i_none, v_r_ref, v_r_null, v_r_rf, h_set_some, o_some_s, zB_ne0, zB_ite, zB_ite2, g_Vn, g_Pi, nI_add, Option.bind_some, Option.map_some, Option.bind_none, Option.map_none, List.getElem?_cons_zero, List.getElem?_cons_succ, List.set_cons_zero, List.set_cons_succ, List.cons_append, List.nil_append, List.take_succ_cons, List.take_zero, List.length_cons, List.length_nil, Nat.zero_add, Nat.reduceAdd, Nat.reduceLT, if_true, if_false, Bool.false_eq_true, Bool.true_eq_false, decide_eq_true_eq, decide_true, decide_false, Bool.not_true, Bool.not_false, Option.isNone_none, Option.isNone_some, Option.isSome_none, Option.isSome_some, ite_true, ite_false, reduceIte, reduceCtorEq, and_true, true_and, eq_self, Option.some.injEq, Sum.inr.injEq, Sum.inl.injEq, Prod.mk.injEq, not_true_eq_false, not_false_eq_true, Bool.decide_eq_true, n0_ne, n1_ne, xz_ret, zb_if, n1_if, n0_if, v_rf, h_ix_nI, nI_clamp, zB_t, zB_f, uN_uN, uN_ap, Nat.reduceEqDiff, Nat.reduceMul, Nat.reduceSub, mp_a0 hσ, mp_a1 hσ, mp_a2 hσ, mp_a3 hσ, mp_a4 hσ, mp_s0 hσ, mp_s1 hσ, mp_s2 hσ, mp_s3 hσ, mp_s4 hσ, e]⟩) (by
      show C_L_out_1 [.ref 60, .ref 61, .int (nI i), .int (nI n)] (mp σ (uN (uN M 1 f1) 0 (G n))) = some (false, mp σ (uN (uN M 1 f1) 0 (G n)))
      simp (disch := omega) only [x_and, x_or, x_shl, x_shr, x_k, x_i, x_r, x_nil, x_add, x_sub, x_mul, x_div, x_rem, x_get, x_getR, x_ald, x_aldR, x_len, x_lenR, x_if, xa_nil, xa_ci, xa_cr, x_callI, x_callR, x_new, x_newa, x_newq, x_max, x_min, xc_cmp, xc_cmp0, xc_null, xc_nn, xc_not, xc_and, xc_or, xc_if, xs_skip, xs_seq, xs_decI, xs_decR, xs_setI, xs_inc, xs_if, xs_blk, xs_retI, xs_retB, xs_retR, xs_retD, xs_ret0, xs_putI, xs_putZ, xs_putR, xs_putop, xs_ast, xs_astop, xs_astR, xs_callV, xs_callP, xs_super, xs_sw, s_go_inl, s_go_inr, s_cut_inl, s_cut_inr, o_void_n, v_i_int, v_i_none, v_r_ref, v_r_null, v_r_rf, h_set_some, o_some_s, zB_ne0, zB_ite, zB_ite2, g_Vn, g_Pi, nI_add, Option.bind_some, Option.map_some, Option.bind_none, Option.map_none, List.getElem?_cons_zero, List.getElem?_cons_succ, List.set_cons_zero, List.set_cons_succ, List.cons_append, List.nil_append, List.take_succ_cons, List.take_zero, List.length_cons, List.length_nil, Nat.zero_add, Nat.reduceAdd, Nat.reduceLT, if_true, if_false, Bool.false_eq_true, Bool.true_eq_false, decide_eq_true_eq, decide_true, decide_false, Bool.not_true, Bool.not_false, Option.isNone_none, Option.isNone_some, Option.isSome_none, Option.isSome_some, ite_true, ite_false, reduceIte, reduceCtorEq, and_true, true_and, eq_self, Option.some.injEq, Sum.inr.injEq, Sum.inl.injEq, Prod.mk.injEq, not_true_eq_false, not_false_eq_true, Bool.decide_eq_true, n0_ne, n1_ne, xz_ret, zb_if, n1_if, n0_if, v_rf, h_ix_nI, nI_clamp, zB_t, zB_f, uN_uN, uN_ap, Nat.reduceEqDiff, Nat.reduceMul, Nat.reduceSub, mp_a0 hσ, mp_a1 hσ, mp_a2 hσ, mp_a3 hσ, mp_a4 hσ, mp_s0 hσ, mp_s1 hσ, mp_s2 hσ, mp_s3 hσ, mp_s4 hσ, f10, j_lt, Nat.lt_irrefl])
  refine ⟨uN (uN M 1 f1) 0 (G n), m_eq rfl rfl ?_, ⟨h.1.erase hi, ?_, ?_, ?_, ?_, ?_⟩, fun k hk => ?_⟩
  · unfold B_L_out
    simp (disch := omega) only [x_and, x_or, x_shl, x_shr, x_k, x_i, x_r, x_nil, x_add, x_sub, x_mul, x_div, x_rem, x_get, x_getR, x_ald, x_aldR, x_len, x_lenR, x_if, xa_nil, xa_ci, xa_cr, x_callI, x_callR, x_new, x_newa, x_newq, x_max, x_min, xc_cmp, xc_cmp0, xc_null, xc_nn, xc_not, xc_and, xc_or, xc_if, xs_skip, xs_seq, xs_decI, xs_decR, xs_setI, xs_inc, xs_if, xs_blk, xs_retI, xs_retB, xs_retR, xs_retD, xs_ret0, xs_putI, xs_putZ, xs_putR, xs_putop, xs_ast, xs_astop, xs_astR, xs_callV, xs_callP, xs_super, xs_sw, s_go_inl, s_go_inr, s_cut_inl, s_cut_inr, o_void_n, v_i_int, v_i_none, v_r_ref, v_r_null, v_r_rf, h_set_some, o_some_s, zB_ne0, zB_ite, zB_ite2, g_Vn, g_Pi, nI_add, Option.bind_some, Option.map_some, Option.bind_none, Option.map_none, List.getElem?_cons_zero, List.getElem?_cons_succ, List.set_cons_zero, List.set_cons_succ, List.cons_append, List.nil_append, List.take_succ_cons, List.take_zero, List.length_cons, List.length_nil, Nat.zero_add, Nat.reduceAdd, Nat.reduceLT, if_true, if_false, Bool.false_eq_true, Bool.true_eq_false, decide_eq_true_eq, decide_true, decide_false, Bool.not_true, Bool.not_false, Option.isNone_none, Option.isNone_some, Option.isSome_none, Option.isSome_some, ite_true, ite_false, reduceIte, reduceCtorEq, and_true, true_and, eq_self, Option.some.injEq, Sum.inr.injEq, Sum.inl.injEq, Prod.mk.injEq, not_true_eq_false, not_false_eq_true, Bool.decide_eq_true, n0_ne, n1_ne, xz_ret, zb_if, n1_if, n0_if, v_rf, h_ix_nI, nI_clamp, zB_t, zB_f, uN_uN, uN_ap, Nat.reduceEqDiff, Nat.reduceMul, Nat.reduceSub, mp_a0 hσ, mp_a1 hσ, mp_a2 hσ, mp_a3 hσ, mp_a4 hσ, mp_s0 hσ, mp_s1 hσ, mp_s2 hσ, mp_s3 hσ, mp_s4 hσ, h.z, hs, ← hf1, hw]
  · show f1 0 = nI (S.1.eraseIdx i).length
    rw [List.length_eraseIdx, if_pos hi, ← hn, Nat.add_sub_cancel, f10]
  · show f1 1 = _
    rw [f1o 1 (by omega)]; exact h.2.2.1
  · show f1 2 = _
    rw [f1o 2 (by omega)]; exact h.2.2.2.1
  · show f1 3 = _
    rw [f1o 3 (by omega)]; exact h.2.2.2.2.1
  · intro k x hx
    have hx : (S.1.eraseIdx i)[k]? = some x := hx
    have hk : k < n := by
      have := (List.getElem?_eq_some_iff.mp hx).1
      rw [List.length_eraseIdx, if_pos hi, ← hn, Nat.add_sub_cancel] at this
      exact this
    rw [List.getElem?_eraseIdx] at hx
    show (if i ≤ k ∧ k < n then M 0 (k + 1) else M 0 k) = _
    by_cases c : k < i
    · rw [if_pos c] at hx
      rw [if_neg (by omega)]
      exact h.2.2.2.2.2 k x hx
    · rw [if_neg c] at hx
      rw [if_pos (by omega)]
      exact h.2.2.2.2.2 (k + 1) x hx
  · show (if k = 0 then _ else if k = 1 then _ else M k) = M k
    rw [if_neg (by omega), if_neg (by omega)]
theorem l_put (hσ : 65 ≤ σ.1.length) (h : LN S M) {i x : Nat} (hi : i ≤ S.1.length) (hx : 1 ≤ x ∧ x ≤ 9999) (hf : S.1.length < 12) : ∃ M', M_L_put [.ref 60, .ref 61, .int (nI i), .int (nI x)] (mp σ M) = some (none, mp σ M') ∧ LN (S.1.insertIdx i x, S.2) M' ∧ ∀ k, 2 ≤ k → M' k = M k := by
  obtain ⟨n, hn⟩ : ∃ n, n = S.1.length := ⟨_, rfl⟩
  let G : Nat → Nat → Int32 := fun t z => if n - t < z ∧ z ≤ n then M 0 (z - 1) else M 0 z
  have G0 : uN M 0 (G 0) = M := by
    have e : G 0 = M 0 := by
      funext z
      simp only [G]
      (repeat' split) <;> first | rfl | (exfalso; omega) | (refine congrArg _ ?_; omega) | (congr 1; omega)
    rw [e]
    exact uN_self M 0
  have hw := wh_up (C := C_L_put_1) (S := W_L_put_1) (L := [.ref 60, .ref 61, .int (nI i), .int (nI x), .int (nI n)]) (σ := mp σ M) (fun t => ([.ref 60, .ref 61, .int (nI i), .int (nI x), .int (nI (n - t))], mp σ (uN M 0 (G t)))) 0 (n - i) (by rw [G0]; rfl) (by omega) (by omega) (fun t h1 h2 => ⟨by
      show C_L_put_1 [.ref 60, .ref 61, .int (nI i), .int (nI x), .int (nI (n - t))] (mp σ (uN M 0 (G t))) = some (true, mp σ (uN M 0 (G t)))
      simp (disch := omega) only [x_and, x_or, x_shl, x_shr, x_k, x_i, x_r, x_nil, x_add, x_sub, x_mul, x_div, x_rem, x_get, x_getR, x_ald, x_aldR, x_len, x_lenR, x_if, xa_nil, xa_ci, xa_cr, x_callI, x_callR, x_new, x_newa, x_newq, x_max, x_min, xc_cmp, xc_cmp0, xc_null, xc_nn, xc_not, xc_and, xc_or, xc_if, xs_skip, xs_seq, xs_decI, xs_decR, xs_setI, xs_inc, xs_if, xs_blk, xs_retI, xs_retB, xs_retR, xs_retD, xs_ret0, xs_putI, xs_putZ, xs_putR, xs_putop, xs_ast, xs_astop, xs_astR, xs_callV, xs_callP, xs_super, xs_sw, s_go_inl, s_go_inr, s_cut_inl, s_cut_inr, o_void_n, v_i_int, v_i_none, v_r_ref, v_r_null, v_r_rf, h_set_some, o_some_s, zB_ne0, zB_ite, zB_ite2, g_Vn, g_Pi, nI_add, Option.bind_some, Option.map_some, Option.bind_none, Option.map_none, List.getElem?_cons_zero, List.getElem?_cons_succ, List.set_cons_zero, List.set_cons_succ, List.cons_append, List.nil_append, List.take_succ_cons, List.take_zero, List.length_cons, List.length_nil, Nat.zero_add, Nat.reduceAdd, Nat.reduceLT, if_true, if_false, Bool.false_eq_true, Bool.true_eq_false, decide_eq_true_eq, decide_true, decide_false, Bool.not_true, Bool.not_false, Option.isNone_none, Option.isNone_some, Option.isSome_none, Option.isSome_some, ite_true, ite_false, reduceIte, reduceCtorEq, and_true, true_and, eq_self, Option.some.injEq, Sum.inr.injEq, Sum.inl.injEq, Prod.mk.injEq, j_gt, show i < n - t by omega], by
      show W_L_put_1 [.ref 60, .ref 61, .int (nI i), .int (nI x), .int (nI (n - t))] (mp σ (uN M 0 (G t))) = some (.inr ([.ref 60, .ref 61, .int (nI i), .int (nI x), .int (nI (n - (t + 1)))], mp σ (uN M 0 (G (t + 1)))))
      have e : upd (G t) (n - t) (G t (n - t - 1)) = G (t + 1) := by
        funext z
        simp only [upd, G]
        (repeat' split) <;> first | rfl | (exfalso; omega) | (refine congrArg _ ?_; omega) | (congr 1; omega)
      have e2 : nI (n - t) + -1 = nI (n - (t + 1)) := j_dec (by omega)
      simp (disch := omega) only [x_and, x_or, x_shl, x_shr, x_k, x_i, x_r, x_nil, x_add, x_sub, x_mul, x_div, x_rem, x_get, x_getR, x_ald, x_aldR, x_len, x_lenR, x_if, xa_nil, xa_ci, xa_cr, x_callI, x_callR, x_new, x_newa, x_newq, x_max, x_min, xc_cmp, xc_cmp0, xc_null, xc_nn, xc_not, xc_and, xc_or, xc_if, xs_skip, xs_seq, xs_decI, xs_decR, xs_setI, xs_inc, xs_if, xs_blk, xs_retI, xs_retB, xs_retR, xs_retD, xs_ret0, xs_putI, xs_putZ, xs_putR, xs_putop, xs_ast, xs_astop, xs_astR, xs_callV, xs_callP, xs_super, xs_sw, s_go_inl, s_go_inr, s_cut_inl, s_cut_inr, o_void_n, v_i_int, v_i_none, v_r_ref, v_r_null, v_r_rf, h_set_some, o_some_s, zB_ne0, zB_ite, zB_ite2, g_Vn, g_Pi, nI_add, Option.bind_some, Option.map_some, Option.bind_none, Option.map_none, List.getElem?_cons_zero, List.getElem?_cons_succ, List.set_cons_zero, List.set_cons_succ, List.cons_append, List.nil_append, List.take_succ_cons, List.take_zero, List.length_cons, List.length_nil, Nat.zero_add, Nat.reduceAdd, Nat.reduceLT, if_true, if_false, Bool.false_eq_true, Bool.true_eq_false, decide_eq_true_eq, decide_true, decide_false, Bool.not_true, Bool.not_false, Option.isNone_none, Option.isNone_some, Option.isSome_none, Option.isSome_some, ite_true, ite_false, reduceIte, reduceCtorEq, and_true, true_and, eq_self, Option.some.injEq, Sum.inr.injEq, Sum.inl.injEq, Prod.mk.injEq, not_true_eq_false, not_false_eq_true, Bool.decide_eq_true, n0_ne, n1_ne, xz_ret, zb_if, n1_if, n0_if, v_rf, h_ix_nI, nI_clamp, zB_t, zB_f, uN_uN, uN_ap, Nat.reduceEqDiff, Nat.reduceMul, Nat.reduceSub, mp_a0 hσ, mp_a1 hσ, mp_a2 hσ, mp_a3 hσ, mp_a4 hσ, mp_s0 hσ, mp_s1 hσ, mp_s2 hσ, mp_s3 hσ, mp_s4 hσ, pk_sub, e, e2]⟩) (by
      show C_L_put_1 [.ref 60, .ref 61, .int (nI i), .int (nI x), .int (nI (n - (n - i)))] (mp σ (uN M 0 (G (n - i)))) = some (false, mp σ (uN M 0 (G (n - i))))
      simp (disch := omega) only [x_and, x_or, x_shl, x_shr, x_k, x_i, x_r, x_nil, x_add, x_sub, x_mul, x_div, x_rem, x_get, x_getR, x_ald, x_aldR, x_len, x_lenR, x_if, xa_nil, xa_ci, xa_cr, x_callI, x_callR, x_new, x_newa, x_newq, x_max, x_min, xc_cmp, xc_cmp0, xc_null, xc_nn, xc_not, xc_and, xc_or, xc_if, xs_skip, xs_seq, xs_decI, xs_decR, xs_setI, xs_inc, xs_if, xs_blk, xs_retI, xs_retB, xs_retR, xs_retD, xs_ret0, xs_putI, xs_putZ, xs_putR, xs_putop, xs_ast, xs_astop, xs_astR, xs_callV, xs_callP, xs_super, xs_sw, s_go_inl, s_go_inr, s_cut_inl, s_cut_inr, o_void_n, v_i_int, v_i_none, v_r_ref, v_r_null, v_r_rf, h_set_some, o_some_s, zB_ne0, zB_ite, zB_ite2, g_Vn, g_Pi, nI_add, Option.bind_some, Option.map_some, Option.bind_none, Option.map_none, List.getElem?_cons_zero, List.getElem?_cons_succ, List.set_cons_zero, List.set_cons_succ, List.cons_append, List.nil_append, List.take_succ_cons, List.take_zero, List.length_cons, List.length_nil, Nat.zero_add, Nat.reduceAdd, Nat.reduceLT, if_true, if_false, Bool.false_eq_true, Bool.true_eq_false, decide_eq_true_eq, decide_true, decide_false, Bool.not_true, Bool.not_false, Option.isNone_none, Option.isNone_some, Option.isSome_none, Option.isSome_some, ite_true, ite_false, reduceIte, reduceCtorEq, and_true, true_and, eq_self, Option.some.injEq, Sum.inr.injEq, Sum.inl.injEq, Prod.mk.injEq, j_gt, show ¬ i < n - (n - i) by omega])
  have ez : n - (n - i) = i := by omega
  have hw2 : s_while C_L_put_1 W_L_put_1 [.ref 60, .ref 61, .int (nI i), .int (nI x), .int (nI n)] (mp σ M) = some (.inr ([.ref 60, .ref 61, .int (nI i), .int (nI x), .int (nI i)], mp σ (uN M 0 (G (n - i))))) := by
    rw [hw]
    simp only [ez]
  obtain ⟨G1, hG1⟩ : ∃ G1, G1 = upd (G (n - i)) i (nI x) := ⟨_, rfl⟩
  obtain ⟨f1, hf1⟩ : ∃ f1, f1 = upd (M 1) 0 (nI (n + 1)) := ⟨_, rfl⟩
  have f10 : f1 0 = nI (n + 1) := by rw [hf1]; rfl
  have f1o : ∀ z, z ≠ 0 → f1 z = M 1 z := fun z hz => by rw [hf1]; exact if_neg hz
  refine ⟨uN (uN M 0 G1) 1 f1, m_eq rfl rfl ?_, ⟨h.1.ins hi hf hx.1 hx.2, ?_, ?_, ?_, ?_, ?_⟩, fun k hk => ?_⟩
  · unfold B_L_put
    simp (disch := omega) only [x_and, x_or, x_shl, x_shr, x_k, x_i, x_r, x_nil, x_add, x_sub, x_mul, x_div, x_rem, x_get, x_getR, x_ald, x_aldR, x_len, x_lenR, x_if, xa_nil, xa_ci, xa_cr, x_callI, x_callR, x_new, x_newa, x_newq, x_max, x_min, xc_cmp, xc_cmp0, xc_null, xc_nn, xc_not, xc_and, xc_or, xc_if, xs_skip, xs_seq, xs_decI, xs_decR, xs_setI, xs_inc, xs_if, xs_blk, xs_retI, xs_retB, xs_retR, xs_retD, xs_ret0, xs_putI, xs_putZ, xs_putR, xs_putop, xs_ast, xs_astop, xs_astR, xs_callV, xs_callP, xs_super, xs_sw, s_go_inl, s_go_inr, s_cut_inl, s_cut_inr, o_void_n, v_i_int, v_i_none, v_r_ref, v_r_null, v_r_rf, h_set_some, o_some_s, zB_ne0, zB_ite, zB_ite2, g_Vn, g_Pi, nI_add, Option.bind_some, Option.map_some, Option.bind_none, Option.map_none, List.getElem?_cons_zero, List.getElem?_cons_succ, List.set_cons_zero, List.set_cons_succ, List.cons_append, List.nil_append, List.take_succ_cons, List.take_zero, List.length_cons, List.length_nil, Nat.zero_add, Nat.reduceAdd, Nat.reduceLT, if_true, if_false, Bool.false_eq_true, Bool.true_eq_false, decide_eq_true_eq, decide_true, decide_false, Bool.not_true, Bool.not_false, Option.isNone_none, Option.isNone_some, Option.isSome_none, Option.isSome_some, ite_true, ite_false, reduceIte, reduceCtorEq, and_true, true_and, eq_self, Option.some.injEq, Sum.inr.injEq, Sum.inl.injEq, Prod.mk.injEq, not_true_eq_false, not_false_eq_true, Bool.decide_eq_true, n0_ne, n1_ne, xz_ret, zb_if, n1_if, n0_if, v_rf, h_ix_nI, nI_clamp, zB_t, zB_f, uN_uN, uN_ap, Nat.reduceEqDiff, Nat.reduceMul, Nat.reduceSub, mp_a0 hσ, mp_a1 hσ, mp_a2 hσ, mp_a3 hσ, mp_a4 hσ, mp_s0 hσ, mp_s1 hσ, mp_s2 hσ, mp_s3 hσ, mp_s4 hσ, h.z, ← hn, hw2, ← hG1, ← hf1]
  · show f1 0 = nI (S.1.insertIdx i x).length
    rw [List.length_insertIdx, if_pos hi, ← hn, f10]
  · show f1 1 = _
    rw [f1o 1 (by omega)]; exact h.2.2.1
  · show f1 2 = _
    rw [f1o 2 (by omega)]; exact h.2.2.2.1
  · show f1 3 = _
    rw [f1o 3 (by omega)]; exact h.2.2.2.2.1
  · intro k y hy
    have hy : (S.1.insertIdx i x)[k]? = some y := hy
    rw [List.getElem?_insertIdx] at hy
    show G1 k = _
    rw [hG1]
    by_cases c1 : k < i
    · rw [if_pos c1] at hy
      show (if k = i then _ else if n - (n - i) < k ∧ k ≤ n then _ else M 0 k) = _
      rw [if_neg (by omega), if_neg (by omega)]
      exact h.2.2.2.2.2 k y hy
    · rw [if_neg c1] at hy
      by_cases c2 : k = i
      · rw [if_pos c2, if_pos (by omega)] at hy
        cases hy
        exact if_pos c2
      · rw [if_neg c2] at hy
        have hk := (List.getElem?_eq_some_iff.mp hy).1
        show (if k = i then _ else if n - (n - i) < k ∧ k ≤ n then M 0 (k - 1) else _) = _
        rw [if_neg c2, if_pos (by omega)]
        exact h.2.2.2.2.2 (k - 1) y hy
  · show (if k = 1 then _ else if k = 0 then _ else M k) = M k
    rw [if_neg (by omega), if_neg (by omega)]
/-- the rows of chips and of what came -/
theorem mp_aK {k : Nat} (hk : k = 2 ∨ k = 3) (hσ : 65 ≤ σ.1.length) : h_arr (mp σ M) (some (60 + k)) = some (25, M k) := by
  rcases hk with rfl | rfl
  · exact mp_a2 hσ
  · exact mp_a3 hσ
theorem mp_sK {k : Nat} (hk : k = 2 ∨ k = 3) (hσ : 65 ≤ σ.1.length) {f : Nat → Int32} : ((mp σ M).1.set (60 + k) (.inr (.inl (25, f))), (mp σ M).2) = mp σ (uN M k f) := by
  rcases hk with rfl | rfl
  · exact mp_s2 hσ
  · exact mp_s3 hσ
theorem l_account (hσ : 65 ≤ σ.1.length) (hr : ∀ j, j < 25 → M 4 j = nI (p25 j)) {k : Nat} (hk : k = 2 ∨ k = 3) {x : Nat} (h1 : 1 ≤ x) (h9 : x ≤ 9999) (b : Int32) : ∃ f, M_L_account [.ref (60 + k), .ref 64, .int (nI x), .int b] (mp σ M) = some (none, mp σ (uN M k f)) ∧ ∀ j, j < 25 → f j = M k j + b * nI (ex (p25 j) x) := by
  have k4 : ¬ 4 = k := by omega
  let G : Nat → Nat → Int32 := fun j z => if z < j then M k z + b * nI (ex (p25 z) x) else M k z
  have G0 : uN M k (G 0) = M := by
    have e : G 0 = M k := by
      funext z
      simp only [G]
      (repeat' split) <;> first | rfl | (exfalso; omega) | (refine congrArg _ ?_; omega) | (congr 1; omega)
    rw [e]
    exact uN_self M k
  have hw := wh_up (C := C_L_account_1) (S := W_L_account_1) (L := [.ref (60 + k), .ref 64, .int (nI x), .int b, .int (nI 0)]) (σ := mp σ M) (fun j => ([.ref (60 + k), .ref 64, .int (nI x), .int b, .int (nI j)], mp σ (uN M k (G j)))) 0 25 (by rw [G0]) (by omega) (by omega) (fun j h1' h2 => ⟨by
      show C_L_account_1 [.ref (60 + k), .ref 64, .int (nI x), .int b, .int (nI j)] (mp σ (uN M k (G j))) = some (true, mp σ (uN M k (G j)))
      simp (disch := omega) only [x_and, x_or, x_shl, x_shr, x_k, x_i, x_r, x_nil, x_add, x_sub, x_mul, x_div, x_rem, x_get, x_getR, x_ald, x_aldR, x_len, x_lenR, x_if, xa_nil, xa_ci, xa_cr, x_callI, x_callR, x_new, x_newa, x_newq, x_max, x_min, xc_cmp, xc_cmp0, xc_null, xc_nn, xc_not, xc_and, xc_or, xc_if, xs_skip, xs_seq, xs_decI, xs_decR, xs_setI, xs_inc, xs_if, xs_blk, xs_retI, xs_retB, xs_retR, xs_retD, xs_ret0, xs_putI, xs_putZ, xs_putR, xs_putop, xs_ast, xs_astop, xs_astR, xs_callV, xs_callP, xs_super, xs_sw, s_go_inl, s_go_inr, s_cut_inl, s_cut_inr, o_void_n, v_i_int, v_i_none, v_r_ref, v_r_null, v_r_rf, h_set_some, o_some_s, zB_ne0, zB_ite, zB_ite2, g_Vn, g_Pi, nI_add, Option.bind_some, Option.map_some, Option.bind_none, Option.map_none, List.getElem?_cons_zero, List.getElem?_cons_succ, List.set_cons_zero, List.set_cons_succ, List.cons_append, List.nil_append, List.take_succ_cons, List.take_zero, List.length_cons, List.length_nil, Nat.zero_add, Nat.reduceAdd, Nat.reduceLT, if_true, if_false, Bool.false_eq_true, Bool.true_eq_false, decide_eq_true_eq, decide_true, decide_false, Bool.not_true, Bool.not_false, Option.isNone_none, Option.isNone_some, Option.isSome_none, Option.isSome_some, ite_true, ite_false, reduceIte, reduceCtorEq, and_true, true_and, eq_self, Option.some.injEq, Sum.inr.injEq, Sum.inl.injEq, Prod.mk.injEq, j_lt, h2], by
      show W_L_account_1 [.ref (60 + k), .ref 64, .int (nI x), .int b, .int (nI j)] (mp σ (uN M k (G j))) = some (.inr ([.ref (60 + k), .ref 64, .int (nI x), .int b, .int (nI (j + 1))], mp σ (uN M k (G (j + 1)))))
      have p := p25_ok j h2
      have g : G j j = M k j := if_neg (Nat.lt_irrefl j)
      have e : upd (G j) j (M k j + b * nI (ex (p25 j) x)) = G (j + 1) := by
        funext z
        simp only [upd, G]
        by_cases c : z = j
        · subst c
          rw [if_pos rfl, if_pos (by omega)]
        · rw [if_neg c]
          by_cases d : z < j
          · rw [if_pos d, if_pos (by omega)]
          · rw [if_neg d, if_neg (by omega)]
      have le := fun σ => l_exponent (σ := σ) (n := x) (p := p25 j) h1 h9 p.1 (by omega)
      simp (disch := omega) only [x_and, x_or, x_shl, x_shr, x_k, x_i, x_r, x_nil, x_add, x_sub, x_mul, x_div, x_rem, x_get, x_getR, x_ald, x_aldR, x_len, x_lenR, x_if, xa_nil, xa_ci, xa_cr, x_callI, x_callR, x_new, x_newa, x_newq, x_max, x_min, xc_cmp, xc_cmp0, xc_null, xc_nn, xc_not, xc_and, xc_or, xc_if, xs_skip, xs_seq, xs_decI, xs_decR, xs_setI, xs_inc, xs_if, xs_blk, xs_retI, xs_retB, xs_retR, xs_retD, xs_ret0, xs_putI, xs_putZ, xs_putR, xs_putop, xs_ast, xs_astop, xs_astR, xs_callV, xs_callP, xs_super, xs_sw, s_go_inl, s_go_inr, s_cut_inl, s_cut_inr, o_void_n, v_i_int, v_i_none, v_r_ref, v_r_null, v_r_rf, h_set_some, o_some_s, zB_ne0, zB_ite, zB_ite2, g_Vn, g_Pi, nI_add, Option.bind_some, Option.map_some, Option.bind_none, Option.map_none, List.getElem?_cons_zero, List.getElem?_cons_succ, List.set_cons_zero, List.set_cons_succ, List.cons_append, List.nil_append, List.take_succ_cons, List.take_zero, List.length_cons, List.length_nil, Nat.zero_add, Nat.reduceAdd, Nat.reduceLT, if_true, if_false, Bool.false_eq_true, Bool.true_eq_false, decide_eq_true_eq, decide_true, decide_false, Bool.not_true, Bool.not_false, Option.isNone_none, Option.isNone_some, Option.isSome_none, Option.isSome_some, ite_true, ite_false, reduceIte, reduceCtorEq, and_true, true_and, eq_self, Option.some.injEq, Sum.inr.injEq, Sum.inl.injEq, Prod.mk.injEq, not_true_eq_false, not_false_eq_true, Bool.decide_eq_true, n0_ne, n1_ne, xz_ret, zb_if, n1_if, n0_if, v_rf, h_ix_nI, nI_clamp, zB_t, zB_f, uN_uN, uN_ap, Nat.reduceEqDiff, Nat.reduceMul, Nat.reduceSub, mp_aK hk hσ, mp_sK hk hσ, mp_a4 hσ, k4, hr j h2, g, le, e]⟩) (by
      show C_L_account_1 [.ref (60 + k), .ref 64, .int (nI x), .int b, .int (nI 25)] (mp σ (uN M k (G 25))) = some (false, mp σ (uN M k (G 25)))
      simp (disch := omega) only [x_and, x_or, x_shl, x_shr, x_k, x_i, x_r, x_nil, x_add, x_sub, x_mul, x_div, x_rem, x_get, x_getR, x_ald, x_aldR, x_len, x_lenR, x_if, xa_nil, xa_ci, xa_cr, x_callI, x_callR, x_new, x_newa, x_newq, x_max, x_min, xc_cmp, xc_cmp0, xc_null, xc_nn, xc_not, xc_and, xc_or, xc_if, xs_skip, xs_seq, xs_decI, xs_decR, xs_setI, xs_inc, xs_if, xs_blk, xs_retI, xs_retB, xs_retR, xs_retD, xs_ret0, xs_putI, xs_putZ, xs_putR, xs_putop, xs_ast, xs_astop, xs_astR, xs_callV, xs_callP, xs_super, xs_sw, s_go_inl, s_go_inr, s_cut_inl, s_cut_inr, o_void_n, v_i_int, v_i_none, v_r_ref, v_r_null, v_r_rf, h_set_some, o_some_s, zB_ne0, zB_ite, zB_ite2, g_Vn, g_Pi, nI_add, Option.bind_some, Option.map_some, Option.bind_none, Option.map_none, List.getElem?_cons_zero, List.getElem?_cons_succ, List.set_cons_zero, List.set_cons_succ, List.cons_append, List.nil_append, List.take_succ_cons, List.take_zero, List.length_cons, List.length_nil, Nat.zero_add, Nat.reduceAdd, Nat.reduceLT, if_true, if_false, Bool.false_eq_true, Bool.true_eq_false, decide_eq_true_eq, decide_true, decide_false, Bool.not_true, Bool.not_false, Option.isNone_none, Option.isNone_some, Option.isSome_none, Option.isSome_some, ite_true, ite_false, reduceIte, reduceCtorEq, and_true, true_and, eq_self, Option.some.injEq, Sum.inr.injEq, Sum.inl.injEq, Prod.mk.injEq, j_lt, Nat.lt_irrefl])
  refine ⟨G 25, m_eq rfl rfl ?_, fun j hj => if_pos hj⟩
  unfold B_L_account
  simp (disch := omega) only [x_and, x_or, x_shl, x_shr, x_k, x_i, x_r, x_nil, x_add, x_sub, x_mul, x_div, x_rem, x_get, x_getR, x_ald, x_aldR, x_len, x_lenR, x_if, xa_nil, xa_ci, xa_cr, x_callI, x_callR, x_new, x_newa, x_newq, x_max, x_min, xc_cmp, xc_cmp0, xc_null, xc_nn, xc_not, xc_and, xc_or, xc_if, xs_skip, xs_seq, xs_decI, xs_decR, xs_setI, xs_inc, xs_if, xs_blk, xs_retI, xs_retB, xs_retR, xs_retD, xs_ret0, xs_putI, xs_putZ, xs_putR, xs_putop, xs_ast, xs_astop, xs_astR, xs_callV, xs_callP, xs_super, xs_sw, s_go_inl, s_go_inr, s_cut_inl, s_cut_inr, o_void_n, v_i_int, v_i_none, v_r_ref, v_r_null, v_r_rf, h_set_some, o_some_s, zB_ne0, zB_ite, zB_ite2, g_Vn, g_Pi, nI_add, Option.bind_some, Option.map_some, Option.bind_none, Option.map_none, List.getElem?_cons_zero, List.getElem?_cons_succ, List.set_cons_zero, List.set_cons_succ, List.cons_append, List.nil_append, List.take_succ_cons, List.take_zero, List.length_cons, List.length_nil, Nat.zero_add, Nat.reduceAdd, Nat.reduceLT, if_true, if_false, Bool.false_eq_true, Bool.true_eq_false, decide_eq_true_eq, decide_true, decide_false, Bool.not_true, Bool.not_false, Option.isNone_none, Option.isNone_some, Option.isSome_none, Option.isSome_some, ite_true, ite_false, reduceIte, reduceCtorEq, and_true, true_and, eq_self, Option.some.injEq, Sum.inr.injEq, Sum.inl.injEq, Prod.mk.injEq, hw]
theorem l_broke (hσ : 65 ≤ σ.1.length) (h : LN S M) {i : Nat} (hi : i < S.1.length) : ∃ M', M_L_broke [.ref 60, .ref 61, .int (nI i)] (mp σ M) = some (none, mp σ M') ∧ LN (if sN S i = 1 then (S.1.eraseIdx i, S.2.1, S.2.2.1, S.2.2.2.1 + nI 1, S.2.2.2.2) else S) M' ∧ ∀ k, 2 ≤ k → M' k = M k := by
  have hl := h.1.1
  have b1 := sN_ok h.1 i
  by_cases c : sN S i = 1
  · obtain ⟨M1, r1, h1, o1⟩ := l_out hσ h hi
    obtain ⟨f, hf⟩ : ∃ f, f = upd (M1 1) 3 (M1 1 3 + nI 1) := ⟨_, rfl⟩
    have fo : ∀ z, z ≠ 3 → f z = M1 1 z := fun z hz => by rw [hf]; exact if_neg hz
    refine ⟨uN M1 1 f, m_eq rfl rfl ?_, ?_, fun k hk => ?_⟩
    · unfold B_L_broke
      simp (disch := omega) only [x_and, x_or, x_shl, x_shr, x_k, x_i, x_r, x_nil, x_add, x_sub, x_mul, x_div, x_rem, x_get, x_getR, x_ald, x_aldR, x_len, x_lenR, x_if, xa_nil, xa_ci, xa_cr, x_callI, x_callR, x_new, x_newa, x_newq, x_max, x_min, xc_cmp, xc_cmp0, xc_null, xc_nn, xc_not, xc_and, xc_or, xc_if, xs_skip, xs_seq, xs_decI, xs_decR, xs_setI, xs_inc, xs_if, xs_blk, xs_retI, xs_retB, xs_retR, xs_retD, xs_ret0, xs_putI, xs_putZ, xs_putR, xs_putop, xs_ast, xs_astop, xs_astR, xs_callV, xs_callP, xs_super, xs_sw, s_go_inl, s_go_inr, s_cut_inl, s_cut_inr, o_void_n, v_i_int, v_i_none, v_r_ref, v_r_null, v_r_rf, h_set_some, o_some_s, zB_ne0, zB_ite, zB_ite2, g_Vn, g_Pi, nI_add, Option.bind_some, Option.map_some, Option.bind_none, Option.map_none, List.getElem?_cons_zero, List.getElem?_cons_succ, List.set_cons_zero, List.set_cons_succ, List.cons_append, List.nil_append, List.take_succ_cons, List.take_zero, List.length_cons, List.length_nil, Nat.zero_add, Nat.reduceAdd, Nat.reduceLT, if_true, if_false, Bool.false_eq_true, Bool.true_eq_false, decide_eq_true_eq, decide_true, decide_false, Bool.not_true, Bool.not_false, Option.isNone_none, Option.isNone_some, Option.isSome_none, Option.isSome_some, ite_true, ite_false, reduceIte, reduceCtorEq, and_true, true_and, eq_self, Option.some.injEq, Sum.inr.injEq, Sum.inl.injEq, Prod.mk.injEq, not_true_eq_false, not_false_eq_true, Bool.decide_eq_true, n0_ne, n1_ne, xz_ret, zb_if, n1_if, n0_if, v_rf, h_ix_nI, nI_clamp, zB_t, zB_f, uN_uN, uN_ap, Nat.reduceEqDiff, Nat.reduceMul, Nat.reduceSub, mp_a0 hσ, mp_a1 hσ, mp_a2 hσ, mp_a3 hσ, mp_a4 hσ, mp_s0 hσ, mp_s1 hσ, mp_s2 hσ, mp_s3 hσ, mp_s4 hσ, h.nu hi, c, j_eq, r1, ← hf]
    · rw [if_pos c]
      refine ⟨h1.1, ?_, ?_, ?_, ?_, h1.2.2.2.2.2⟩
      · show f 0 = _
        rw [fo 0 (by omega)]; exact h1.2.1
      · show f 1 = _
        rw [fo 1 (by omega)]; exact h1.2.2.1
      · show f 2 = _
        rw [fo 2 (by omega)]; exact h1.2.2.2.1
      · show f 3 = _
        rw [hf]
        show M1 1 3 + nI 1 = _
        rw [h1.2.2.2.2.1]
    · show (if k = 1 then _ else M1 k) = M k
      rw [if_neg (by omega), o1 k hk]
  · refine ⟨M, m_eq rfl rfl ?_, by rw [if_neg c]; exact h, fun k _ => rfl⟩
    unfold B_L_broke
    simp (disch := omega) only [x_and, x_or, x_shl, x_shr, x_k, x_i, x_r, x_nil, x_add, x_sub, x_mul, x_div, x_rem, x_get, x_getR, x_ald, x_aldR, x_len, x_lenR, x_if, xa_nil, xa_ci, xa_cr, x_callI, x_callR, x_new, x_newa, x_newq, x_max, x_min, xc_cmp, xc_cmp0, xc_null, xc_nn, xc_not, xc_and, xc_or, xc_if, xs_skip, xs_seq, xs_decI, xs_decR, xs_setI, xs_inc, xs_if, xs_blk, xs_retI, xs_retB, xs_retR, xs_retD, xs_ret0, xs_putI, xs_putZ, xs_putR, xs_putop, xs_ast, xs_astop, xs_astR, xs_callV, xs_callP, xs_super, xs_sw, s_go_inl, s_go_inr, s_cut_inl, s_cut_inr, o_void_n, v_i_int, v_i_none, v_r_ref, v_r_null, v_r_rf, h_set_some, o_some_s, zB_ne0, zB_ite, zB_ite2, g_Vn, g_Pi, nI_add, Option.bind_some, Option.map_some, Option.bind_none, Option.map_none, List.getElem?_cons_zero, List.getElem?_cons_succ, List.set_cons_zero, List.set_cons_succ, List.cons_append, List.nil_append, List.take_succ_cons, List.take_zero, List.length_cons, List.length_nil, Nat.zero_add, Nat.reduceAdd, Nat.reduceLT, if_true, if_false, Bool.false_eq_true, Bool.true_eq_false, decide_eq_true_eq, decide_true, decide_false, Bool.not_true, Bool.not_false, Option.isNone_none, Option.isNone_some, Option.isSome_none, Option.isSome_some, ite_true, ite_false, reduceIte, reduceCtorEq, and_true, true_and, eq_self, Option.some.injEq, Sum.inr.injEq, Sum.inl.injEq, Prod.mk.injEq, not_true_eq_false, not_false_eq_true, Bool.decide_eq_true, n0_ne, n1_ne, xz_ret, zb_if, n1_if, n0_if, v_rf, h_ix_nI, nI_clamp, zB_t, zB_f, uN_uN, uN_ap, Nat.reduceEqDiff, Nat.reduceMul, Nat.reduceSub, mp_a0 hσ, mp_a1 hσ, mp_a2 hσ, mp_a3 hσ, mp_a4 hσ, mp_s0 hσ, mp_s1 hσ, mp_s2 hσ, mp_s3 hσ, mp_s4 hσ, h.nu hi, c, j_eq]
end
