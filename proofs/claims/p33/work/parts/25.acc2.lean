/-! Accounts, on (own work): places, booking, copies, sums -/
def okA (ps : List Nat) (ch cm : Nat → Int32) : Prop := ps.Nodup ∧ (∀ q ∈ ps, isPr q ∧ q ≤ 9999) ∧ ∀ q, isPr q → q ∉ ps → ch q = nI 0 ∧ cm q = nI 0
section
variable {σ : sSt} {b p c : Nat} {ps : List Nat} {ch cm : Nat → Int32}
theorem f_placeOf (hA : AccAt σ b p c ps ch cm) (hn : ps.Nodup) (hp : ∀ q ∈ ps, q ≤ 9999) {q : Nat} (hq : q ≤ 9999) :
    (∀ j, ps[j]? = some q → M_X0_placeOf [.ref b, .int (nI q)] σ = some (some (.int (nI j)), σ)) ∧ (q ∉ ps → M_X0_placeOf [.ref b, .int (nI q)] σ = some (some (.int (-1)), σ)) := by
  obtain ⟨h1, h2, h3, h4, h5, fp, fc, fm, e1, e2, e3, e4⟩ := hA
  let st : Nat → List Value × sSt := fun j => ([.ref b, .int (nI q), .int (nI j)], σ)
  have hC : ∀ j, j ≤ ps.length → C_X0_placeOf_1 [.ref b, .int (nI q), .int (nI j)] σ = some (decide (j < ps.length), σ) := by
    intro j hj
    simp only [x_and, x_or, x_shl, x_shr, x_k, x_i, x_r, x_nil, x_add, x_sub, x_mul, x_div, x_rem, x_get, x_getR, x_ald, x_aldR, x_len, x_lenR, x_if, xa_nil, xa_ci, xa_cr, x_callI, x_callR, x_new, x_newa, x_newq, x_max, x_min, xc_cmp, xc_cmp0, xc_null, xc_nn, xc_not, xc_and, xc_or, xc_if, xs_skip, xs_seq, xs_decI, xs_decR, xs_setI, xs_inc, xs_if, xs_blk, xs_retI, xs_retB, xs_retR, xs_retD, xs_ret0, xs_putI, xs_putZ, xs_putR, xs_putop, xs_ast, xs_astop, xs_astR, xs_callV, xs_callP, xs_super, xs_sw, s_go_inl, s_go_inr, s_cut_inl, s_cut_inr, o_void_n, v_i_int, v_i_none, v_r_ref, v_r_null, v_r_rf, h_set_some, o_some_s, zB_ne0, zB_ite, zB_ite2, g_Vn, g_Pi, nI_add, Option.bind_some, Option.map_some, Option.bind_none, Option.map_none, List.getElem?_cons_zero, List.getElem?_cons_succ, List.set_cons_zero, List.set_cons_succ, List.cons_append, List.nil_append, List.take_succ_cons, List.take_zero, List.length_cons, List.length_nil, Nat.zero_add, Nat.reduceAdd, Nat.reduceLT, if_true, if_false, Bool.false_eq_true, Bool.true_eq_false, decide_eq_true_eq, decide_true, decide_false, Bool.not_true, Bool.not_false, Option.isNone_none, Option.isNone_some, Option.isSome_none, Option.isSome_some, ite_true, ite_false, reduceIte, reduceCtorEq, and_true, true_and, eq_self, Option.some.injEq, Sum.inr.injEq, Sum.inl.injEq, Prod.mk.injEq, h_obj_eq h1, j_lt (show j < 2 ^ 31 by omega) (show ps.length < 2 ^ 31 by omega)]
  have hS : ∀ j x, ps[j]? = some x → W_X0_placeOf_1 [.ref b, .int (nI q), .int (nI j)] σ = if x = q then some (.inl (some (.int (nI j)), σ)) else some (.inr ([.ref b, .int (nI q), .int (nI (j + 1))], σ)) := by
    intro j x hx
    have hj := (List.getElem?_eq_some_iff.mp hx).1
    have hxl := hp x (List.mem_of_getElem? hx)
    have hf := f_at e1 (show c < 2 ^ 31 by omega) (show j < 2 ^ 31 by omega)
    rw [if_pos (by omega), (e4 j x hx).1] at hf
    by_cases h : x = q
    · subst h
      simp only [x_and, x_or, x_shl, x_shr, x_k, x_i, x_r, x_nil, x_add, x_sub, x_mul, x_div, x_rem, x_get, x_getR, x_ald, x_aldR, x_len, x_lenR, x_if, xa_nil, xa_ci, xa_cr, x_callI, x_callR, x_new, x_newa, x_newq, x_max, x_min, xc_cmp, xc_cmp0, xc_null, xc_nn, xc_not, xc_and, xc_or, xc_if, xs_skip, xs_seq, xs_decI, xs_decR, xs_setI, xs_inc, xs_if, xs_blk, xs_retI, xs_retB, xs_retR, xs_retD, xs_ret0, xs_putI, xs_putZ, xs_putR, xs_putop, xs_ast, xs_astop, xs_astR, xs_callV, xs_callP, xs_super, xs_sw, s_go_inl, s_go_inr, s_cut_inl, s_cut_inr, o_void_n, v_i_int, v_i_none, v_r_ref, v_r_null, v_r_rf, h_set_some, o_some_s, zB_ne0, zB_ite, zB_ite2, g_Vn, g_Pi, nI_add, Option.bind_some, Option.map_some, Option.bind_none, Option.map_none, List.getElem?_cons_zero, List.getElem?_cons_succ, List.set_cons_zero, List.set_cons_succ, List.cons_append, List.nil_append, List.take_succ_cons, List.take_zero, List.length_cons, List.length_nil, Nat.zero_add, Nat.reduceAdd, Nat.reduceLT, if_true, if_false, Bool.false_eq_true, Bool.true_eq_false, decide_eq_true_eq, decide_true, decide_false, Bool.not_true, Bool.not_false, Option.isNone_none, Option.isNone_some, Option.isSome_none, Option.isSome_some, ite_true, ite_false, reduceIte, reduceCtorEq, and_true, true_and, eq_self, Option.some.injEq, Sum.inr.injEq, Sum.inl.injEq, Prod.mk.injEq, h_obj_eq h1, v_rf, hf, j_eq (show x < 2 ^ 31 by omega) (show x < 2 ^ 31 by omega)]
    · simp only [x_and, x_or, x_shl, x_shr, x_k, x_i, x_r, x_nil, x_add, x_sub, x_mul, x_div, x_rem, x_get, x_getR, x_ald, x_aldR, x_len, x_lenR, x_if, xa_nil, xa_ci, xa_cr, x_callI, x_callR, x_new, x_newa, x_newq, x_max, x_min, xc_cmp, xc_cmp0, xc_null, xc_nn, xc_not, xc_and, xc_or, xc_if, xs_skip, xs_seq, xs_decI, xs_decR, xs_setI, xs_inc, xs_if, xs_blk, xs_retI, xs_retB, xs_retR, xs_retD, xs_ret0, xs_putI, xs_putZ, xs_putR, xs_putop, xs_ast, xs_astop, xs_astR, xs_callV, xs_callP, xs_super, xs_sw, s_go_inl, s_go_inr, s_cut_inl, s_cut_inr, o_void_n, v_i_int, v_i_none, v_r_ref, v_r_null, v_r_rf, h_set_some, o_some_s, zB_ne0, zB_ite, zB_ite2, g_Vn, g_Pi, nI_add, Option.bind_some, Option.map_some, Option.bind_none, Option.map_none, List.getElem?_cons_zero, List.getElem?_cons_succ, List.set_cons_zero, List.set_cons_succ, List.cons_append, List.nil_append, List.take_succ_cons, List.take_zero, List.length_cons, List.length_nil, Nat.zero_add, Nat.reduceAdd, Nat.reduceLT, if_true, if_false, Bool.false_eq_true, Bool.true_eq_false, decide_eq_true_eq, decide_true, decide_false, Bool.not_true, Bool.not_false, Option.isNone_none, Option.isNone_some, Option.isSome_none, Option.isSome_some, ite_true, ite_false, reduceIte, reduceCtorEq, and_true, true_and, eq_self, Option.some.injEq, Sum.inr.injEq, Sum.inl.injEq, Prod.mk.injEq, h_obj_eq h1, v_rf, hf, j_eq (show x < 2 ^ 31 by omega) (show q < 2 ^ 31 by omega), h]
  have hstep : ∀ j, j < ps.length → (∀ i, i ≤ j → ps[i]? ≠ some q) → C_X0_placeOf_1 (st j).1 (st j).2 = some (true, (st j).2) ∧ W_X0_placeOf_1 (st j).1 (st j).2 = some (.inr (st (j + 1))) := by
    intro j hj hno
    obtain ⟨x, hx⟩ : ∃ x, ps[j]? = some x := ⟨ps[j], List.getElem?_eq_getElem hj⟩
    have hxq : x ≠ q := fun e => hno j (Nat.le_refl _) (by rw [hx, e])
    refine ⟨?_, ?_⟩
    · show C_X0_placeOf_1 [.ref b, .int (nI q), .int (nI j)] σ = some (true, σ)
      rw [hC j (by omega), decide_eq_true hj]
    · show W_X0_placeOf_1 [.ref b, .int (nI q), .int (nI j)] σ = _
      rw [hS j x hx, if_neg hxq]
  refine ⟨fun j hj => ?_, fun hno => ?_⟩
  · have hjl := (List.getElem?_eq_some_iff.mp hj).1
    have hw := wh_out (C := C_X0_placeOf_1) (S := W_X0_placeOf_1) st 0 j (some (.int (nI j)), σ) rfl (Nat.zero_le _) (by omega) (fun k _ hk => hstep k (by omega) (fun i hi e => by
      have := (List.getElem?_inj (show i < ps.length by omega) hn).mp (e.trans hj.symm)
      omega)) ⟨by
      show C_X0_placeOf_1 [.ref b, .int (nI q), .int (nI j)] σ = some (true, σ)
      rw [hC j (by omega), decide_eq_true hjl], by
      show W_X0_placeOf_1 [.ref b, .int (nI q), .int (nI j)] σ = _
      rw [hS j q hj, if_pos rfl]⟩
    refine mV_eq h1 rfl rfl ?_
    unfold B_X0_placeOf
    simp only [x_and, x_or, x_shl, x_shr, x_k, x_i, x_r, x_nil, x_add, x_sub, x_mul, x_div, x_rem, x_get, x_getR, x_ald, x_aldR, x_len, x_lenR, x_if, xa_nil, xa_ci, xa_cr, x_callI, x_callR, x_new, x_newa, x_newq, x_max, x_min, xc_cmp, xc_cmp0, xc_null, xc_nn, xc_not, xc_and, xc_or, xc_if, xs_skip, xs_seq, xs_decI, xs_decR, xs_setI, xs_inc, xs_if, xs_blk, xs_retI, xs_retB, xs_retR, xs_retD, xs_ret0, xs_putI, xs_putZ, xs_putR, xs_putop, xs_ast, xs_astop, xs_astR, xs_callV, xs_callP, xs_super, xs_sw, s_go_inl, s_go_inr, s_cut_inl, s_cut_inr, o_void_n, v_i_int, v_i_none, v_r_ref, v_r_null, v_r_rf, h_set_some, o_some_s, zB_ne0, zB_ite, zB_ite2, g_Vn, g_Pi, nI_add, Option.bind_some, Option.map_some, Option.bind_none, Option.map_none, List.getElem?_cons_zero, List.getElem?_cons_succ, List.set_cons_zero, List.set_cons_succ, List.cons_append, List.nil_append, List.take_succ_cons, List.take_zero, List.length_cons, List.length_nil, Nat.zero_add, Nat.reduceAdd, Nat.reduceLT, if_true, if_false, Bool.false_eq_true, Bool.true_eq_false, decide_eq_true_eq, decide_true, decide_false, Bool.not_true, Bool.not_false, Option.isNone_none, Option.isNone_some, Option.isSome_none, Option.isSome_some, ite_true, ite_false, reduceIte, reduceCtorEq, and_true, true_and, eq_self, Option.some.injEq, Sum.inr.injEq, Sum.inl.injEq, Prod.mk.injEq, hw]
  · have hw := wh_up (C := C_X0_placeOf_1) (S := W_X0_placeOf_1) (L := [.ref b, .int (nI q), .int (nI 0)]) (σ := σ) st 0 ps.length rfl (Nat.zero_le _) (by omega) (fun k _ hk => hstep k hk (fun i hi e => hno (List.mem_of_getElem? e))) (by
      show C_X0_placeOf_1 [.ref b, .int (nI q), .int (nI ps.length)] σ = some (false, σ)
      rw [hC _ (Nat.le_refl _), decide_eq_false (Nat.lt_irrefl _)])
    refine mV_eq h1 rfl rfl ?_
    unfold B_X0_placeOf
    simp only [x_and, x_or, x_shl, x_shr, x_k, x_i, x_r, x_nil, x_add, x_sub, x_mul, x_div, x_rem, x_get, x_getR, x_ald, x_aldR, x_len, x_lenR, x_if, xa_nil, xa_ci, xa_cr, x_callI, x_callR, x_new, x_newa, x_newq, x_max, x_min, xc_cmp, xc_cmp0, xc_null, xc_nn, xc_not, xc_and, xc_or, xc_if, xs_skip, xs_seq, xs_decI, xs_decR, xs_setI, xs_inc, xs_if, xs_blk, xs_retI, xs_retB, xs_retR, xs_retD, xs_ret0, xs_putI, xs_putZ, xs_putR, xs_putop, xs_ast, xs_astop, xs_astR, xs_callV, xs_callP, xs_super, xs_sw, s_go_inl, s_go_inr, s_cut_inl, s_cut_inr, o_void_n, v_i_int, v_i_none, v_r_ref, v_r_null, v_r_rf, h_set_some, o_some_s, zB_ne0, zB_ite, zB_ite2, g_Vn, g_Pi, nI_add, Option.bind_some, Option.map_some, Option.bind_none, Option.map_none, List.getElem?_cons_zero, List.getElem?_cons_succ, List.set_cons_zero, List.set_cons_succ, List.cons_append, List.nil_append, List.take_succ_cons, List.take_zero, List.length_cons, List.length_nil, Nat.zero_add, Nat.reduceAdd, Nat.reduceLT, if_true, if_false, Bool.false_eq_true, Bool.true_eq_false, decide_eq_true_eq, decide_true, decide_false, Bool.not_true, Bool.not_false, Option.isNone_none, Option.isNone_some, Option.isSome_none, Option.isSome_some, ite_true, ite_false, reduceIte, reduceCtorEq, and_true, true_and, eq_self, Option.some.injEq, Sum.inr.injEq, Sum.inl.injEq, Prod.mk.injEq, hw]
    rfl
theorem f_chipsOf (hA : AccAt σ b p c ps ch cm) (hk : okA ps ch cm) {q : Nat} (hp : isPr q) (hq : q ≤ 9999) : M_X0_chipsOf [.ref b, .int (nI q)] σ = some (some (.int (ch q)), σ) := by
  have hpl := f_placeOf hA hk.1 (fun q h => (hk.2.1 q h).2) hq
  obtain ⟨h1, h2, h3, h4, h5, fp, fc, fm, e1, e2, e3, e4⟩ := hA
  refine mV_eq h1 rfl rfl ?_
  unfold B_X0_chipsOf
  by_cases h : q ∈ ps
  · obtain ⟨j, hj⟩ := List.getElem?_of_mem h
    have hjl := (List.getElem?_eq_some_iff.mp hj).1
    have hf := f_at e2 (show c < 2 ^ 31 by omega) (show j < 2 ^ 31 by omega)
    rw [if_pos (by omega), (e4 j q hj).2.1] at hf
    simp only [x_and, x_or, x_shl, x_shr, x_k, x_i, x_r, x_nil, x_add, x_sub, x_mul, x_div, x_rem, x_get, x_getR, x_ald, x_aldR, x_len, x_lenR, x_if, xa_nil, xa_ci, xa_cr, x_callI, x_callR, x_new, x_newa, x_newq, x_max, x_min, xc_cmp, xc_cmp0, xc_null, xc_nn, xc_not, xc_and, xc_or, xc_if, xs_skip, xs_seq, xs_decI, xs_decR, xs_setI, xs_inc, xs_if, xs_blk, xs_retI, xs_retB, xs_retR, xs_retD, xs_ret0, xs_putI, xs_putZ, xs_putR, xs_putop, xs_ast, xs_astop, xs_astR, xs_callV, xs_callP, xs_super, xs_sw, s_go_inl, s_go_inr, s_cut_inl, s_cut_inr, o_void_n, v_i_int, v_i_none, v_r_ref, v_r_null, v_r_rf, h_set_some, o_some_s, zB_ne0, zB_ite, zB_ite2, g_Vn, g_Pi, nI_add, Option.bind_some, Option.map_some, Option.bind_none, Option.map_none, List.getElem?_cons_zero, List.getElem?_cons_succ, List.set_cons_zero, List.set_cons_succ, List.cons_append, List.nil_append, List.take_succ_cons, List.take_zero, List.length_cons, List.length_nil, Nat.zero_add, Nat.reduceAdd, Nat.reduceLT, if_true, if_false, Bool.false_eq_true, Bool.true_eq_false, decide_eq_true_eq, decide_true, decide_false, Bool.not_true, Bool.not_false, Option.isNone_none, Option.isNone_some, Option.isSome_none, Option.isSome_some, ite_true, ite_false, reduceIte, reduceCtorEq, and_true, true_and, eq_self, Option.some.injEq, Sum.inr.injEq, Sum.inl.injEq, Prod.mk.injEq, h_obj_eq h1, v_rf, hpl.1 j hj, hf]
  · simp only [x_and, x_or, x_shl, x_shr, x_k, x_i, x_r, x_nil, x_add, x_sub, x_mul, x_div, x_rem, x_get, x_getR, x_ald, x_aldR, x_len, x_lenR, x_if, xa_nil, xa_ci, xa_cr, x_callI, x_callR, x_new, x_newa, x_newq, x_max, x_min, xc_cmp, xc_cmp0, xc_null, xc_nn, xc_not, xc_and, xc_or, xc_if, xs_skip, xs_seq, xs_decI, xs_decR, xs_setI, xs_inc, xs_if, xs_blk, xs_retI, xs_retB, xs_retR, xs_retD, xs_ret0, xs_putI, xs_putZ, xs_putR, xs_putop, xs_ast, xs_astop, xs_astR, xs_callV, xs_callP, xs_super, xs_sw, s_go_inl, s_go_inr, s_cut_inl, s_cut_inr, o_void_n, v_i_int, v_i_none, v_r_ref, v_r_null, v_r_rf, h_set_some, o_some_s, zB_ne0, zB_ite, zB_ite2, g_Vn, g_Pi, nI_add, Option.bind_some, Option.map_some, Option.bind_none, Option.map_none, List.getElem?_cons_zero, List.getElem?_cons_succ, List.set_cons_zero, List.set_cons_succ, List.cons_append, List.nil_append, List.take_succ_cons, List.take_zero, List.length_cons, List.length_nil, Nat.zero_add, Nat.reduceAdd, Nat.reduceLT, if_true, if_false, Bool.false_eq_true, Bool.true_eq_false, decide_eq_true_eq, decide_true, decide_false, Bool.not_true, Bool.not_false, Option.isNone_none, Option.isNone_some, Option.isSome_none, Option.isSome_some, ite_true, ite_false, reduceIte, reduceCtorEq, and_true, true_and, eq_self, Option.some.injEq, Sum.inr.injEq, Sum.inl.injEq, Prod.mk.injEq, h_obj_eq h1, v_rf, hpl.2 h, f_atM e2, (hk.2.2 q hp h).1]
theorem f_cameOf (hA : AccAt σ b p c ps ch cm) (hk : okA ps ch cm) {q : Nat} (hp : isPr q) (hq : q ≤ 9999) : M_X0_cameOf [.ref b, .int (nI q)] σ = some (some (.int (cm q)), σ) := by
  have hpl := f_placeOf hA hk.1 (fun q h => (hk.2.1 q h).2) hq
  obtain ⟨h1, h2, h3, h4, h5, fp, fc, fm, e1, e2, e3, e4⟩ := hA
  refine mV_eq h1 rfl rfl ?_
  unfold B_X0_cameOf
  by_cases h : q ∈ ps
  · obtain ⟨j, hj⟩ := List.getElem?_of_mem h
    have hjl := (List.getElem?_eq_some_iff.mp hj).1
    have hf := f_at e3 (show c < 2 ^ 31 by omega) (show j < 2 ^ 31 by omega)
    rw [if_pos (by omega), (e4 j q hj).2.2] at hf
    simp only [x_and, x_or, x_shl, x_shr, x_k, x_i, x_r, x_nil, x_add, x_sub, x_mul, x_div, x_rem, x_get, x_getR, x_ald, x_aldR, x_len, x_lenR, x_if, xa_nil, xa_ci, xa_cr, x_callI, x_callR, x_new, x_newa, x_newq, x_max, x_min, xc_cmp, xc_cmp0, xc_null, xc_nn, xc_not, xc_and, xc_or, xc_if, xs_skip, xs_seq, xs_decI, xs_decR, xs_setI, xs_inc, xs_if, xs_blk, xs_retI, xs_retB, xs_retR, xs_retD, xs_ret0, xs_putI, xs_putZ, xs_putR, xs_putop, xs_ast, xs_astop, xs_astR, xs_callV, xs_callP, xs_super, xs_sw, s_go_inl, s_go_inr, s_cut_inl, s_cut_inr, o_void_n, v_i_int, v_i_none, v_r_ref, v_r_null, v_r_rf, h_set_some, o_some_s, zB_ne0, zB_ite, zB_ite2, g_Vn, g_Pi, nI_add, Option.bind_some, Option.map_some, Option.bind_none, Option.map_none, List.getElem?_cons_zero, List.getElem?_cons_succ, List.set_cons_zero, List.set_cons_succ, List.cons_append, List.nil_append, List.take_succ_cons, List.take_zero, List.length_cons, List.length_nil, Nat.zero_add, Nat.reduceAdd, Nat.reduceLT, if_true, if_false, Bool.false_eq_true, Bool.true_eq_false, decide_eq_true_eq, decide_true, decide_false, Bool.not_true, Bool.not_false, Option.isNone_none, Option.isNone_some, Option.isSome_none, Option.isSome_some, ite_true, ite_false, reduceIte, reduceCtorEq, and_true, true_and, eq_self, Option.some.injEq, Sum.inr.injEq, Sum.inl.injEq, Prod.mk.injEq, h_obj_eq h1, v_rf, hpl.1 j hj, hf]
  · simp only [x_and, x_or, x_shl, x_shr, x_k, x_i, x_r, x_nil, x_add, x_sub, x_mul, x_div, x_rem, x_get, x_getR, x_ald, x_aldR, x_len, x_lenR, x_if, xa_nil, xa_ci, xa_cr, x_callI, x_callR, x_new, x_newa, x_newq, x_max, x_min, xc_cmp, xc_cmp0, xc_null, xc_nn, xc_not, xc_and, xc_or, xc_if, xs_skip, xs_seq, xs_decI, xs_decR, xs_setI, xs_inc, xs_if, xs_blk, xs_retI, xs_retB, xs_retR, xs_retD, xs_ret0, xs_putI, xs_putZ, xs_putR, xs_putop, xs_ast, xs_astop, xs_astR, xs_callV, xs_callP, xs_super, xs_sw, s_go_inl, s_go_inr, s_cut_inl, s_cut_inr, o_void_n, v_i_int, v_i_none, v_r_ref, v_r_null, v_r_rf, h_set_some, o_some_s, zB_ne0, zB_ite, zB_ite2, g_Vn, g_Pi, nI_add, Option.bind_some, Option.map_some, Option.bind_none, Option.map_none, List.getElem?_cons_zero, List.getElem?_cons_succ, List.set_cons_zero, List.set_cons_succ, List.cons_append, List.nil_append, List.take_succ_cons, List.take_zero, List.length_cons, List.length_nil, Nat.zero_add, Nat.reduceAdd, Nat.reduceLT, if_true, if_false, Bool.false_eq_true, Bool.true_eq_false, decide_eq_true_eq, decide_true, decide_false, Bool.not_true, Bool.not_false, Option.isNone_none, Option.isNone_some, Option.isSome_none, Option.isSome_some, ite_true, ite_false, reduceIte, reduceCtorEq, and_true, true_and, eq_self, Option.some.injEq, Sum.inr.injEq, Sum.inl.injEq, Prod.mk.injEq, h_obj_eq h1, v_rf, hpl.2 h, f_atM e3, (hk.2.2 q hp h).2]
/-- a cell of one of the rows is written -/
theorem AccAt.put (hA : AccAt σ b p c ps ch cm) {k : Nat} {v : Int32} {j q : Nat} (hj : ps[j]? = some q) (hn : ps.Nodup) {ch' cm' : Nat → Int32} (hk : (k = 1 ∧ ch' = (fun z => if z = q then v else ch z) ∧ cm' = cm) ∨ (k = 2 ∧ cm' = (fun z => if z = q then v else cm z) ∧ ch' = ch)) :
    ∃ f σ', σ.1[p + k]? = some (.inr (.inl (c, f))) ∧ f j = (if k = 1 then ch q else cm q) ∧ j < c ∧ σ' = ((σ.1.set (p + k) (.inr (.inl (c, upd f j v))), σ.2) : sSt) ∧ AccAt σ' b p c ps ch' cm' ∧ EffA σ σ' b p c p c := by
  have hA0 := hA
  obtain ⟨h1, h2, h3, h4, h5, fp, fc, fm, e1, e2, e3, e4⟩ := hA
  have hjl := (List.getElem?_eq_some_iff.mp hj).1
  have hl : p + 2 < σ.1.length := (List.getElem?_eq_some_iff.mp e3).1
  have hne : ∀ i x, i ≠ j → ps[i]? = some x → x ≠ q := fun i x hi hx e => hi ((List.getElem?_inj (List.getElem?_eq_some_iff.mp hx).1 hn).mp (by rw [hx, e, hj]))
  have eff : ∀ a : sAC, (k = 1 ∨ k = 2) → EffA σ (σ.1.set (p + k) a, σ.2) b p c p c := fun a hk12 => ⟨Keep.set (Or.inr (by omega)), Or.inl ⟨rfl, rfl⟩, by show _ ≤ (σ.1.set _ _).length; rw [List.length_set]; omega, by show (σ.1.set _ _).length + _ ≤ _; rw [List.length_set]; omega, Nat.le_refl _, Nat.le_refl _⟩
  rcases hk with ⟨rfl, rfl, rfl⟩ | ⟨rfl, rfl, rfl⟩
  · refine ⟨fc, _, e2, (e4 j q hj).2.1, by omega, rfl, ⟨?_, h2, h3, h4, h5, fp, upd fc j v, fm, ?_, ?_, ?_, ?_⟩, eff _ (Or.inl rfl)⟩
    · show (σ.1.set (p + 1) _)[b]? = _; rw [List.getElem?_set_ne (by omega)]; exact h1
    · show (σ.1.set (p + 1) _)[p]? = _; rw [List.getElem?_set_ne (by omega)]; exact e1
    · exact List.getElem?_set_self (by omega)
    · show (σ.1.set (p + 1) _)[p + 2]? = _; rw [List.getElem?_set_ne (by omega)]; exact e3
    · intro i x hx
      obtain ⟨g1, g2, g3⟩ := e4 i x hx
      refine ⟨g1, ?_, g3⟩
      by_cases hi : i = j
      · subst hi
        have : x = q := Option.some.inj (hx.symm.trans hj)
        simp [upd, this]
      · simp [upd, hi, hne i x hi hx, g2]
  · refine ⟨fm, _, e3, by rw [if_neg (by omega)]; exact (e4 j q hj).2.2, by omega, rfl, ⟨?_, h2, h3, h4, h5, fp, fc, upd fm j v, ?_, ?_, ?_, ?_⟩, eff _ (Or.inr rfl)⟩
    · show (σ.1.set (p + 2) _)[b]? = _; rw [List.getElem?_set_ne (by omega)]; exact h1
    · show (σ.1.set (p + 2) _)[p]? = _; rw [List.getElem?_set_ne (by omega)]; exact e1
    · show (σ.1.set (p + 2) _)[p + 1]? = _; rw [List.getElem?_set_ne (by omega)]; exact e2
    · exact List.getElem?_set_self (by omega)
    · intro i x hx
      obtain ⟨g1, g2, g3⟩ := e4 i x hx
      refine ⟨g1, g2, ?_⟩
      by_cases hi : i = j
      · subst hi
        have : x = q := Option.some.inj (hx.symm.trans hj)
        simp [upd, this]
      · simp [upd, hi, hne i x hi hx, g3]
theorem f_openPlace (hA : AccAt σ b p c ps ch cm) {q : Nat} (hc : ps.length < c) (h0 : ch q = nI 0 ∧ cm q = nI 0) :
    ∃ σ', M_X0_openPlace [.ref b, .int (nI q)] σ = some (some (.int (nI ps.length)), σ') ∧ AccAt σ' b p c (ps ++ [q]) ch cm ∧ EffA σ σ' b p c p c := by
  obtain ⟨h1, h2, h3, h4, h5, fp, fc, fm, e1, e2, e3, e4⟩ := hA
  have hl : p + 2 < σ.1.length := (List.getElem?_eq_some_iff.mp e3).1
  have hlb : b < σ.1.length := (List.getElem?_eq_some_iff.mp h1).1
  obtain ⟨n, hn⟩ : ∃ n, n = ps.length := ⟨_, rfl⟩
  rw [← hn] at h1 h2 hc ⊢
  have q1 := f_put e1 (show c < 2 ^ 31 by omega) hc (nI q)
  let τ1 : sSt := (σ.1.set p (.inr (.inl (c, upd fp n (nI q)))), σ.2)
  have t1 : ∀ i, i ≠ p → τ1.1[i]? = σ.1[i]? := fun i hi => List.getElem?_set_ne (Ne.symm hi)
  have q2 := f_put (σ := τ1) ((t1 (p + 1) (by omega)).trans e2) (show c < 2 ^ 31 by omega) hc (nI 0)
  let τ2 : sSt := (τ1.1.set (p + 1) (.inr (.inl (c, upd fc n (nI 0)))), τ1.2)
  have t2 : ∀ i, i ≠ p + 1 → τ2.1[i]? = τ1.1[i]? := fun i hi => List.getElem?_set_ne (Ne.symm hi)
  have q3 := f_put (σ := τ2) (((t2 (p + 2) (by omega)).trans (t1 (p + 2) (by omega))).trans e3) (show c < 2 ^ 31 by omega) hc (nI 0)
  let τ3 : sSt := (τ2.1.set (p + 2) (.inr (.inl (c, upd fm n (nI 0)))), τ2.2)
  have t3 : ∀ i, i ≠ p + 2 → τ3.1[i]? = τ2.1[i]? := fun i hi => List.getElem?_set_ne (Ne.symm hi)
  have o1 : τ1.1[b]? = _ := (t1 b (by omega)).trans h1
  have o2 : τ2.1[b]? = _ := (t2 b (by omega)).trans o1
  have o3 : τ3.1[b]? = _ := (t3 b (by omega)).trans o2
  let τ4 : sSt := (τ3.1.set b (.inl (0, [.ref p, .ref (p + 1), .ref (p + 2), .int (nI (n + 1))])), τ3.2)
  have l3 : τ3.1.length = σ.1.length := by show (((σ.1.set p _).set (p + 1) _).set (p + 2) _).length = _; simp
  have t4 : ∀ i, i ≠ b → τ4.1[i]? = τ3.1[i]? := fun i hi => List.getElem?_set_ne (Ne.symm hi)
  refine ⟨τ4, mV_eq h1 rfl rfl ?_, ⟨?_, by rw [List.length_append, List.length_singleton]; omega, h3, h4, h5, upd fp n (nI q), upd fc n (nI 0), upd fm n (nI 0), ?_, ?_, ?_, ?_⟩, ?_⟩
  · unfold B_X0_openPlace
    have P1 : (s_callV M_X5_put (a_cr (e_getR 0 0 (e_r 0)) (a_ci (e_i 2) (a_ci (e_i 1) a_nil)))) [.ref b, .int (nI q), .int (nI n)] σ = some (.inr ([.ref b, .int (nI q), .int (nI n)], τ1)) := by
      simp only [x_and, x_or, x_shl, x_shr, x_k, x_i, x_r, x_nil, x_add, x_sub, x_mul, x_div, x_rem, x_get, x_getR, x_ald, x_aldR, x_len, x_lenR, x_if, xa_nil, xa_ci, xa_cr, x_callI, x_callR, x_new, x_newa, x_newq, x_max, x_min, xc_cmp, xc_cmp0, xc_null, xc_nn, xc_not, xc_and, xc_or, xc_if, xs_skip, xs_seq, xs_decI, xs_decR, xs_setI, xs_inc, xs_if, xs_blk, xs_retI, xs_retB, xs_retR, xs_retD, xs_ret0, xs_putI, xs_putZ, xs_putR, xs_putop, xs_ast, xs_astop, xs_astR, xs_callV, xs_callP, xs_super, xs_sw, s_go_inl, s_go_inr, s_cut_inl, s_cut_inr, o_void_n, v_i_int, v_i_none, v_r_ref, v_r_null, v_r_rf, h_set_some, o_some_s, zB_ne0, zB_ite, zB_ite2, g_Vn, g_Pi, nI_add, Option.bind_some, Option.map_some, Option.bind_none, Option.map_none, List.getElem?_cons_zero, List.getElem?_cons_succ, List.set_cons_zero, List.set_cons_succ, List.cons_append, List.nil_append, List.take_succ_cons, List.take_zero, List.length_cons, List.length_nil, Nat.zero_add, Nat.reduceAdd, Nat.reduceLT, if_true, if_false, Bool.false_eq_true, Bool.true_eq_false, decide_eq_true_eq, decide_true, decide_false, Bool.not_true, Bool.not_false, Option.isNone_none, Option.isNone_some, Option.isSome_none, Option.isSome_some, ite_true, ite_false, reduceIte, reduceCtorEq, and_true, true_and, eq_self, Option.some.injEq, Sum.inr.injEq, Sum.inl.injEq, Prod.mk.injEq, h_obj_eq h1, v_rf, q1]
      rfl
    have P2 : (s_callV M_X5_put (a_cr (e_getR 0 1 (e_r 0)) (a_ci (e_i 2) (a_ci (e_k (nI 0)) a_nil)))) [.ref b, .int (nI q), .int (nI n)] τ1 = some (.inr ([.ref b, .int (nI q), .int (nI n)], τ2)) := by
      simp only [x_and, x_or, x_shl, x_shr, x_k, x_i, x_r, x_nil, x_add, x_sub, x_mul, x_div, x_rem, x_get, x_getR, x_ald, x_aldR, x_len, x_lenR, x_if, xa_nil, xa_ci, xa_cr, x_callI, x_callR, x_new, x_newa, x_newq, x_max, x_min, xc_cmp, xc_cmp0, xc_null, xc_nn, xc_not, xc_and, xc_or, xc_if, xs_skip, xs_seq, xs_decI, xs_decR, xs_setI, xs_inc, xs_if, xs_blk, xs_retI, xs_retB, xs_retR, xs_retD, xs_ret0, xs_putI, xs_putZ, xs_putR, xs_putop, xs_ast, xs_astop, xs_astR, xs_callV, xs_callP, xs_super, xs_sw, s_go_inl, s_go_inr, s_cut_inl, s_cut_inr, o_void_n, v_i_int, v_i_none, v_r_ref, v_r_null, v_r_rf, h_set_some, o_some_s, zB_ne0, zB_ite, zB_ite2, g_Vn, g_Pi, nI_add, Option.bind_some, Option.map_some, Option.bind_none, Option.map_none, List.getElem?_cons_zero, List.getElem?_cons_succ, List.set_cons_zero, List.set_cons_succ, List.cons_append, List.nil_append, List.take_succ_cons, List.take_zero, List.length_cons, List.length_nil, Nat.zero_add, Nat.reduceAdd, Nat.reduceLT, if_true, if_false, Bool.false_eq_true, Bool.true_eq_false, decide_eq_true_eq, decide_true, decide_false, Bool.not_true, Bool.not_false, Option.isNone_none, Option.isNone_some, Option.isSome_none, Option.isSome_some, ite_true, ite_false, reduceIte, reduceCtorEq, and_true, true_and, eq_self, Option.some.injEq, Sum.inr.injEq, Sum.inl.injEq, Prod.mk.injEq, h_obj_eq o1, v_rf, q2]
      rfl
    have P3 : (s_callV M_X5_put (a_cr (e_getR 0 2 (e_r 0)) (a_ci (e_i 2) (a_ci (e_k (nI 0)) a_nil)))) [.ref b, .int (nI q), .int (nI n)] τ2 = some (.inr ([.ref b, .int (nI q), .int (nI n)], τ3)) := by
      simp only [x_and, x_or, x_shl, x_shr, x_k, x_i, x_r, x_nil, x_add, x_sub, x_mul, x_div, x_rem, x_get, x_getR, x_ald, x_aldR, x_len, x_lenR, x_if, xa_nil, xa_ci, xa_cr, x_callI, x_callR, x_new, x_newa, x_newq, x_max, x_min, xc_cmp, xc_cmp0, xc_null, xc_nn, xc_not, xc_and, xc_or, xc_if, xs_skip, xs_seq, xs_decI, xs_decR, xs_setI, xs_inc, xs_if, xs_blk, xs_retI, xs_retB, xs_retR, xs_retD, xs_ret0, xs_putI, xs_putZ, xs_putR, xs_putop, xs_ast, xs_astop, xs_astR, xs_callV, xs_callP, xs_super, xs_sw, s_go_inl, s_go_inr, s_cut_inl, s_cut_inr, o_void_n, v_i_int, v_i_none, v_r_ref, v_r_null, v_r_rf, h_set_some, o_some_s, zB_ne0, zB_ite, zB_ite2, g_Vn, g_Pi, nI_add, Option.bind_some, Option.map_some, Option.bind_none, Option.map_none, List.getElem?_cons_zero, List.getElem?_cons_succ, List.set_cons_zero, List.set_cons_succ, List.cons_append, List.nil_append, List.take_succ_cons, List.take_zero, List.length_cons, List.length_nil, Nat.zero_add, Nat.reduceAdd, Nat.reduceLT, if_true, if_false, Bool.false_eq_true, Bool.true_eq_false, decide_eq_true_eq, decide_true, decide_false, Bool.not_true, Bool.not_false, Option.isNone_none, Option.isNone_some, Option.isSome_none, Option.isSome_some, ite_true, ite_false, reduceIte, reduceCtorEq, and_true, true_and, eq_self, Option.some.injEq, Sum.inr.injEq, Sum.inl.injEq, Prod.mk.injEq, h_obj_eq o2, v_rf, q3]
      rfl
    have P4 : (s_putop 0 3 (e_r 0) (fun x z => x + z) (e_k (nI 1))) [.ref b, .int (nI q), .int (nI n)] τ3 = some (.inr ([.ref b, .int (nI q), .int (nI n)], τ4)) := by
      simp only [x_and, x_or, x_shl, x_shr, x_k, x_i, x_r, x_nil, x_add, x_sub, x_mul, x_div, x_rem, x_get, x_getR, x_ald, x_aldR, x_len, x_lenR, x_if, xa_nil, xa_ci, xa_cr, x_callI, x_callR, x_new, x_newa, x_newq, x_max, x_min, xc_cmp, xc_cmp0, xc_null, xc_nn, xc_not, xc_and, xc_or, xc_if, xs_skip, xs_seq, xs_decI, xs_decR, xs_setI, xs_inc, xs_if, xs_blk, xs_retI, xs_retB, xs_retR, xs_retD, xs_ret0, xs_putI, xs_putZ, xs_putR, xs_putop, xs_ast, xs_astop, xs_astR, xs_callV, xs_callP, xs_super, xs_sw, s_go_inl, s_go_inr, s_cut_inl, s_cut_inr, o_void_n, v_i_int, v_i_none, v_r_ref, v_r_null, v_r_rf, h_set_some, o_some_s, zB_ne0, zB_ite, zB_ite2, g_Vn, g_Pi, nI_add, Option.bind_some, Option.map_some, Option.bind_none, Option.map_none, List.getElem?_cons_zero, List.getElem?_cons_succ, List.set_cons_zero, List.set_cons_succ, List.cons_append, List.nil_append, List.take_succ_cons, List.take_zero, List.length_cons, List.length_nil, Nat.zero_add, Nat.reduceAdd, Nat.reduceLT, if_true, if_false, Bool.false_eq_true, Bool.true_eq_false, decide_eq_true_eq, decide_true, decide_false, Bool.not_true, Bool.not_false, Option.isNone_none, Option.isNone_some, Option.isSome_none, Option.isSome_some, ite_true, ite_false, reduceIte, reduceCtorEq, and_true, true_and, eq_self, Option.some.injEq, Sum.inr.injEq, Sum.inl.injEq, Prod.mk.injEq, h_obj_eq o3, v_rf]
      rfl
    have P0 : (s_decI 2 (e_get 0 3 (e_r 0))) [.ref b, .int (nI q)] σ = some (.inr ([.ref b, .int (nI q), .int (nI n)], σ)) := by
      simp only [x_and, x_or, x_shl, x_shr, x_k, x_i, x_r, x_nil, x_add, x_sub, x_mul, x_div, x_rem, x_get, x_getR, x_ald, x_aldR, x_len, x_lenR, x_if, xa_nil, xa_ci, xa_cr, x_callI, x_callR, x_new, x_newa, x_newq, x_max, x_min, xc_cmp, xc_cmp0, xc_null, xc_nn, xc_not, xc_and, xc_or, xc_if, xs_skip, xs_seq, xs_decI, xs_decR, xs_setI, xs_inc, xs_if, xs_blk, xs_retI, xs_retB, xs_retR, xs_retD, xs_ret0, xs_putI, xs_putZ, xs_putR, xs_putop, xs_ast, xs_astop, xs_astR, xs_callV, xs_callP, xs_super, xs_sw, s_go_inl, s_go_inr, s_cut_inl, s_cut_inr, o_void_n, v_i_int, v_i_none, v_r_ref, v_r_null, v_r_rf, h_set_some, o_some_s, zB_ne0, zB_ite, zB_ite2, g_Vn, g_Pi, nI_add, Option.bind_some, Option.map_some, Option.bind_none, Option.map_none, List.getElem?_cons_zero, List.getElem?_cons_succ, List.set_cons_zero, List.set_cons_succ, List.cons_append, List.nil_append, List.take_succ_cons, List.take_zero, List.length_cons, List.length_nil, Nat.zero_add, Nat.reduceAdd, Nat.reduceLT, if_true, if_false, Bool.false_eq_true, Bool.true_eq_false, decide_eq_true_eq, decide_true, decide_false, Bool.not_true, Bool.not_false, Option.isNone_none, Option.isNone_some, Option.isSome_none, Option.isSome_some, ite_true, ite_false, reduceIte, reduceCtorEq, and_true, true_and, eq_self, Option.some.injEq, Sum.inr.injEq, Sum.inl.injEq, Prod.mk.injEq, h_obj_eq h1]
    exact (seq_r P0).trans ((seq_r P1).trans ((seq_r P2).trans ((seq_r P3).trans ((seq_r P4).trans (by simp only [x_and, x_or, x_shl, x_shr, x_k, x_i, x_r, x_nil, x_add, x_sub, x_mul, x_div, x_rem, x_get, x_getR, x_ald, x_aldR, x_len, x_lenR, x_if, xa_nil, xa_ci, xa_cr, x_callI, x_callR, x_new, x_newa, x_newq, x_max, x_min, xc_cmp, xc_cmp0, xc_null, xc_nn, xc_not, xc_and, xc_or, xc_if, xs_skip, xs_seq, xs_decI, xs_decR, xs_setI, xs_inc, xs_if, xs_blk, xs_retI, xs_retB, xs_retR, xs_retD, xs_ret0, xs_putI, xs_putZ, xs_putR, xs_putop, xs_ast, xs_astop, xs_astR, xs_callV, xs_callP, xs_super, xs_sw, s_go_inl, s_go_inr, s_cut_inl, s_cut_inr, o_void_n, v_i_int, v_i_none, v_r_ref, v_r_null, v_r_rf, h_set_some, o_some_s, zB_ne0, zB_ite, zB_ite2, g_Vn, g_Pi, nI_add, Option.bind_some, Option.map_some, Option.bind_none, Option.map_none, List.getElem?_cons_zero, List.getElem?_cons_succ, List.set_cons_zero, List.set_cons_succ, List.cons_append, List.nil_append, List.take_succ_cons, List.take_zero, List.length_cons, List.length_nil, Nat.zero_add, Nat.reduceAdd, Nat.reduceLT, if_true, if_false, Bool.false_eq_true, Bool.true_eq_false, decide_eq_true_eq, decide_true, decide_false, Bool.not_true, Bool.not_false, Option.isNone_none, Option.isNone_some, Option.isSome_none, Option.isSome_some, ite_true, ite_false, reduceIte, reduceCtorEq, and_true, true_and, eq_self, Option.some.injEq, Sum.inr.injEq, Sum.inl.injEq, Prod.mk.injEq])))))
  · rw [List.length_append, List.length_singleton, ← hn]
    exact List.getElem?_set_self (by omega)
  · exact (t4 p (by omega)).trans ((t3 p (by omega)).trans ((t2 p (by omega)).trans (List.getElem?_set_self (by omega))))
  · exact (t4 (p + 1) (by omega)).trans ((t3 (p + 1) (by omega)).trans (List.getElem?_set_self (by show _ < (σ.1.set _ _).length; rw [List.length_set]; omega)))
  · exact (t4 (p + 2) (by omega)).trans (List.getElem?_set_self (by show _ < ((σ.1.set _ _).set _ _).length; rw [List.length_set, List.length_set]; omega))
  · intro i x hx
    by_cases hi : i < n
    · rw [List.getElem?_append_left (by omega)] at hx
      have := e4 i x hx
      have hin : i ≠ n := by omega
      simp only [upd, hin, if_false]
      exact this
    · rw [List.getElem?_append_right (by omega)] at hx
      have hz : i - ps.length < 1 := (List.getElem?_eq_some_iff.mp hx).1
      have hin : i = n := by omega
      rw [show i - ps.length = 0 by omega] at hx
      cases hx
      simp only [upd, hin, if_true]
      exact ⟨trivial, h0.1.symm, h0.2.symm⟩
  · have l4 : τ4.1.length = σ.1.length := by show (τ3.1.set b _).length = _; rw [List.length_set, l3]
    refine ⟨⟨by omega, fun i hi hF => ?_⟩, Or.inl ⟨rfl, rfl⟩, by omega, by omega, Nat.le_refl _, Nat.le_refl _⟩
    have a1 : i ≠ b := fun e => hF (Or.inl e)
    have a2 : ¬ (p ≤ i ∧ i < p + 3) := fun e => hF (Or.inr e)
    exact (t4 i a1).trans ((t3 i (by omega)).trans ((t2 i (by omega)).trans (t1 i (by omega))))
end
