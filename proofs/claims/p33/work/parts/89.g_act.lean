/-! ONE EVENT, case by case (own work) -/
theorem w_1 (V : tV) (r : Int32 × tS) : (wrap V r).1 = r.1 := by unfold wrap; split <;> rfl
section
variable {σ : sSt} {M : tM} {V : tV}
theorem LI.mk {σ' : sSt} {M' : tM} {r : Int32 × tS} (w : WV σ' M' (wrap V r).2) (hr : i_lt r.1 0 = true → r.2 = V.1) (n : LN r.2 M') (c : LC r.2 M') (l : L25 r.2) : LI σ' M' (wrap V r).2 := by
  have e := wrap_2 V r hr
  refine ⟨w, ?_, ?_, ?_⟩
  · rw [e]; exact n
  · rw [e]; exact c
  · rw [e]; exact l
theorem act_add (h : LI σ M V) {u y : Nat} (hu : u < 6) (hy : y < 2 ^ 31) : ∃ σ' M' V', M_L_isActed [.ref 0, .ref 60, .ref 61, .ref 62, .ref 63, .ref 64, .int (nI u), .int (nI y)] σ = some (some (.int (nI 1)), σ') ∧ LI σ' M' V' ∧ M' 5 = M 5 := by
  obtain ⟨hv, hn, hc, h25⟩ := h
  obtain ⟨hσ, em, mw⟩ := hv.mpw
  have w := hv.lw
  have ok := hn.1
  have hl := ok.1
  obtain ⟨n, en⟩ : ∃ n, n = V.1.1.length := ⟨_, rfl⟩
  have hz := hn.z
  rw [← en] at hz hl
  have hp := Nat.mod_lt y (show 0 < n + 1 by omega)
  have hd := Nat.div_le_self y (n + 1)
  obtain ⟨x, x1, x9, xg, rx⟩ := l_number w hc.2.2 (z := y / (n + 1)) (by omega)
  obtain ⟨i, ei⟩ : ∃ i, i = y % (n + 1) := ⟨_, rfl⟩
  rw [← ei] at hp
  have ea := dAdd_n ok (i := i) (x := x) (by omega) x1 x9
  rw [← en] at ea
  by_cases c : n = 12
  · obtain ⟨σ', r, w'⟩ := k_add hv (nI i) (nI x)
    rw [w_1, ea, if_pos c] at r
    rw [ea, if_pos c, wrap_no V (by decide)] at w'
    refine ⟨σ', M, V, m_eq rfl rfl ?_, ⟨w', hn, hc, h25⟩, rfl⟩
    unfold B_L_isActed
    simp (disch := omega) only [x_and, x_or, x_shl, x_shr, x_k, x_i, x_r, x_nil, x_add, x_sub, x_mul, x_div, x_rem, x_get, x_getR, x_ald, x_aldR, x_len, x_lenR, x_if, xa_nil, xa_ci, xa_cr, x_callI, x_callR, x_new, x_newa, x_newq, x_max, x_min, xc_cmp, xc_cmp0, xc_null, xc_nn, xc_not, xc_and, xc_or, xc_if, xs_skip, xs_seq, xs_decI, xs_decR, xs_setI, xs_inc, xs_if, xs_blk, xs_retI, xs_retB, xs_retR, xs_retD, xs_ret0, xs_putI, xs_putZ, xs_putR, xs_putop, xs_ast, xs_astop, xs_astR, xs_callV, xs_callP, xs_super, xs_sw, s_go_inl, s_go_inr, s_cut_inl, s_cut_inr, o_void_n, v_i_int, v_i_none, v_r_ref, v_r_null, v_r_rf, h_set_some, o_some_s, zB_ne0, zB_ite, zB_ite2, g_Vn, g_Pi, nI_add, Option.bind_some, Option.map_some, Option.bind_none, Option.map_none, List.getElem?_cons_zero, List.getElem?_cons_succ, List.set_cons_zero, List.set_cons_succ, List.cons_append, List.nil_append, List.take_succ_cons, List.take_zero, List.length_cons, List.length_nil, Nat.zero_add, Nat.reduceAdd, Nat.reduceLT, if_true, if_false, Bool.false_eq_true, Bool.true_eq_false, decide_eq_true_eq, decide_true, decide_false, Bool.not_true, Bool.not_false, Option.isNone_none, Option.isNone_some, Option.isSome_none, Option.isSome_some, ite_true, ite_false, reduceIte, reduceCtorEq, and_true, true_and, eq_self, Option.some.injEq, Sum.inr.injEq, Sum.inl.injEq, Prod.mk.injEq, not_true_eq_false, not_false_eq_true, Bool.decide_eq_true, n0_ne, n1_ne, xz_ret, zb_if, n1_if, n0_if, v_rf, h_ix_nI, nI_clamp, zB_t, zB_f, uN_uN, uN_ap, Nat.reduceEqDiff, Nat.reduceMul, Nat.reduceSub, w.1, w.2.1, w.2.2.1, w.2.2.2.1, w.2.2.2.2, j_rem, j_div, j_lt, hu, hz, rx, j_eq, decide_eq_true c, r, i_eqS, ← ei]
  · obtain ⟨M1, r1, n1, o1⟩ := l_put hσ hn (i := i) (x := x) (by omega) ⟨x1, x9⟩ (by omega)
    obtain ⟨f, r2, a2⟩ := l_account (M := M1) hσ (fun j hj => by rw [o1 4 (by omega)]; exact hc.2.2 j hj) (k := 3) (Or.inr rfl) x1 x9 (nI 1)
    have r2 : M_L_account [.ref 63, .ref 64, .int (nI x), .int (nI 1)] (mp σ M1) = _ := r2
    rw [← em] at r1
    obtain ⟨σ', r, w'⟩ := k_add (mw (uN M1 3 f) (o1 5 (by omega))) (nI i) (nI x)
    have w2 := w'.lw
    rw [w_1] at r
    have n2 : LN (dAdd V.1 (nI i) (nI x)).2 (uN M1 3 f) := by rw [ea, if_neg c]; exact n1
    have c2 : LC (dAdd V.1 (nI i) (nI x)).2 (uN M1 3 f) := by
      rw [ea, if_neg c]
      refine ⟨fun j hj => ?_, fun j hj => ?_, fun j hj => ?_⟩
      · show M1 2 j = _
        rw [o1 2 (by omega)]; exact hc.1 j hj
      · show f j = sCh V.1 (p25 j) + exL (p25 j) (V.1.1.insertIdx i x)
        rw [a2 j hj, o1 3 (by omega), hc.2.1 j hj, nI_1mul, exL_ins V.1.1 i (by omega), ← Int32.add_assoc]
        rfl
      · show M1 4 j = _
        rw [o1 4 (by omega)]; exact hc.2.2 j hj
    have l2 : L25 (dAdd V.1 (nI i) (nI x)).2 := by rw [ea, if_neg c]; exact h25.put (by omega) xg
    refine ⟨σ', uN M1 3 f, _, m_eq rfl rfl ?_, LI.mk w' (dAdd_no ok _ _) n2 c2 l2, o1 5 (by omega)⟩
    rw [ea, if_neg c] at r
    have z1 : M1 1 0 = nI (n + 1) := by
      rw [n1.z]
      show nI (V.1.1.insertIdx i x).length = _
      rw [List.length_insertIdx, if_pos (by omega), en]
    unfold B_L_isActed
    simp (disch := omega) only [x_and, x_or, x_shl, x_shr, x_k, x_i, x_r, x_nil, x_add, x_sub, x_mul, x_div, x_rem, x_get, x_getR, x_ald, x_aldR, x_len, x_lenR, x_if, xa_nil, xa_ci, xa_cr, x_callI, x_callR, x_new, x_newa, x_newq, x_max, x_min, xc_cmp, xc_cmp0, xc_null, xc_nn, xc_not, xc_and, xc_or, xc_if, xs_skip, xs_seq, xs_decI, xs_decR, xs_setI, xs_inc, xs_if, xs_blk, xs_retI, xs_retB, xs_retR, xs_retD, xs_ret0, xs_putI, xs_putZ, xs_putR, xs_putop, xs_ast, xs_astop, xs_astR, xs_callV, xs_callP, xs_super, xs_sw, s_go_inl, s_go_inr, s_cut_inl, s_cut_inr, o_void_n, v_i_int, v_i_none, v_r_ref, v_r_null, v_r_rf, h_set_some, o_some_s, zB_ne0, zB_ite, zB_ite2, g_Vn, g_Pi, nI_add, Option.bind_some, Option.map_some, Option.bind_none, Option.map_none, List.getElem?_cons_zero, List.getElem?_cons_succ, List.set_cons_zero, List.set_cons_succ, List.cons_append, List.nil_append, List.take_succ_cons, List.take_zero, List.length_cons, List.length_nil, Nat.zero_add, Nat.reduceAdd, Nat.reduceLT, if_true, if_false, Bool.false_eq_true, Bool.true_eq_false, decide_eq_true_eq, decide_true, decide_false, Bool.not_true, Bool.not_false, Option.isNone_none, Option.isNone_some, Option.isSome_none, Option.isSome_some, ite_true, ite_false, reduceIte, reduceCtorEq, and_true, true_and, eq_self, Option.some.injEq, Sum.inr.injEq, Sum.inl.injEq, Prod.mk.injEq, not_true_eq_false, not_false_eq_true, Bool.decide_eq_true, n0_ne, n1_ne, xz_ret, zb_if, n1_if, n0_if, v_rf, h_ix_nI, nI_clamp, zB_t, zB_f, uN_uN, uN_ap, Nat.reduceEqDiff, Nat.reduceMul, Nat.reduceSub, w.1, w.2.1, w.2.2.1, w.2.2.2.1, w.2.2.2.2, j_rem, j_div, j_lt, hu, hz, rx, j_eq, decide_eq_false c, r1, r2, r, w2.2.1, z1, i_eqS, ← ei]
theorem act_take (h : LI σ M V) {y : Nat} (hy : y < 2 ^ 31) : ∃ σ' M' V', M_L_isActed [.ref 0, .ref 60, .ref 61, .ref 62, .ref 63, .ref 64, .int (nI 6), .int (nI y)] σ = some (some (.int (nI 1)), σ') ∧ LI σ' M' V' ∧ M' 5 = M 5 := by
  obtain ⟨hv, hn, hc, h25⟩ := h
  obtain ⟨hσ, em, mw⟩ := hv.mpw
  have w := hv.lw
  have ok := hn.1
  have hl := ok.1
  have hz := hn.z
  have hp := Nat.mod_lt y (show 0 < 12 by omega)
  obtain ⟨i, ei⟩ : ∃ i, i = y % 12 := ⟨_, rfl⟩
  rw [← ei] at hp
  have ea := dTake_n ok (i := i) (by omega)
  by_cases c : i < V.1.1.length
  · have b1 := sN_ok ok i
    have e1 := hn.nu c
    obtain ⟨M1, r1, n1, o1⟩ := l_out hσ hn (i := i) c
    obtain ⟨f, r2, a2⟩ := l_account (M := M1) hσ (fun j hj => by rw [o1 4 (by omega)]; exact hc.2.2 j hj) (k := 3) (Or.inr rfl) b1.1 b1.2 (-1)
    have r2 : M_L_account [.ref 63, .ref 64, .int (nI (sN V.1 i)), .int (-1)] (mp σ M1) = _ := r2
    rw [← em] at r1
    obtain ⟨σ', r, w'⟩ := k_take (mw (uN M1 3 f) (o1 5 (by omega))) (nI i)
    rw [w_1] at r
    have n2 : LN (dTake V.1 (nI i)).2 (uN M1 3 f) := by rw [ea, if_pos c]; exact n1
    have c2 : LC (dTake V.1 (nI i)).2 (uN M1 3 f) := by
      rw [ea, if_pos c]
      refine ⟨fun j hj => ?_, fun j hj => ?_, fun j hj => ?_⟩
      · show M1 2 j = _
        rw [o1 2 (by omega)]; exact hc.1 j hj
      · show f j = sCh V.1 (p25 j) + exL (p25 j) (V.1.1.eraseIdx i)
        rw [a2 j hj, o1 3 (by omega), hc.2.1 j hj, i_m1, exL_del V.1.1 i (sN_in c), ← Int32.add_assoc]
        rfl
      · show M1 4 j = _
        rw [o1 4 (by omega)]; exact hc.2.2 j hj
    have l2 : L25 (dTake V.1 (nI i)).2 := by rw [ea, if_pos c]; exact h25.era
    refine ⟨σ', uN M1 3 f, _, m_eq rfl rfl ?_, LI.mk w' (dTake_no ok _) n2 c2 l2, o1 5 (by omega)⟩
    rw [ea, if_pos c] at r
    unfold B_L_isActed
    simp (disch := omega) only [x_and, x_or, x_shl, x_shr, x_k, x_i, x_r, x_nil, x_add, x_sub, x_mul, x_div, x_rem, x_get, x_getR, x_ald, x_aldR, x_len, x_lenR, x_if, xa_nil, xa_ci, xa_cr, x_callI, x_callR, x_new, x_newa, x_newq, x_max, x_min, xc_cmp, xc_cmp0, xc_null, xc_nn, xc_not, xc_and, xc_or, xc_if, xs_skip, xs_seq, xs_decI, xs_decR, xs_setI, xs_inc, xs_if, xs_blk, xs_retI, xs_retB, xs_retR, xs_retD, xs_ret0, xs_putI, xs_putZ, xs_putR, xs_putop, xs_ast, xs_astop, xs_astR, xs_callV, xs_callP, xs_super, xs_sw, s_go_inl, s_go_inr, s_cut_inl, s_cut_inr, o_void_n, v_i_int, v_i_none, v_r_ref, v_r_null, v_r_rf, h_set_some, o_some_s, zB_ne0, zB_ite, zB_ite2, g_Vn, g_Pi, nI_add, Option.bind_some, Option.map_some, Option.bind_none, Option.map_none, List.getElem?_cons_zero, List.getElem?_cons_succ, List.set_cons_zero, List.set_cons_succ, List.cons_append, List.nil_append, List.take_succ_cons, List.take_zero, List.length_cons, List.length_nil, Nat.zero_add, Nat.reduceAdd, Nat.reduceLT, if_true, if_false, Bool.false_eq_true, Bool.true_eq_false, decide_eq_true_eq, decide_true, decide_false, Bool.not_true, Bool.not_false, Option.isNone_none, Option.isNone_some, Option.isSome_none, Option.isSome_some, ite_true, ite_false, reduceIte, reduceCtorEq, and_true, true_and, eq_self, Option.some.injEq, Sum.inr.injEq, Sum.inl.injEq, Prod.mk.injEq, not_true_eq_false, not_false_eq_true, Bool.decide_eq_true, n0_ne, n1_ne, xz_ret, zb_if, n1_if, n0_if, v_rf, h_ix_nI, nI_clamp, zB_t, zB_f, uN_uN, uN_ap, Nat.reduceEqDiff, Nat.reduceMul, Nat.reduceSub, w.1, w.2.1, w.2.2.1, w.2.2.2.1, w.2.2.2.2, j_rem, j_div, j_lt, hz, j_eq, decide_eq_true c, e1, r1, r2, r, i_eqS, ← ei, show ¬ (6 : Nat) < 6 by omega]
  · obtain ⟨σ', r, w'⟩ := k_take hv (nI i)
    rw [w_1, ea, if_neg c] at r
    rw [ea, if_neg c, wrap_no V (by decide)] at w'
    refine ⟨σ', M, V, m_eq rfl rfl ?_, ⟨w', hn, hc, h25⟩, rfl⟩
    unfold B_L_isActed
    simp (disch := omega) only [x_and, x_or, x_shl, x_shr, x_k, x_i, x_r, x_nil, x_add, x_sub, x_mul, x_div, x_rem, x_get, x_getR, x_ald, x_aldR, x_len, x_lenR, x_if, xa_nil, xa_ci, xa_cr, x_callI, x_callR, x_new, x_newa, x_newq, x_max, x_min, xc_cmp, xc_cmp0, xc_null, xc_nn, xc_not, xc_and, xc_or, xc_if, xs_skip, xs_seq, xs_decI, xs_decR, xs_setI, xs_inc, xs_if, xs_blk, xs_retI, xs_retB, xs_retR, xs_retD, xs_ret0, xs_putI, xs_putZ, xs_putR, xs_putop, xs_ast, xs_astop, xs_astR, xs_callV, xs_callP, xs_super, xs_sw, s_go_inl, s_go_inr, s_cut_inl, s_cut_inr, o_void_n, v_i_int, v_i_none, v_r_ref, v_r_null, v_r_rf, h_set_some, o_some_s, zB_ne0, zB_ite, zB_ite2, g_Vn, g_Pi, nI_add, Option.bind_some, Option.map_some, Option.bind_none, Option.map_none, List.getElem?_cons_zero, List.getElem?_cons_succ, List.set_cons_zero, List.set_cons_succ, List.cons_append, List.nil_append, List.take_succ_cons, List.take_zero, List.length_cons, List.length_nil, Nat.zero_add, Nat.reduceAdd, Nat.reduceLT, if_true, if_false, Bool.false_eq_true, Bool.true_eq_false, decide_eq_true_eq, decide_true, decide_false, Bool.not_true, Bool.not_false, Option.isNone_none, Option.isNone_some, Option.isSome_none, Option.isSome_some, ite_true, ite_false, reduceIte, reduceCtorEq, and_true, true_and, eq_self, Option.some.injEq, Sum.inr.injEq, Sum.inl.injEq, Prod.mk.injEq, not_true_eq_false, not_false_eq_true, Bool.decide_eq_true, n0_ne, n1_ne, xz_ret, zb_if, n1_if, n0_if, v_rf, h_ix_nI, nI_clamp, zB_t, zB_f, uN_uN, uN_ap, Nat.reduceEqDiff, Nat.reduceMul, Nat.reduceSub, w.1, w.2.1, w.2.2.1, w.2.2.2.1, w.2.2.2.2, j_rem, j_div, j_lt, hz, j_eq, decide_eq_false c, r, i_eqS, ← ei, show ¬ (6 : Nat) < 6 by omega]
theorem act_share (h : LI σ M V) {u y : Nat} (h1 : 7 ≤ u) (h2 : u < 10) (hy : y < 2 ^ 31) : ∃ σ' M' V', M_L_isActed [.ref 0, .ref 60, .ref 61, .ref 62, .ref 63, .ref 64, .int (nI u), .int (nI y)] σ = some (some (.int (nI 1)), σ') ∧ LI σ' M' V' ∧ M' 5 = M 5 := by
  obtain ⟨hv, hn, hc, h25⟩ := h
  obtain ⟨hσ, em, mw⟩ := hv.mpw
  have ok := hn.1
  have hl := ok.1
  have hp := Nat.mod_lt y (show 0 < 12 by omega)
  obtain ⟨i, ei⟩ : ∃ i, i = y % 12 := ⟨_, rfl⟩
  rw [← ei] at hp
  obtain ⟨M1, r1, n1, o1⟩ := l_share hσ hn (i := i) (by omega)
  rw [← em] at r1
  obtain ⟨σ', r, w'⟩ := k_share (mw M1 (o1 5 (by omega))) (nI i)
  rw [w_1] at r
  have e : ∀ q, isPr q → came (dShare V.1 (nI i)).2 q = came V.1 q ∧ sCh (dShare V.1 (nI i)).2 q = sCh V.1 q := fun q hq => by
    rw [dShare_n ok (by omega)]
    split
    · next c =>
      split
      · exact ⟨rfl, rfl⟩
      · exact ⟨shr_came ok c hq, rfl⟩
    · exact ⟨rfl, rfl⟩
  have l2 : L25 (dShare V.1 (nI i)).2 := by
    rw [dShare_n ok (by omega)]
    split
    · split
      · exact h25
      · exact l25_shr h25 i
    · exact h25
  have c2 : LC (dShare V.1 (nI i)).2 M1 := by
    refine ⟨fun j hj => ?_, fun j hj => ?_, fun j hj => ?_⟩
    · rw [o1 2 (by omega), (e _ (p25_pr hj)).2]; exact hc.1 j hj
    · rw [o1 3 (by omega), (e _ (p25_pr hj)).1]; exact hc.2.1 j hj
    · rw [o1 4 (by omega)]; exact hc.2.2 j hj
  refine ⟨σ', M1, _, m_eq rfl rfl ?_, LI.mk w' (dShare_no ok _) n1 c2 l2, o1 5 (by omega)⟩
  unfold B_L_isActed
  simp (disch := omega) only [x_and, x_or, x_shl, x_shr, x_k, x_i, x_r, x_nil, x_add, x_sub, x_mul, x_div, x_rem, x_get, x_getR, x_ald, x_aldR, x_len, x_lenR, x_if, xa_nil, xa_ci, xa_cr, x_callI, x_callR, x_new, x_newa, x_newq, x_max, x_min, xc_cmp, xc_cmp0, xc_null, xc_nn, xc_not, xc_and, xc_or, xc_if, xs_skip, xs_seq, xs_decI, xs_decR, xs_setI, xs_inc, xs_if, xs_blk, xs_retI, xs_retB, xs_retR, xs_retD, xs_ret0, xs_putI, xs_putZ, xs_putR, xs_putop, xs_ast, xs_astop, xs_astR, xs_callV, xs_callP, xs_super, xs_sw, s_go_inl, s_go_inr, s_cut_inl, s_cut_inr, o_void_n, v_i_int, v_i_none, v_r_ref, v_r_null, v_r_rf, h_set_some, o_some_s, zB_ne0, zB_ite, zB_ite2, g_Vn, g_Pi, nI_add, Option.bind_some, Option.map_some, Option.bind_none, Option.map_none, List.getElem?_cons_zero, List.getElem?_cons_succ, List.set_cons_zero, List.set_cons_succ, List.cons_append, List.nil_append, List.take_succ_cons, List.take_zero, List.length_cons, List.length_nil, Nat.zero_add, Nat.reduceAdd, Nat.reduceLT, if_true, if_false, Bool.false_eq_true, Bool.true_eq_false, decide_eq_true_eq, decide_true, decide_false, Bool.not_true, Bool.not_false, Option.isNone_none, Option.isNone_some, Option.isSome_none, Option.isSome_some, ite_true, ite_false, reduceIte, reduceCtorEq, and_true, true_and, eq_self, Option.some.injEq, Sum.inr.injEq, Sum.inl.injEq, Prod.mk.injEq, not_true_eq_false, not_false_eq_true, Bool.decide_eq_true, n0_ne, n1_ne, xz_ret, zb_if, n1_if, n0_if, v_rf, h_ix_nI, nI_clamp, zB_t, zB_f, uN_uN, uN_ap, Nat.reduceEqDiff, Nat.reduceMul, Nat.reduceSub, j_rem, j_div, j_lt, j_eq, show ¬ u < 6 by omega, show ¬ u = 6 by omega, h2, r1, r, i_eqS, ← ei]
theorem act_divide (h : LI σ M V) {u y : Nat} (h1 : 10 ≤ u) (h2 : u < 13) (hy : y < 2 ^ 31) : ∃ σ' M' V', M_L_isActed [.ref 0, .ref 60, .ref 61, .ref 62, .ref 63, .ref 64, .int (nI u), .int (nI y)] σ = some (some (.int (nI 1)), σ') ∧ LI σ' M' V' ∧ M' 5 = M 5 := by
  obtain ⟨hv, hn, hc, h25⟩ := h
  obtain ⟨hσ, em, mw⟩ := hv.mpw
  have ok := hn.1
  have hl := ok.1
  have hp := Nat.mod_lt y (show 0 < 12 by omega)
  obtain ⟨i, ei⟩ : ∃ i, i = y % 12 := ⟨_, rfl⟩
  rw [← ei] at hp
  obtain ⟨M1, r1, n1, ch, o1⟩ := l_divide hσ hn hc.2.2 hc.1 (i := i) (by omega)
  rw [← em] at r1
  obtain ⟨σ', r, w'⟩ := k_divide (mw M1 (o1 5 (by omega))) (nI i)
  rw [w_1] at r
  have e : ∀ q, isPr q → came (dDivide V.1 (nI i)).2 q = came V.1 q := fun q hq => by
    rw [dDivide_n ok (by omega)]
    split
    · next c =>
      split
      · next z =>
        have b1 := sN_ok ok i
        exact spl_came ok c b1.1 z hq
      · rfl
    · rfl
  have l2 : L25 (dDivide V.1 (nI i)).2 := by
    rw [dDivide_n ok (by omega)]
    split
    · split
      · next z => exact l25_spl h25 (Nat.dvd_of_mod_eq_zero z)
      · exact h25
    · exact h25
  have c2 : LC (dDivide V.1 (nI i)).2 M1 := by
    refine ⟨ch, fun j hj => ?_, fun j hj => ?_⟩
    · rw [o1 3 (by omega), e _ (p25_pr hj)]; exact hc.2.1 j hj
    · rw [o1 4 (by omega)]; exact hc.2.2 j hj
  refine ⟨σ', M1, _, m_eq rfl rfl ?_, LI.mk w' (dDivide_no ok _) n1 c2 l2, o1 5 (by omega)⟩
  unfold B_L_isActed
  simp (disch := omega) only [x_and, x_or, x_shl, x_shr, x_k, x_i, x_r, x_nil, x_add, x_sub, x_mul, x_div, x_rem, x_get, x_getR, x_ald, x_aldR, x_len, x_lenR, x_if, xa_nil, xa_ci, xa_cr, x_callI, x_callR, x_new, x_newa, x_newq, x_max, x_min, xc_cmp, xc_cmp0, xc_null, xc_nn, xc_not, xc_and, xc_or, xc_if, xs_skip, xs_seq, xs_decI, xs_decR, xs_setI, xs_inc, xs_if, xs_blk, xs_retI, xs_retB, xs_retR, xs_retD, xs_ret0, xs_putI, xs_putZ, xs_putR, xs_putop, xs_ast, xs_astop, xs_astR, xs_callV, xs_callP, xs_super, xs_sw, s_go_inl, s_go_inr, s_cut_inl, s_cut_inr, o_void_n, v_i_int, v_i_none, v_r_ref, v_r_null, v_r_rf, h_set_some, o_some_s, zB_ne0, zB_ite, zB_ite2, g_Vn, g_Pi, nI_add, Option.bind_some, Option.map_some, Option.bind_none, Option.map_none, List.getElem?_cons_zero, List.getElem?_cons_succ, List.set_cons_zero, List.set_cons_succ, List.cons_append, List.nil_append, List.take_succ_cons, List.take_zero, List.length_cons, List.length_nil, Nat.zero_add, Nat.reduceAdd, Nat.reduceLT, if_true, if_false, Bool.false_eq_true, Bool.true_eq_false, decide_eq_true_eq, decide_true, decide_false, Bool.not_true, Bool.not_false, Option.isNone_none, Option.isNone_some, Option.isSome_none, Option.isSome_some, ite_true, ite_false, reduceIte, reduceCtorEq, and_true, true_and, eq_self, Option.some.injEq, Sum.inr.injEq, Sum.inl.injEq, Prod.mk.injEq, not_true_eq_false, not_false_eq_true, Bool.decide_eq_true, n0_ne, n1_ne, xz_ret, zb_if, n1_if, n0_if, v_rf, h_ix_nI, nI_clamp, zB_t, zB_f, uN_uN, uN_ap, Nat.reduceEqDiff, Nat.reduceMul, Nat.reduceSub, j_rem, j_div, j_lt, j_eq, show ¬ u < 6 by omega, show ¬ u = 6 by omega, show ¬ u < 10 by omega, h2, r1, r, i_eqS, ← ei]
theorem act_strike (h : LI σ M V) {u y : Nat} (h1 : 13 ≤ u) (h2 : u < 16) (hy : y < 2 ^ 31) : ∃ σ' M' V', M_L_isActed [.ref 0, .ref 60, .ref 61, .ref 62, .ref 63, .ref 64, .int (nI u), .int (nI y)] σ = some (some (.int (nI 1)), σ') ∧ LI σ' M' V' ∧ M' 5 = M 5 := by
  obtain ⟨hv, hn, hc, h25⟩ := h
  obtain ⟨hσ, em, mw⟩ := hv.mpw
  have ok := hn.1
  have hl := ok.1
  have hp := Nat.mod_lt y (show 0 < 12 by omega)
  obtain ⟨i, ei⟩ : ∃ i, i = y % 12 := ⟨_, rfl⟩
  rw [← ei] at hp
  obtain ⟨z, ez⟩ : ∃ z, z = y / 12 := ⟨_, rfl⟩
  have hz : z < 2 ^ 31 := by omega
  obtain ⟨k, hk, ek⟩ : ∃ k, k < 25 ∧ k = (if z % 3 = 0 then z / 3 % 25 else z / 3 % 4) := ⟨_, by split <;> omega, rfl⟩
  obtain ⟨M1, r1, n1, ch, o1⟩ := l_strike hσ hn hc.2.2 hc.1 (i := i) (k := k) (by omega) hk
  rw [← em] at r1
  have w1 := lw_mp (σ := σ) (M := M1) hσ
  have rk : M1 4 k = nI (p25 k) := by rw [o1 4 (by omega)]; exact hc.2.2 k hk
  obtain ⟨σ', r, w'⟩ := k_strike (mw M1 (o1 5 (by omega))) (nI i) (nI (p25 k))
  rw [w_1] at r
  have hpk := p25_ok k hk
  have e : ∀ q, isPr q → came (dStrike V.1 (nI i) (nI (p25 k))).2 q = came V.1 q := fun q hq => by
    rw [dStrike_n ok (by omega) (p25_pr hk) (by omega)]
    split
    · next c =>
      split
      · next z => exact spl_came ok c (by omega) z hq
      · rfl
    · rfl
  have l2 : L25 (dStrike V.1 (nI i) (nI (p25 k))).2 := by
    rw [dStrike_n ok (by omega) (p25_pr hk) (by omega)]
    split
    · split
      · next z => exact l25_spl h25 (Nat.dvd_of_mod_eq_zero z)
      · exact h25
    · exact h25
  have c2 : LC (dStrike V.1 (nI i) (nI (p25 k))).2 M1 := by
    refine ⟨ch, fun j hj => ?_, fun j hj => ?_⟩
    · rw [o1 3 (by omega), e _ (p25_pr hj)]; exact hc.2.1 j hj
    · rw [o1 4 (by omega)]; exact hc.2.2 j hj
  refine ⟨σ', M1, _, m_eq rfl rfl ?_, LI.mk w' (dStrike_no ok _ _) n1 c2 l2, o1 5 (by omega)⟩
  unfold B_L_isActed
  by_cases c : z % 3 = 0
  · rw [if_pos c] at ek
    simp (disch := omega) only [x_and, x_or, x_shl, x_shr, x_k, x_i, x_r, x_nil, x_add, x_sub, x_mul, x_div, x_rem, x_get, x_getR, x_ald, x_aldR, x_len, x_lenR, x_if, xa_nil, xa_ci, xa_cr, x_callI, x_callR, x_new, x_newa, x_newq, x_max, x_min, xc_cmp, xc_cmp0, xc_null, xc_nn, xc_not, xc_and, xc_or, xc_if, xs_skip, xs_seq, xs_decI, xs_decR, xs_setI, xs_inc, xs_if, xs_blk, xs_retI, xs_retB, xs_retR, xs_retD, xs_ret0, xs_putI, xs_putZ, xs_putR, xs_putop, xs_ast, xs_astop, xs_astR, xs_callV, xs_callP, xs_super, xs_sw, s_go_inl, s_go_inr, s_cut_inl, s_cut_inr, o_void_n, v_i_int, v_i_none, v_r_ref, v_r_null, v_r_rf, h_set_some, o_some_s, zB_ne0, zB_ite, zB_ite2, g_Vn, g_Pi, nI_add, Option.bind_some, Option.map_some, Option.bind_none, Option.map_none, List.getElem?_cons_zero, List.getElem?_cons_succ, List.set_cons_zero, List.set_cons_succ, List.cons_append, List.nil_append, List.take_succ_cons, List.take_zero, List.length_cons, List.length_nil, Nat.zero_add, Nat.reduceAdd, Nat.reduceLT, if_true, if_false, Bool.false_eq_true, Bool.true_eq_false, decide_eq_true_eq, decide_true, decide_false, Bool.not_true, Bool.not_false, Option.isNone_none, Option.isNone_some, Option.isSome_none, Option.isSome_some, ite_true, ite_false, reduceIte, reduceCtorEq, and_true, true_and, eq_self, Option.some.injEq, Sum.inr.injEq, Sum.inl.injEq, Prod.mk.injEq, not_true_eq_false, not_false_eq_true, Bool.decide_eq_true, n0_ne, n1_ne, xz_ret, zb_if, n1_if, n0_if, v_rf, h_ix_nI, nI_clamp, zB_t, zB_f, uN_uN, uN_ap, Nat.reduceEqDiff, Nat.reduceMul, Nat.reduceSub, j_rem, j_div, j_lt, j_eq, j_eq0, show ¬ u < 6 by omega, show ¬ u = 6 by omega, show ¬ u < 10 by omega, show ¬ u < 13 by omega, h2, ← ei, ← ez, c, ← ek, r1, w1.2.2.2.2, rk, r, i_eqS]
  · rw [if_neg c] at ek
    simp (disch := omega) only [x_and, x_or, x_shl, x_shr, x_k, x_i, x_r, x_nil, x_add, x_sub, x_mul, x_div, x_rem, x_get, x_getR, x_ald, x_aldR, x_len, x_lenR, x_if, xa_nil, xa_ci, xa_cr, x_callI, x_callR, x_new, x_newa, x_newq, x_max, x_min, xc_cmp, xc_cmp0, xc_null, xc_nn, xc_not, xc_and, xc_or, xc_if, xs_skip, xs_seq, xs_decI, xs_decR, xs_setI, xs_inc, xs_if, xs_blk, xs_retI, xs_retB, xs_retR, xs_retD, xs_ret0, xs_putI, xs_putZ, xs_putR, xs_putop, xs_ast, xs_astop, xs_astR, xs_callV, xs_callP, xs_super, xs_sw, s_go_inl, s_go_inr, s_cut_inl, s_cut_inr, o_void_n, v_i_int, v_i_none, v_r_ref, v_r_null, v_r_rf, h_set_some, o_some_s, zB_ne0, zB_ite, zB_ite2, g_Vn, g_Pi, nI_add, Option.bind_some, Option.map_some, Option.bind_none, Option.map_none, List.getElem?_cons_zero, List.getElem?_cons_succ, List.set_cons_zero, List.set_cons_succ, List.cons_append, List.nil_append, List.take_succ_cons, List.take_zero, List.length_cons, List.length_nil, Nat.zero_add, Nat.reduceAdd, Nat.reduceLT, if_true, if_false, Bool.false_eq_true, Bool.true_eq_false, decide_eq_true_eq, decide_true, decide_false, Bool.not_true, Bool.not_false, Option.isNone_none, Option.isNone_some, Option.isSome_none, Option.isSome_some, ite_true, ite_false, reduceIte, reduceCtorEq, and_true, true_and, eq_self, Option.some.injEq, Sum.inr.injEq, Sum.inl.injEq, Prod.mk.injEq, not_true_eq_false, not_false_eq_true, Bool.decide_eq_true, n0_ne, n1_ne, xz_ret, zb_if, n1_if, n0_if, v_rf, h_ix_nI, nI_clamp, zB_t, zB_f, uN_uN, uN_ap, Nat.reduceEqDiff, Nat.reduceMul, Nat.reduceSub, j_rem, j_div, j_lt, j_eq, j_eq0, show ¬ u < 6 by omega, show ¬ u = 6 by omega, show ¬ u < 10 by omega, show ¬ u < 13 by omega, h2, ← ei, ← ez, c, ← ek, r1, w1.2.2.2.2, rk, r, i_eqS]
theorem act_settle (h : LI σ M V) {g y : Nat} (hg : M 5 0 = nI g) (hg2 : g < 1000) (hy : y < 2 ^ 31) : ∃ σ' M' V', M_L_isActed [.ref 0, .ref 60, .ref 61, .ref 62, .ref 63, .ref 64, .int (nI 16), .int (nI y)] σ = some (some (.int (nI 1)), σ') ∧ LI σ' M' V' ∧ M' 5 0 = nI (g + 1) := by
  obtain ⟨hv, hn, hc, h25⟩ := h
  obtain ⟨hσ, em, mw⟩ := hv.mpw
  have ok := hn.1
  obtain ⟨M1, f, r1, n1, o1⟩ := l_settle hσ hn
  rw [← em] at r1
  have e2 : mp (hp σ f) M1 = mp (hp σ f) (uN M1 5 (fun _ => nI (g + 1))) := rfl
  rw [e2] at r1
  obtain ⟨σ', r, w'⟩ := k_settle (hv.app (f := f) (M' := uN M1 5 (fun _ => nI (g + 1))) (by
    rw [hg]
    show nN (nI (g + 1)) = _
    rw [nN_n (by omega), nN_n (by omega)]))
  rw [w_1] at r
  obtain ⟨l2, e⟩ := settle_ok ok h25
  have c2 : LC (dSettle V.1).2 (uN M1 5 (fun _ => nI (g + 1))) := by
    refine ⟨fun j hj => ?_, fun j hj => ?_, fun j hj => ?_⟩
    · show M1 2 j = _
      rw [o1 2 (by omega), (e _ (p25_pr hj)).2]; exact hc.1 j hj
    · show M1 3 j = _
      rw [o1 3 (by omega), (e _ (p25_pr hj)).1]; exact hc.2.1 j hj
    · show M1 4 j = _
      rw [o1 4 (by omega)]; exact hc.2.2 j hj
  have hno : i_lt (dSettle V.1).1 0 = true → (dSettle V.1).2 = V.1 := by
    unfold dSettle
    cases hr : sirF 13 V.1 with
    | none => exact fun _ => rfl
    | some q =>
      have := sir_le 13 V.1 q hr
      exact fun z => (nI_nneg (by omega) z).elim
  refine ⟨σ', _, _, m_eq rfl rfl ?_, LI.mk w' hno n1 c2 l2, rfl⟩
  unfold B_L_isActed
  simp (disch := omega) only [x_and, x_or, x_shl, x_shr, x_k, x_i, x_r, x_nil, x_add, x_sub, x_mul, x_div, x_rem, x_get, x_getR, x_ald, x_aldR, x_len, x_lenR, x_if, xa_nil, xa_ci, xa_cr, x_callI, x_callR, x_new, x_newa, x_newq, x_max, x_min, xc_cmp, xc_cmp0, xc_null, xc_nn, xc_not, xc_and, xc_or, xc_if, xs_skip, xs_seq, xs_decI, xs_decR, xs_setI, xs_inc, xs_if, xs_blk, xs_retI, xs_retB, xs_retR, xs_retD, xs_ret0, xs_putI, xs_putZ, xs_putR, xs_putop, xs_ast, xs_astop, xs_astR, xs_callV, xs_callP, xs_super, xs_sw, s_go_inl, s_go_inr, s_cut_inl, s_cut_inr, o_void_n, v_i_int, v_i_none, v_r_ref, v_r_null, v_r_rf, h_set_some, o_some_s, zB_ne0, zB_ite, zB_ite2, g_Vn, g_Pi, nI_add, Option.bind_some, Option.map_some, Option.bind_none, Option.map_none, List.getElem?_cons_zero, List.getElem?_cons_succ, List.set_cons_zero, List.set_cons_succ, List.cons_append, List.nil_append, List.take_succ_cons, List.take_zero, List.length_cons, List.length_nil, Nat.zero_add, Nat.reduceAdd, Nat.reduceLT, if_true, if_false, Bool.false_eq_true, Bool.true_eq_false, decide_eq_true_eq, decide_true, decide_false, Bool.not_true, Bool.not_false, Option.isNone_none, Option.isNone_some, Option.isSome_none, Option.isSome_some, ite_true, ite_false, reduceIte, reduceCtorEq, and_true, true_and, eq_self, Option.some.injEq, Sum.inr.injEq, Sum.inl.injEq, Prod.mk.injEq, not_true_eq_false, not_false_eq_true, Bool.decide_eq_true, n0_ne, n1_ne, xz_ret, zb_if, n1_if, n0_if, v_rf, h_ix_nI, nI_clamp, zB_t, zB_f, uN_uN, uN_ap, Nat.reduceEqDiff, Nat.reduceMul, Nat.reduceSub, j_rem, j_div, j_lt, j_eq, show ¬ (16 : Nat) < 6 by omega, show ¬ (16 : Nat) = 6 by omega, show ¬ (16 : Nat) < 10 by omega, show ¬ (16 : Nat) < 13 by omega, Nat.lt_irrefl, r1, r, i_eqS]
theorem act_set (h : LI σ M V) {y : Nat} (hy : y < 2 ^ 31) : ∃ σ' M' V', M_L_isActed [.ref 0, .ref 60, .ref 61, .ref 62, .ref 63, .ref 64, .int (nI 17), .int (nI y)] σ = some (some (.int (nI 1)), σ') ∧ LI σ' M' V' ∧ M' 5 = M 5 := by
  obtain ⟨hv, hn, hc, h25⟩ := h
  obtain ⟨hσ, em, mw⟩ := hv.mpw
  have w := hv.lw
  have ok := hn.1
  obtain ⟨z, ez⟩ : ∃ z, z = y / 12 := ⟨_, rfl⟩
  have hz : z < 2 ^ 31 := by omega
  have q10 : ¬ (1 : Nat) = 0 := by omega
  rcases Nat.mod_two_eq_zero_or_one y with c | c
  · -- the rule
    obtain ⟨v, hv2, ev⟩ : ∃ v, v ≤ 2 ∧ v = z % 3 := ⟨_, by omega, rfl⟩
    obtain ⟨f, hf⟩ : ∃ f, f = upd (M 1) 1 (nI v) := ⟨_, rfl⟩
    have f1 : f 1 = nI v := by rw [hf]; rfl
    have ea : dSet V.1 (nI 0) (nI v) = (nI V.1.2.1, V.1.1, v, V.1.2.2) := by
      unfold dSet
      rw [i_eqS, inB_n (by omega) (by omega) (by omega), decide_eq_true (Nat.zero_le v), decide_eq_true hv2, if_pos rfl, nN_n (by omega)]
    have w1 := lw_mp (σ := σ) (M := uN M 1 f) hσ
    have s1 := mp_s1 (σ := σ) (M := M) hσ (f := f)
    rw [← em] at s1
    obtain ⟨σ', r, w'⟩ := k_set (mw (uN M 1 f) rfl) (nI 0) (nI v)
    rw [w_1, ea] at r
    have fo : ∀ q, q ≠ 1 → f q = M 1 q := fun q hq => by rw [hf]; exact if_neg hq
    have n2 : LN (dSet V.1 (nI 0) (nI v)).2 (uN M 1 f) := by
      rw [ea]
      exact ⟨⟨ok.1, ok.2.1, hv2, ok.2.2.2⟩, (fo 0 (by omega)).trans hn.2.1, f1, (fo 2 (by omega)).trans hn.2.2.2.1, (fo 3 (by omega)).trans hn.2.2.2.2.1, hn.2.2.2.2.2⟩
    have c2 : LC (dSet V.1 (nI 0) (nI v)).2 (uN M 1 f) := by rw [ea]; exact hc
    have l2 : L25 (dSet V.1 (nI 0) (nI v)).2 := by rw [ea]; exact h25
    refine ⟨σ', uN M 1 f, _, m_eq rfl rfl ?_, LI.mk w' (dSet_no ok _ _) n2 c2 l2, rfl⟩
    unfold B_L_isActed
    simp (disch := omega) only [x_and, x_or, x_shl, x_shr, x_k, x_i, x_r, x_nil, x_add, x_sub, x_mul, x_div, x_rem, x_get, x_getR, x_ald, x_aldR, x_len, x_lenR, x_if, xa_nil, xa_ci, xa_cr, x_callI, x_callR, x_new, x_newa, x_newq, x_max, x_min, xc_cmp, xc_cmp0, xc_null, xc_nn, xc_not, xc_and, xc_or, xc_if, xs_skip, xs_seq, xs_decI, xs_decR, xs_setI, xs_inc, xs_if, xs_blk, xs_retI, xs_retB, xs_retR, xs_retD, xs_ret0, xs_putI, xs_putZ, xs_putR, xs_putop, xs_ast, xs_astop, xs_astR, xs_callV, xs_callP, xs_super, xs_sw, s_go_inl, s_go_inr, s_cut_inl, s_cut_inr, o_void_n, v_i_int, v_i_none, v_r_ref, v_r_null, v_r_rf, h_set_some, o_some_s, zB_ne0, zB_ite, zB_ite2, g_Vn, g_Pi, nI_add, Option.bind_some, Option.map_some, Option.bind_none, Option.map_none, List.getElem?_cons_zero, List.getElem?_cons_succ, List.set_cons_zero, List.set_cons_succ, List.cons_append, List.nil_append, List.take_succ_cons, List.take_zero, List.length_cons, List.length_nil, Nat.zero_add, Nat.reduceAdd, Nat.reduceLT, if_true, if_false, Bool.false_eq_true, Bool.true_eq_false, decide_eq_true_eq, decide_true, decide_false, Bool.not_true, Bool.not_false, Option.isNone_none, Option.isNone_some, Option.isSome_none, Option.isSome_some, ite_true, ite_false, reduceIte, reduceCtorEq, and_true, true_and, eq_self, Option.some.injEq, Sum.inr.injEq, Sum.inl.injEq, Prod.mk.injEq, not_true_eq_false, not_false_eq_true, Bool.decide_eq_true, n0_ne, n1_ne, xz_ret, zb_if, n1_if, n0_if, v_rf, h_ix_nI, nI_clamp, zB_t, zB_f, uN_uN, uN_ap, Nat.reduceEqDiff, Nat.reduceMul, Nat.reduceSub, w.1, w.2.1, w.2.2.1, w.2.2.2.1, w.2.2.2.2, j_rem, j_div, j_lt, j_eq, j_eq0, show ¬ (17 : Nat) < 6 by omega, show ¬ (17 : Nat) = 6 by omega, show ¬ (17 : Nat) < 10 by omega, show ¬ (17 : Nat) < 13 by omega, show ¬ (17 : Nat) < 16 by omega, show ¬ (17 : Nat) = 16 by omega, c, ← ez, ← ev, Nat.add_zero, hn.2.2.1, ← hf, s1, w1.2.1, f1, r, i_eqS]
  · obtain ⟨v, hv1, hv2, ev⟩ : ∃ v, 1 ≤ v ∧ v ≤ 4 ∧ v = 1 + z % 4 := ⟨_, by omega, by omega, rfl⟩
    obtain ⟨f, hf⟩ : ∃ f, f = upd (M 1) 2 (nI v) := ⟨_, rfl⟩
    have f1 : f 2 = nI v := by rw [hf]; rfl
    have ea : dSet V.1 (nI 1) (nI v) = (nI V.1.2.2.1, V.1.1, V.1.2.1, v, V.1.2.2.2) := by
      unfold dSet
      rw [show i_eq (nI 1) (nI 0) = false by decide, Bool.false_and, if_neg Bool.false_ne_true, i_eqS, inB_n (by omega) (by omega) (by omega), decide_eq_true hv1, decide_eq_true hv2, if_pos rfl, nN_n (by omega)]
    have w1 := lw_mp (σ := σ) (M := uN M 1 f) hσ
    have s1 := mp_s1 (σ := σ) (M := M) hσ (f := f)
    rw [← em] at s1
    obtain ⟨σ', r, w'⟩ := k_set (mw (uN M 1 f) rfl) (nI 1) (nI v)
    rw [w_1, ea] at r
    have fo : ∀ q, q ≠ 2 → f q = M 1 q := fun q hq => by rw [hf]; exact if_neg hq
    have n2 : LN (dSet V.1 (nI 1) (nI v)).2 (uN M 1 f) := by
      rw [ea]
      exact ⟨⟨ok.1, ok.2.1, ok.2.2.1, hv1, hv2⟩, (fo 0 (by omega)).trans hn.2.1, (fo 1 (by omega)).trans hn.2.2.1, f1, (fo 3 (by omega)).trans hn.2.2.2.2.1, hn.2.2.2.2.2⟩
    have c2 : LC (dSet V.1 (nI 1) (nI v)).2 (uN M 1 f) := by rw [ea]; exact hc
    have l2 : L25 (dSet V.1 (nI 1) (nI v)).2 := by rw [ea]; exact h25
    refine ⟨σ', uN M 1 f, _, m_eq rfl rfl ?_, LI.mk w' (dSet_no ok _ _) n2 c2 l2, rfl⟩
    unfold B_L_isActed
    simp (disch := omega) only [x_and, x_or, x_shl, x_shr, x_k, x_i, x_r, x_nil, x_add, x_sub, x_mul, x_div, x_rem, x_get, x_getR, x_ald, x_aldR, x_len, x_lenR, x_if, xa_nil, xa_ci, xa_cr, x_callI, x_callR, x_new, x_newa, x_newq, x_max, x_min, xc_cmp, xc_cmp0, xc_null, xc_nn, xc_not, xc_and, xc_or, xc_if, xs_skip, xs_seq, xs_decI, xs_decR, xs_setI, xs_inc, xs_if, xs_blk, xs_retI, xs_retB, xs_retR, xs_retD, xs_ret0, xs_putI, xs_putZ, xs_putR, xs_putop, xs_ast, xs_astop, xs_astR, xs_callV, xs_callP, xs_super, xs_sw, s_go_inl, s_go_inr, s_cut_inl, s_cut_inr, o_void_n, v_i_int, v_i_none, v_r_ref, v_r_null, v_r_rf, h_set_some, o_some_s, zB_ne0, zB_ite, zB_ite2, g_Vn, g_Pi, nI_add, Option.bind_some, Option.map_some, Option.bind_none, Option.map_none, List.getElem?_cons_zero, List.getElem?_cons_succ, List.set_cons_zero, List.set_cons_succ, List.cons_append, List.nil_append, List.take_succ_cons, List.take_zero, List.length_cons, List.length_nil, Nat.zero_add, Nat.reduceAdd, Nat.reduceLT, if_true, if_false, Bool.false_eq_true, Bool.true_eq_false, decide_eq_true_eq, decide_true, decide_false, Bool.not_true, Bool.not_false, Option.isNone_none, Option.isNone_some, Option.isSome_none, Option.isSome_some, ite_true, ite_false, reduceIte, reduceCtorEq, and_true, true_and, eq_self, Option.some.injEq, Sum.inr.injEq, Sum.inl.injEq, Prod.mk.injEq, not_true_eq_false, not_false_eq_true, Bool.decide_eq_true, n0_ne, n1_ne, xz_ret, zb_if, n1_if, n0_if, v_rf, h_ix_nI, nI_clamp, zB_t, zB_f, uN_uN, uN_ap, Nat.reduceEqDiff, Nat.reduceMul, Nat.reduceSub, w.1, w.2.1, w.2.2.1, w.2.2.2.1, w.2.2.2.2, j_rem, j_div, j_lt, j_eq, j_eq0, show ¬ (17 : Nat) < 6 by omega, show ¬ (17 : Nat) = 6 by omega, show ¬ (17 : Nat) < 10 by omega, show ¬ (17 : Nat) < 13 by omega, show ¬ (17 : Nat) < 16 by omega, show ¬ (17 : Nat) = 16 by omega, q10, c, ← ez, ← ev, hn.2.2.2.1, ← hf, s1, w1.2.1, f1, r, i_eqS]
theorem l_isActed (h : LI σ M V) {g u y : Nat} (hg : M 5 0 = nI g) (hg2 : g < 1000) (hu : u < 18) (hy : y < 2 ^ 31) : ∃ σ' M' V' g', M_L_isActed [.ref 0, .ref 60, .ref 61, .ref 62, .ref 63, .ref 64, .int (nI u), .int (nI y)] σ = some (some (.int (nI 1)), σ') ∧ LI σ' M' V' ∧ M' 5 0 = nI g' ∧ g' ≤ g + 1 := by
  have go : (∃ σ' M' V', M_L_isActed [.ref 0, .ref 60, .ref 61, .ref 62, .ref 63, .ref 64, .int (nI u), .int (nI y)] σ = some (some (.int (nI 1)), σ') ∧ LI σ' M' V' ∧ M' 5 = M 5) → ∃ σ' M' V' g', M_L_isActed [.ref 0, .ref 60, .ref 61, .ref 62, .ref 63, .ref 64, .int (nI u), .int (nI y)] σ = some (some (.int (nI 1)), σ') ∧ LI σ' M' V' ∧ M' 5 0 = nI g' ∧ g' ≤ g + 1 := fun ⟨σ', M', V', a, b, c⟩ => ⟨σ', M', V', g, a, b, by rw [c]; exact hg, by omega⟩
  rcases (show u < 6 ∨ u = 6 ∨ (7 ≤ u ∧ u < 10) ∨ (10 ≤ u ∧ u < 13) ∨ (13 ≤ u ∧ u < 16) ∨ u = 16 ∨ u = 17 by omega) with q | q | q | q | q | q | q
  · exact go (act_add h q hy)
  · subst q; exact go (act_take h hy)
  · exact go (act_share h q.1 q.2 hy)
  · exact go (act_divide h q.1 q.2 hy)
  · exact go (act_strike h q.1 q.2 hy)
  · subst q
    obtain ⟨σ', M', V', a, b, c⟩ := act_settle h hg hg2 hy
    exact ⟨σ', M', V', g + 1, a, b, c, Nat.le_refl _⟩
  · subst q; exact go (act_set h hy)
end
