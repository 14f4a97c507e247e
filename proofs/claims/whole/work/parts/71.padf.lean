/-! Pad (own work): deeds, parts, the fault -/
def kn (c : Nat) : Int32 := if c = 115 then nI 0 else if c = 100 then nI 1 else if c = 107 then nI 2 else -1
/-- what Pad holds of a part that it has read -/
def PQ (w : Bool) (Q : tC) (t : tP) : Prop := if w = true then Q.1 5 = kn t.1 ∧ Q.1 6 = nI t.2.1 ∧ Q.1 7 = nI t.2.2.1 ∧ Q.1 8 = nI t.2.2.2 else Q.1 4 = nI t.2.1
section
variable {σ : sSt} {Q : tC} {p : List Nat}
theorem f_kindOf {c : Nat} (hc : c < 2 ^ 31) : M_X4_kindOf [.int (nI c)] σ = some (some (.int (kn c)), σ) := by
  refine m_eq rfl rfl ?_
  unfold B_X4_kindOf kn
  by_cases c1 : c = 115
  · simp (disch := omega) only [x_k, x_i, x_r, x_nil, x_add, x_sub, x_mul, x_div, x_rem, x_get, x_getR, x_ald, x_aldR, x_len, x_lenR, x_if, xa_nil, xa_ci, xa_cr, x_callI, x_callR, x_new, x_newa, x_newq, x_max, x_min, xc_cmp, xc_cmp0, xc_null, xc_nn, xc_not, xc_and, xc_or, xc_if, xs_skip, xs_seq, xs_decI, xs_decR, xs_setI, xs_inc, xs_if, xs_blk, xs_retI, xs_retB, xs_retR, xs_retD, xs_ret0, xs_putI, xs_putZ, xs_putR, xs_putop, xs_ast, xs_astop, xs_astR, xs_callV, xs_callP, xs_super, xs_sw, s_go_inl, s_go_inr, s_cut_inl, s_cut_inr, o_void_n, v_i_int, v_i_none, v_r_ref, v_r_null, v_r_rf, h_set_some, o_some_s, zB_ne0, zB_ite, zB_ite2, g_Vn, g_Pi, nI_add, Option.bind_some, Option.map_some, Option.bind_none, Option.map_none, List.getElem?_cons_zero, List.getElem?_cons_succ, List.set_cons_zero, List.set_cons_succ, List.cons_append, List.nil_append, List.take_succ_cons, List.take_zero, List.length_cons, List.length_nil, Nat.zero_add, Nat.reduceAdd, Nat.reduceLT, if_true, if_false, Bool.false_eq_true, Bool.true_eq_false, decide_eq_true_eq, decide_true, decide_false, Bool.not_true, Bool.not_false, Option.isNone_none, Option.isNone_some, Option.isSome_none, Option.isSome_some, ite_true, ite_false, reduceIte, reduceCtorEq, and_true, true_and, eq_self, Option.some.injEq, Sum.inr.injEq, Sum.inl.injEq, Prod.mk.injEq, nI_eq, c1]
  · by_cases c2 : c = 100
    · simp (disch := omega) only [x_k, x_i, x_r, x_nil, x_add, x_sub, x_mul, x_div, x_rem, x_get, x_getR, x_ald, x_aldR, x_len, x_lenR, x_if, xa_nil, xa_ci, xa_cr, x_callI, x_callR, x_new, x_newa, x_newq, x_max, x_min, xc_cmp, xc_cmp0, xc_null, xc_nn, xc_not, xc_and, xc_or, xc_if, xs_skip, xs_seq, xs_decI, xs_decR, xs_setI, xs_inc, xs_if, xs_blk, xs_retI, xs_retB, xs_retR, xs_retD, xs_ret0, xs_putI, xs_putZ, xs_putR, xs_putop, xs_ast, xs_astop, xs_astR, xs_callV, xs_callP, xs_super, xs_sw, s_go_inl, s_go_inr, s_cut_inl, s_cut_inr, o_void_n, v_i_int, v_i_none, v_r_ref, v_r_null, v_r_rf, h_set_some, o_some_s, zB_ne0, zB_ite, zB_ite2, g_Vn, g_Pi, nI_add, Option.bind_some, Option.map_some, Option.bind_none, Option.map_none, List.getElem?_cons_zero, List.getElem?_cons_succ, List.set_cons_zero, List.set_cons_succ, List.cons_append, List.nil_append, List.take_succ_cons, List.take_zero, List.length_cons, List.length_nil, Nat.zero_add, Nat.reduceAdd, Nat.reduceLT, if_true, if_false, Bool.false_eq_true, Bool.true_eq_false, decide_eq_true_eq, decide_true, decide_false, Bool.not_true, Bool.not_false, Option.isNone_none, Option.isNone_some, Option.isSome_none, Option.isSome_some, ite_true, ite_false, reduceIte, reduceCtorEq, and_true, true_and, eq_self, Option.some.injEq, Sum.inr.injEq, Sum.inl.injEq, Prod.mk.injEq, not_true_eq_false, not_false_eq_true, Bool.decide_eq_true, n0_ne, n1_ne, xz_ret, zb_if, n1_if, n0_if, v_rf, h_ix_nI, nI_clamp, zB_t, zB_f, uN_uN, uN_ap, Nat.reduceEqDiff, Nat.reduceMul, Nat.reduceSub, nI_eq, c1, c2]
    · by_cases c3 : c = 107
      · simp (disch := omega) only [x_k, x_i, x_r, x_nil, x_add, x_sub, x_mul, x_div, x_rem, x_get, x_getR, x_ald, x_aldR, x_len, x_lenR, x_if, xa_nil, xa_ci, xa_cr, x_callI, x_callR, x_new, x_newa, x_newq, x_max, x_min, xc_cmp, xc_cmp0, xc_null, xc_nn, xc_not, xc_and, xc_or, xc_if, xs_skip, xs_seq, xs_decI, xs_decR, xs_setI, xs_inc, xs_if, xs_blk, xs_retI, xs_retB, xs_retR, xs_retD, xs_ret0, xs_putI, xs_putZ, xs_putR, xs_putop, xs_ast, xs_astop, xs_astR, xs_callV, xs_callP, xs_super, xs_sw, s_go_inl, s_go_inr, s_cut_inl, s_cut_inr, o_void_n, v_i_int, v_i_none, v_r_ref, v_r_null, v_r_rf, h_set_some, o_some_s, zB_ne0, zB_ite, zB_ite2, g_Vn, g_Pi, nI_add, Option.bind_some, Option.map_some, Option.bind_none, Option.map_none, List.getElem?_cons_zero, List.getElem?_cons_succ, List.set_cons_zero, List.set_cons_succ, List.cons_append, List.nil_append, List.take_succ_cons, List.take_zero, List.length_cons, List.length_nil, Nat.zero_add, Nat.reduceAdd, Nat.reduceLT, if_true, if_false, Bool.false_eq_true, Bool.true_eq_false, decide_eq_true_eq, decide_true, decide_false, Bool.not_true, Bool.not_false, Option.isNone_none, Option.isNone_some, Option.isSome_none, Option.isSome_some, ite_true, ite_false, reduceIte, reduceCtorEq, and_true, true_and, eq_self, Option.some.injEq, Sum.inr.injEq, Sum.inl.injEq, Prod.mk.injEq, not_true_eq_false, not_false_eq_true, Bool.decide_eq_true, n0_ne, n1_ne, xz_ret, zb_if, n1_if, n0_if, v_rf, h_ix_nI, nI_clamp, zB_t, zB_f, uN_uN, uN_ap, Nat.reduceEqDiff, Nat.reduceMul, Nat.reduceSub, nI_eq, c1, c2, c3]
      · simp (disch := omega) only [x_k, x_i, x_r, x_nil, x_add, x_sub, x_mul, x_div, x_rem, x_get, x_getR, x_ald, x_aldR, x_len, x_lenR, x_if, xa_nil, xa_ci, xa_cr, x_callI, x_callR, x_new, x_newa, x_newq, x_max, x_min, xc_cmp, xc_cmp0, xc_null, xc_nn, xc_not, xc_and, xc_or, xc_if, xs_skip, xs_seq, xs_decI, xs_decR, xs_setI, xs_inc, xs_if, xs_blk, xs_retI, xs_retB, xs_retR, xs_retD, xs_ret0, xs_putI, xs_putZ, xs_putR, xs_putop, xs_ast, xs_astop, xs_astR, xs_callV, xs_callP, xs_super, xs_sw, s_go_inl, s_go_inr, s_cut_inl, s_cut_inr, o_void_n, v_i_int, v_i_none, v_r_ref, v_r_null, v_r_rf, h_set_some, o_some_s, zB_ne0, zB_ite, zB_ite2, g_Vn, g_Pi, nI_add, Option.bind_some, Option.map_some, Option.bind_none, Option.map_none, List.getElem?_cons_zero, List.getElem?_cons_succ, List.set_cons_zero, List.set_cons_succ, List.cons_append, List.nil_append, List.take_succ_cons, List.take_zero, List.length_cons, List.length_nil, Nat.zero_add, Nat.reduceAdd, Nat.reduceLT, if_true, if_false, Bool.false_eq_true, Bool.true_eq_false, decide_eq_true_eq, decide_true, decide_false, Bool.not_true, Bool.not_false, Option.isNone_none, Option.isNone_some, Option.isSome_none, Option.isSome_some, ite_true, ite_false, reduceIte, reduceCtorEq, and_true, true_and, eq_self, Option.some.injEq, Sum.inr.injEq, Sum.inl.injEq, Prod.mk.injEq, nI_eq, c1, c2, c3]
theorem kn_ok {c : Nat} : i_eq (kn c) (-1) = !letB c := by
  unfold kn letB
  by_cases c1 : c = 115
  · rw [if_pos c1, decide_eq_true (Or.inl c1)]; decide
  · rw [if_neg c1]
    by_cases c2 : c = 100
    · rw [if_pos c2, decide_eq_true (Or.inr (Or.inl c2))]; decide
    · rw [if_neg c2]
      by_cases c3 : c = 107
      · rw [if_pos c3, decide_eq_true (Or.inr (Or.inr c3))]; decide
      · rw [if_neg c3, decide_eq_false (by omega)]; decide
theorem kn_2 {c : Nat} (h : letB c = true) : i_ne (kn c) (nI 2) = decide (¬ c = 107) := by
  unfold kn
  have h := of_decide_eq_true h
  rcases h with c1 | c1 | c1 <;> subst c1 <;> decide
theorem f_nextDeed (hσ : 72 ≤ σ.1.length) (h : PadQ Q p) {s : Nat} (hs : s ≤ p.length) (h2 : Q.1 2 = nI s) : ∃ Q' : tC, M_X4_nextDeed [.ref 51] (qp σ Q) = some (some (.int (zB (deedP p s).1)), qp σ Q') ∧ Q'.1 1 = Q.1 1 ∧ Q'.1 3 = Q.1 3 ∧ Q'.2 = Q.2 ∧ Q'.1 2 = nI (deedP p s).2.2 ∧ ((deedP p s).1 = true → PQ true Q' (deedP p s).2.1) := by
  have h1 := h.1
  have pl : pc p s ≤ 126 := by
    by_cases z : s < p.length
    · exact (h.2.2 s z).2.2
    · rw [pc_out (by omega)]; omega
  have o1 : ∀ C : tC, h_obj (qp σ C) (some 51) 4 = some (qF C.1) := fun C => qp_o hσ
  have o3 : ∀ (C : tC) (I : Nat → Int32), ((qp σ C).1.set 51 (.inl (4, qF I)), (qp σ C).2) = qp σ (I, C.2) := fun C I => qp_s0 hσ
  obtain ⟨Q1, e1⟩ : ∃ Q1 : tC, Q1 = (uN Q.1 8 (nI s), Q.2) := ⟨_, rfl⟩
  obtain ⟨Q2, e2⟩ : ∃ Q2 : tC, Q2 = (uN Q1.1 7 (nI 0), Q1.2) := ⟨_, rfl⟩
  obtain ⟨Q3, e3⟩ : ∃ Q3 : tC, Q3 = (uN Q2.1 5 (kn (pc p s)), Q2.2) := ⟨_, rfl⟩
  obtain ⟨Q4, e4⟩ : ∃ Q4 : tC, Q4 = (uN Q3.1 2 (nI (s + 1)), Q3.2) := ⟨_, rfl⟩
  have a2 : PadQ Q2 p := h.same (by rw [e2, e1]; rfl) (by rw [e2, e1])
  have a4 : PadQ Q4 p := h.same (by rw [e4, e3, e2, e1]; rfl) (by rw [e4, e3, e2, e1])
  have co := f_code hσ a2 hs (by rw [e2, e1]; exact h2)
  have g1 : ((qp σ Q).1.set 51 (.inl (4, qF (uN Q.1 8 (nI s)))), (qp σ Q).2) = qp σ Q1 := by rw [e1]; exact o3 _ _
  have g2 : ((qp σ Q1).1.set 51 (.inl (4, qF (uN Q1.1 7 (nI 0)))), (qp σ Q1).2) = qp σ Q2 := by rw [e2]; exact o3 _ _
  have g3 : ((qp σ Q2).1.set 51 (.inl (4, qF (uN Q2.1 5 (kn (pc p s))))), (qp σ Q2).2) = qp σ Q3 := by rw [e3]; exact o3 _ _
  have g4 : ((qp σ Q3).1.set 51 (.inl (4, qF (uN Q3.1 2 (nI (s + 1))))), (qp σ Q3).2) = qp σ Q4 := by rw [e4]; exact o3 _ _
  have k3 : Q3.1 5 = kn (pc p s) := by rw [e3]; rfl
  have k32 : Q3.1 2 = nI s := by rw [e3, e2, e1]; exact h2
  have ke := kn_ok (c := pc p s)
  have head : ∀ (T : sStm), (letB (pc p s) = false → (s_seq (s_putI 4 8 (e_r 0) (e_get 4 2 (e_r 0))) (s_seq (s_putI 4 7 (e_r 0) (e_k (nI 0))) (s_seq (s_putI 4 5 (e_r 0) (e_callI M_X4_kindOf (a_ci (e_callI M_X4_code (a_cr (e_r 0) a_nil)) a_nil))) (s_seq (s_if (c_cmp i_eq (e_get 4 5 (e_r 0)) (e_k (-1))) (s_retZ (e_k (nI 0))) s_skip) T)))) [.ref 51] (qp σ Q) = some (.inl (some (.int (nI 0)), qp σ Q3))) ∧ (letB (pc p s) = true → (s_seq (s_putI 4 8 (e_r 0) (e_get 4 2 (e_r 0))) (s_seq (s_putI 4 7 (e_r 0) (e_k (nI 0))) (s_seq (s_putI 4 5 (e_r 0) (e_callI M_X4_kindOf (a_ci (e_callI M_X4_code (a_cr (e_r 0) a_nil)) a_nil))) (s_seq (s_if (c_cmp i_eq (e_get 4 5 (e_r 0)) (e_k (-1))) (s_retZ (e_k (nI 0))) s_skip) T)))) [.ref 51] (qp σ Q) = T [.ref 51] (qp σ Q3)) := fun T => ⟨fun c => by
      rw [c] at ke
      simp (disch := omega) only [x_k, x_i, x_r, x_nil, x_add, x_sub, x_mul, x_div, x_rem, x_get, x_getR, x_ald, x_aldR, x_len, x_lenR, x_if, xa_nil, xa_ci, xa_cr, x_callI, x_callR, x_new, x_newa, x_newq, x_max, x_min, xc_cmp, xc_cmp0, xc_null, xc_nn, xc_not, xc_and, xc_or, xc_if, xs_skip, xs_seq, xs_decI, xs_decR, xs_setI, xs_inc, xs_if, xs_blk, xs_retI, xs_retB, xs_retR, xs_retD, xs_ret0, xs_putI, xs_putZ, xs_putR, xs_putop, xs_ast, xs_astop, xs_astR, xs_callV, xs_callP, xs_super, xs_sw, s_go_inl, s_go_inr, s_cut_inl, s_cut_inr, o_void_n, v_i_int, v_i_none, v_r_ref, v_r_null, v_r_rf, h_set_some, o_some_s, zB_ne0, zB_ite, zB_ite2, g_Vn, g_Pi, nI_add, Option.bind_some, Option.map_some, Option.bind_none, Option.map_none, List.getElem?_cons_zero, List.getElem?_cons_succ, List.set_cons_zero, List.set_cons_succ, List.cons_append, List.nil_append, List.take_succ_cons, List.take_zero, List.length_cons, List.length_nil, Nat.zero_add, Nat.reduceAdd, Nat.reduceLT, if_true, if_false, Bool.false_eq_true, Bool.true_eq_false, decide_eq_true_eq, decide_true, decide_false, Bool.not_true, Bool.not_false, Option.isNone_none, Option.isNone_some, Option.isSome_none, Option.isSome_some, ite_true, ite_false, reduceIte, reduceCtorEq, and_true, true_and, eq_self, Option.some.injEq, Sum.inr.injEq, Sum.inl.injEq, Prod.mk.injEq, not_true_eq_false, not_false_eq_true, Bool.decide_eq_true, n0_ne, n1_ne, xz_ret, zb_if, n1_if, n0_if, v_rf, h_ix_nI, nI_clamp, zB_t, zB_f, uN_uN, uN_ap, Nat.reduceEqDiff, Nat.reduceMul, Nat.reduceSub, o1, qF_len, qg2, qg5, qs8, qs7, qs5, h2, g1, g2, co, f_kindOf, g3, k3, ke], fun c => by
      rw [c] at ke
      simp (disch := omega) only [x_k, x_i, x_r, x_nil, x_add, x_sub, x_mul, x_div, x_rem, x_get, x_getR, x_ald, x_aldR, x_len, x_lenR, x_if, xa_nil, xa_ci, xa_cr, x_callI, x_callR, x_new, x_newa, x_newq, x_max, x_min, xc_cmp, xc_cmp0, xc_null, xc_nn, xc_not, xc_and, xc_or, xc_if, xs_skip, xs_seq, xs_decI, xs_decR, xs_setI, xs_inc, xs_if, xs_blk, xs_retI, xs_retB, xs_retR, xs_retD, xs_ret0, xs_putI, xs_putZ, xs_putR, xs_putop, xs_ast, xs_astop, xs_astR, xs_callV, xs_callP, xs_super, xs_sw, s_go_inl, s_go_inr, s_cut_inl, s_cut_inr, o_void_n, v_i_int, v_i_none, v_r_ref, v_r_null, v_r_rf, h_set_some, o_some_s, zB_ne0, zB_ite, zB_ite2, g_Vn, g_Pi, nI_add, Option.bind_some, Option.map_some, Option.bind_none, Option.map_none, List.getElem?_cons_zero, List.getElem?_cons_succ, List.set_cons_zero, List.set_cons_succ, List.cons_append, List.nil_append, List.take_succ_cons, List.take_zero, List.length_cons, List.length_nil, Nat.zero_add, Nat.reduceAdd, Nat.reduceLT, if_true, if_false, Bool.false_eq_true, Bool.true_eq_false, decide_eq_true_eq, decide_true, decide_false, Bool.not_true, Bool.not_false, Option.isNone_none, Option.isNone_some, Option.isSome_none, Option.isSome_some, ite_true, ite_false, reduceIte, reduceCtorEq, and_true, true_and, eq_self, Option.some.injEq, Sum.inr.injEq, Sum.inl.injEq, Prod.mk.injEq, not_true_eq_false, not_false_eq_true, Bool.decide_eq_true, n0_ne, n1_ne, xz_ret, zb_if, n1_if, n0_if, v_rf, h_ix_nI, nI_clamp, zB_t, zB_f, uN_uN, uN_ap, Nat.reduceEqDiff, Nat.reduceMul, Nat.reduceSub, o1, qF_len, qg2, qg5, qs8, qs7, qs5, h2, g1, g2, co, f_kindOf, g3, k3, ke]⟩
  unfold deedP
  by_cases c1 : s < p.length
  · rw [decide_eq_true c1, Bool.true_and]
    cases c : letB (pc p s) with
    | false =>
      rw [if_neg Bool.false_ne_true]
      refine ⟨Q3, mV_eq (qp_at (k := 0) hσ rfl) rfl rfl ?_, by rw [e3, e2, e1]; rfl, by rw [e3, e2, e1]; rfl, by rw [e3, e2, e1], k32, fun z => by cases z⟩
      unfold B_X4_nextDeed
      exact (head _).1 c
    | true =>
      rw [if_pos rfl]
      have nn := f_nextNumber (Q := Q4) (least := 0) (most := 11) hσ a4 (by omega) (by omega) (by omega) (show s + 1 ≤ p.length by omega) (by rw [e4]; rfl)
      obtain ⟨z1, z2, z3, z4⟩ := numP_in (p := p) (least := 0) (most := 11) (s := s + 1) (by omega) (by omega)
      obtain ⟨N, hN⟩ : ∃ N, N = numP p 0 11 (s + 1) := ⟨_, rfl⟩
      rw [← hN] at nn z1 z2 z3 z4 ⊢
      obtain ⟨Q5, e5⟩ : ∃ Q5 : tC, Q5 = nQ Q4 N.2.2 N.2.1 := ⟨_, rfl⟩
      rw [← e5] at nn
      have a5 : PadQ Q5 p := by rw [e5]; exact a4.same rfl rfl
      cases d : N.1 with
      | false =>
        rw [d] at nn
        rw [if_neg Bool.false_ne_true]
        refine ⟨Q5, mV_eq (qp_at (k := 0) hσ rfl) rfl rfl ?_, by rw [e5, e4, e3, e2, e1]; rfl, by rw [e5, e4, e3, e2, e1]; rfl, by rw [e5, e4, e3, e2, e1]; rfl, by rw [e5]; rfl, fun z => by cases z⟩
        unfold B_X4_nextDeed
        rw [(head _).2 c]
        simp (disch := omega) only [x_k, x_i, x_r, x_nil, x_add, x_sub, x_mul, x_div, x_rem, x_get, x_getR, x_ald, x_aldR, x_len, x_lenR, x_if, xa_nil, xa_ci, xa_cr, x_callI, x_callR, x_new, x_newa, x_newq, x_max, x_min, xc_cmp, xc_cmp0, xc_null, xc_nn, xc_not, xc_and, xc_or, xc_if, xs_skip, xs_seq, xs_decI, xs_decR, xs_setI, xs_inc, xs_if, xs_blk, xs_retI, xs_retB, xs_retR, xs_retD, xs_ret0, xs_putI, xs_putZ, xs_putR, xs_putop, xs_ast, xs_astop, xs_astR, xs_callV, xs_callP, xs_super, xs_sw, s_go_inl, s_go_inr, s_cut_inl, s_cut_inr, o_void_n, v_i_int, v_i_none, v_r_ref, v_r_null, v_r_rf, h_set_some, o_some_s, zB_ne0, zB_ite, zB_ite2, g_Vn, g_Pi, nI_add, Option.bind_some, Option.map_some, Option.bind_none, Option.map_none, List.getElem?_cons_zero, List.getElem?_cons_succ, List.set_cons_zero, List.set_cons_succ, List.cons_append, List.nil_append, List.take_succ_cons, List.take_zero, List.length_cons, List.length_nil, Nat.zero_add, Nat.reduceAdd, Nat.reduceLT, if_true, if_false, Bool.false_eq_true, Bool.true_eq_false, decide_eq_true_eq, decide_true, decide_false, Bool.not_true, Bool.not_false, Option.isNone_none, Option.isNone_some, Option.isSome_none, Option.isSome_some, ite_true, ite_false, reduceIte, reduceCtorEq, and_true, true_and, eq_self, Option.some.injEq, Sum.inr.injEq, Sum.inl.injEq, Prod.mk.injEq, not_true_eq_false, not_false_eq_true, Bool.decide_eq_true, n0_ne, n1_ne, xz_ret, zb_if, n1_if, n0_if, v_rf, h_ix_nI, nI_clamp, zB_t, zB_f, uN_uN, uN_ap, Nat.reduceEqDiff, Nat.reduceMul, Nat.reduceSub, o1, qF_len, qg2, qs2, k32, g4, nn]
      | true =>
        rw [d] at nn
        have z4 := z4 d
        rw [if_pos rfl]
        obtain ⟨Q6, e6⟩ : ∃ Q6 : tC, Q6 = (uN Q5.1 6 (nI N.2.1), Q5.2) := ⟨_, rfl⟩
        have g6 : ((qp σ Q5).1.set 51 (.inl (4, qF (uN Q5.1 6 (nI N.2.1)))), (qp σ Q5).2) = qp σ Q6 := by rw [e6]; exact o3 _ _
        have v5 : Q5.1 4 = nI N.2.1 := by rw [e5]; rfl
        have k6 : Q6.1 5 = kn (pc p s) := by rw [e6, e5, e4]; exact k3
        have kk := kn_2 c
        by_cases e : pc p s = 107
        · rw [if_pos e]
          rw [decide_eq_false (fun q => q e)] at kk
          have a6 : PadQ Q6 p := by rw [e6]; exact a5.same rfl rfl
          have sk := f_skip (Q := Q6) (c := 46) hσ a6 z3 (by rw [e6, e5]; rfl) (by omega) (by omega)
          cases f : sgB p 46 N.2.2 with
          | false =>
            rw [f] at sk
            rw [if_neg Bool.false_ne_true] at sk ⊢
            refine ⟨(uN Q6.1 2 (nI N.2.2), Q6.2), mV_eq (qp_at (k := 0) hσ rfl) rfl rfl ?_, by rw [e6, e5, e4, e3, e2, e1]; rfl, by rw [e6, e5, e4, e3, e2, e1]; rfl, by rw [e6, e5, e4, e3, e2, e1]; rfl, rfl, fun z => by cases z⟩
            unfold B_X4_nextDeed
            rw [(head _).2 c]
            simp (disch := omega) only [x_k, x_i, x_r, x_nil, x_add, x_sub, x_mul, x_div, x_rem, x_get, x_getR, x_ald, x_aldR, x_len, x_lenR, x_if, xa_nil, xa_ci, xa_cr, x_callI, x_callR, x_new, x_newa, x_newq, x_max, x_min, xc_cmp, xc_cmp0, xc_null, xc_nn, xc_not, xc_and, xc_or, xc_if, xs_skip, xs_seq, xs_decI, xs_decR, xs_setI, xs_inc, xs_if, xs_blk, xs_retI, xs_retB, xs_retR, xs_retD, xs_ret0, xs_putI, xs_putZ, xs_putR, xs_putop, xs_ast, xs_astop, xs_astR, xs_callV, xs_callP, xs_super, xs_sw, s_go_inl, s_go_inr, s_cut_inl, s_cut_inr, o_void_n, v_i_int, v_i_none, v_r_ref, v_r_null, v_r_rf, h_set_some, o_some_s, zB_ne0, zB_ite, zB_ite2, g_Vn, g_Pi, nI_add, Option.bind_some, Option.map_some, Option.bind_none, Option.map_none, List.getElem?_cons_zero, List.getElem?_cons_succ, List.set_cons_zero, List.set_cons_succ, List.cons_append, List.nil_append, List.take_succ_cons, List.take_zero, List.length_cons, List.length_nil, Nat.zero_add, Nat.reduceAdd, Nat.reduceLT, if_true, if_false, Bool.false_eq_true, Bool.true_eq_false, decide_eq_true_eq, decide_true, decide_false, Bool.not_true, Bool.not_false, Option.isNone_none, Option.isNone_some, Option.isSome_none, Option.isSome_some, ite_true, ite_false, reduceIte, reduceCtorEq, and_true, true_and, eq_self, Option.some.injEq, Sum.inr.injEq, Sum.inl.injEq, Prod.mk.injEq, not_true_eq_false, not_false_eq_true, Bool.decide_eq_true, n0_ne, n1_ne, xz_ret, zb_if, n1_if, n0_if, v_rf, h_ix_nI, nI_clamp, zB_t, zB_f, uN_uN, uN_ap, Nat.reduceEqDiff, Nat.reduceMul, Nat.reduceSub, o1, qF_len, qg2, qg4, qg5, qs2, qs6, k32, g4, nn, v5, g6, k6, kk, sk]
          | true =>
            rw [f] at sk
            rw [if_pos rfl] at sk ⊢
            have f' := f
            unfold sgB at f'
            rw [Bool.and_eq_true, decide_eq_true_eq] at f'
            obtain ⟨Q7, e7⟩ : ∃ Q7 : tC, Q7 = (uN Q6.1 2 (nI (N.2.2 + 1)), Q6.2) := ⟨_, rfl⟩
            rw [← e7] at sk
            have a7 : PadQ Q7 p := by rw [e7]; exact a6.same rfl rfl
            have n2 := f_nextNumber (Q := Q7) (least := 2) (most := 9999) hσ a7 (by omega) (by omega) (by omega) (show N.2.2 + 1 ≤ p.length by omega) (by rw [e7]; rfl)
            obtain ⟨y1, y2, y3, y4⟩ := numP_in (p := p) (least := 2) (most := 9999) (s := N.2.2 + 1) (by omega) (by omega)
            obtain ⟨O, hO⟩ : ∃ O, O = numP p 2 9999 (N.2.2 + 1) := ⟨_, rfl⟩
            rw [← hO] at n2 y1 y2 y3 y4 ⊢
            obtain ⟨Q8, e8⟩ : ∃ Q8 : tC, Q8 = nQ Q7 O.2.2 O.2.1 := ⟨_, rfl⟩
            rw [← e8] at n2
            obtain ⟨Q9, e9⟩ : ∃ Q9 : tC, Q9 = (uN Q8.1 7 (nI O.2.1), Q8.2) := ⟨_, rfl⟩
            have g9 : ((qp σ Q8).1.set 51 (.inl (4, qF (uN Q8.1 7 (nI O.2.1)))), (qp σ Q8).2) = qp σ Q9 := by rw [e9]; exact o3 _ _
            have v8 : Q8.1 4 = nI O.2.1 := by rw [e8]; rfl
            cases g : O.1 with
            | false =>
              rw [g] at n2
              refine ⟨Q8, mV_eq (qp_at (k := 0) hσ rfl) rfl rfl ?_, by rw [e8, e7, e6, e5, e4, e3, e2, e1]; rfl, by rw [e8, e7, e6, e5, e4, e3, e2, e1]; rfl, by rw [e8, e7, e6, e5, e4, e3, e2, e1]; rfl, by rw [e8]; rfl, fun z => by cases z⟩
              unfold B_X4_nextDeed
              rw [(head _).2 c]
              simp (disch := omega) only [x_k, x_i, x_r, x_nil, x_add, x_sub, x_mul, x_div, x_rem, x_get, x_getR, x_ald, x_aldR, x_len, x_lenR, x_if, xa_nil, xa_ci, xa_cr, x_callI, x_callR, x_new, x_newa, x_newq, x_max, x_min, xc_cmp, xc_cmp0, xc_null, xc_nn, xc_not, xc_and, xc_or, xc_if, xs_skip, xs_seq, xs_decI, xs_decR, xs_setI, xs_inc, xs_if, xs_blk, xs_retI, xs_retB, xs_retR, xs_retD, xs_ret0, xs_putI, xs_putZ, xs_putR, xs_putop, xs_ast, xs_astop, xs_astR, xs_callV, xs_callP, xs_super, xs_sw, s_go_inl, s_go_inr, s_cut_inl, s_cut_inr, o_void_n, v_i_int, v_i_none, v_r_ref, v_r_null, v_r_rf, h_set_some, o_some_s, zB_ne0, zB_ite, zB_ite2, g_Vn, g_Pi, nI_add, Option.bind_some, Option.map_some, Option.bind_none, Option.map_none, List.getElem?_cons_zero, List.getElem?_cons_succ, List.set_cons_zero, List.set_cons_succ, List.cons_append, List.nil_append, List.take_succ_cons, List.take_zero, List.length_cons, List.length_nil, Nat.zero_add, Nat.reduceAdd, Nat.reduceLT, if_true, if_false, Bool.false_eq_true, Bool.true_eq_false, decide_eq_true_eq, decide_true, decide_false, Bool.not_true, Bool.not_false, Option.isNone_none, Option.isNone_some, Option.isSome_none, Option.isSome_some, ite_true, ite_false, reduceIte, reduceCtorEq, and_true, true_and, eq_self, Option.some.injEq, Sum.inr.injEq, Sum.inl.injEq, Prod.mk.injEq, not_true_eq_false, not_false_eq_true, Bool.decide_eq_true, n0_ne, n1_ne, xz_ret, zb_if, n1_if, n0_if, v_rf, h_ix_nI, nI_clamp, zB_t, zB_f, uN_uN, uN_ap, Nat.reduceEqDiff, Nat.reduceMul, Nat.reduceSub, o1, qF_len, qg2, qg4, qg5, qs2, qs6, k32, g4, nn, v5, g6, k6, kk, sk, n2]
            | true =>
              rw [g] at n2
              refine ⟨Q9, mV_eq (qp_at (k := 0) hσ rfl) rfl rfl ?_, by rw [e9, e8, e7, e6, e5, e4, e3, e2, e1]; rfl, by rw [e9, e8, e7, e6, e5, e4, e3, e2, e1]; rfl, by rw [e9, e8, e7, e6, e5, e4, e3, e2, e1]; rfl, by rw [e9, e8]; rfl, fun z => ?_⟩
              · unfold B_X4_nextDeed
                rw [(head _).2 c]
                simp (disch := omega) only [x_k, x_i, x_r, x_nil, x_add, x_sub, x_mul, x_div, x_rem, x_get, x_getR, x_ald, x_aldR, x_len, x_lenR, x_if, xa_nil, xa_ci, xa_cr, x_callI, x_callR, x_new, x_newa, x_newq, x_max, x_min, xc_cmp, xc_cmp0, xc_null, xc_nn, xc_not, xc_and, xc_or, xc_if, xs_skip, xs_seq, xs_decI, xs_decR, xs_setI, xs_inc, xs_if, xs_blk, xs_retI, xs_retB, xs_retR, xs_retD, xs_ret0, xs_putI, xs_putZ, xs_putR, xs_putop, xs_ast, xs_astop, xs_astR, xs_callV, xs_callP, xs_super, xs_sw, s_go_inl, s_go_inr, s_cut_inl, s_cut_inr, o_void_n, v_i_int, v_i_none, v_r_ref, v_r_null, v_r_rf, h_set_some, o_some_s, zB_ne0, zB_ite, zB_ite2, g_Vn, g_Pi, nI_add, Option.bind_some, Option.map_some, Option.bind_none, Option.map_none, List.getElem?_cons_zero, List.getElem?_cons_succ, List.set_cons_zero, List.set_cons_succ, List.cons_append, List.nil_append, List.take_succ_cons, List.take_zero, List.length_cons, List.length_nil, Nat.zero_add, Nat.reduceAdd, Nat.reduceLT, if_true, if_false, Bool.false_eq_true, Bool.true_eq_false, decide_eq_true_eq, decide_true, decide_false, Bool.not_true, Bool.not_false, Option.isNone_none, Option.isNone_some, Option.isSome_none, Option.isSome_some, ite_true, ite_false, reduceIte, reduceCtorEq, and_true, true_and, eq_self, Option.some.injEq, Sum.inr.injEq, Sum.inl.injEq, Prod.mk.injEq, not_true_eq_false, not_false_eq_true, Bool.decide_eq_true, n0_ne, n1_ne, xz_ret, zb_if, n1_if, n0_if, v_rf, h_ix_nI, nI_clamp, zB_t, zB_f, uN_uN, uN_ap, Nat.reduceEqDiff, Nat.reduceMul, Nat.reduceSub, o1, qF_len, qg2, qg4, qg5, qs2, qs6, qs7, k32, g4, nn, v5, g6, k6, kk, sk, n2, v8, g9]
              · show Q9.1 5 = kn 107 ∧ Q9.1 6 = nI N.2.1 ∧ Q9.1 7 = nI O.2.1 ∧ Q9.1 8 = nI s
                refine ⟨?_, ?_, ?_, ?_⟩
                · rw [e9, e8, e7, ← e]; exact k6
                · rw [e9, e8, e7, e6]; rfl
                · rw [e9]; rfl
                · rw [e9, e8, e7, e6, e5, e4, e3, e2, e1]; rfl
        · rw [if_neg e]
          rw [decide_eq_true e] at kk
          refine ⟨Q6, mV_eq (qp_at (k := 0) hσ rfl) rfl rfl ?_, by rw [e6, e5, e4, e3, e2, e1]; rfl, by rw [e6, e5, e4, e3, e2, e1]; rfl, by rw [e6, e5, e4, e3, e2, e1]; rfl, by rw [e6, e5]; rfl, fun z => ?_⟩
          · unfold B_X4_nextDeed
            rw [(head _).2 c]
            simp (disch := omega) only [x_k, x_i, x_r, x_nil, x_add, x_sub, x_mul, x_div, x_rem, x_get, x_getR, x_ald, x_aldR, x_len, x_lenR, x_if, xa_nil, xa_ci, xa_cr, x_callI, x_callR, x_new, x_newa, x_newq, x_max, x_min, xc_cmp, xc_cmp0, xc_null, xc_nn, xc_not, xc_and, xc_or, xc_if, xs_skip, xs_seq, xs_decI, xs_decR, xs_setI, xs_inc, xs_if, xs_blk, xs_retI, xs_retB, xs_retR, xs_retD, xs_ret0, xs_putI, xs_putZ, xs_putR, xs_putop, xs_ast, xs_astop, xs_astR, xs_callV, xs_callP, xs_super, xs_sw, s_go_inl, s_go_inr, s_cut_inl, s_cut_inr, o_void_n, v_i_int, v_i_none, v_r_ref, v_r_null, v_r_rf, h_set_some, o_some_s, zB_ne0, zB_ite, zB_ite2, g_Vn, g_Pi, nI_add, Option.bind_some, Option.map_some, Option.bind_none, Option.map_none, List.getElem?_cons_zero, List.getElem?_cons_succ, List.set_cons_zero, List.set_cons_succ, List.cons_append, List.nil_append, List.take_succ_cons, List.take_zero, List.length_cons, List.length_nil, Nat.zero_add, Nat.reduceAdd, Nat.reduceLT, if_true, if_false, Bool.false_eq_true, Bool.true_eq_false, decide_eq_true_eq, decide_true, decide_false, Bool.not_true, Bool.not_false, Option.isNone_none, Option.isNone_some, Option.isSome_none, Option.isSome_some, ite_true, ite_false, reduceIte, reduceCtorEq, and_true, true_and, eq_self, Option.some.injEq, Sum.inr.injEq, Sum.inl.injEq, Prod.mk.injEq, not_true_eq_false, not_false_eq_true, Bool.decide_eq_true, n0_ne, n1_ne, xz_ret, zb_if, n1_if, n0_if, v_rf, h_ix_nI, nI_clamp, zB_t, zB_f, uN_uN, uN_ap, Nat.reduceEqDiff, Nat.reduceMul, Nat.reduceSub, o1, qF_len, qg2, qg4, qg5, qs2, qs6, k32, g4, nn, v5, g6, k6, kk]
          · show Q6.1 5 = kn (pc p s) ∧ Q6.1 6 = nI N.2.1 ∧ Q6.1 7 = nI 0 ∧ Q6.1 8 = nI s
            refine ⟨k6, ?_, ?_, ?_⟩
            · rw [e6]; rfl
            · rw [e6, e5, e4, e3, e2]; rfl
            · rw [e6, e5, e4, e3, e2, e1]; rfl
  · rw [decide_eq_false c1, Bool.false_and, if_neg Bool.false_ne_true]
    have c : letB (pc p s) = false := by rw [pc_out (by omega)]; decide
    refine ⟨Q3, mV_eq (qp_at (k := 0) hσ rfl) rfl rfl ?_, by rw [e3, e2, e1]; rfl, by rw [e3, e2, e1]; rfl, by rw [e3, e2, e1], k32, fun z => by cases z⟩
    unfold B_X4_nextDeed
    exact (head _).1 c
theorem f_nextPart (hσ : 72 ≤ σ.1.length) (h : PadQ Q p) {s : Nat} (hs : s ≤ p.length) (h2 : Q.1 2 = nI s) (w : Bool) : ∃ Q' : tC, M_X4_nextPart [.ref 51, .int (zB w)] (qp σ Q) = some (some (.int (zB (partP p w s).1)), qp σ Q') ∧ Q'.1 1 = Q.1 1 ∧ Q'.1 3 = Q.1 3 ∧ Q'.2 = Q.2 ∧ Q'.1 2 = nI (partP p w s).2.2 ∧ ((partP p w s).1 = true → PQ w Q' (partP p w s).2.1) := by
  cases w with
  | true =>
    obtain ⟨Q', r, b1, b2, b3, b4, b5⟩ := f_nextDeed hσ h hs h2
    refine ⟨Q', mV_eq (qp_at (k := 0) hσ rfl) rfl rfl ?_, b1, b2, b3, b4, b5⟩
    unfold B_X4_nextPart
    simp (disch := omega) only [x_k, x_i, x_r, x_nil, x_add, x_sub, x_mul, x_div, x_rem, x_get, x_getR, x_ald, x_aldR, x_len, x_lenR, x_if, xa_nil, xa_ci, xa_cr, x_callI, x_callR, x_new, x_newa, x_newq, x_max, x_min, xc_cmp, xc_cmp0, xc_null, xc_nn, xc_not, xc_and, xc_or, xc_if, xs_skip, xs_seq, xs_decI, xs_decR, xs_setI, xs_inc, xs_if, xs_blk, xs_retI, xs_retB, xs_retR, xs_retD, xs_ret0, xs_putI, xs_putZ, xs_putR, xs_putop, xs_ast, xs_astop, xs_astR, xs_callV, xs_callP, xs_super, xs_sw, s_go_inl, s_go_inr, s_cut_inl, s_cut_inr, o_void_n, v_i_int, v_i_none, v_r_ref, v_r_null, v_r_rf, h_set_some, o_some_s, zB_ne0, zB_ite, zB_ite2, g_Vn, g_Pi, nI_add, Option.bind_some, Option.map_some, Option.bind_none, Option.map_none, List.getElem?_cons_zero, List.getElem?_cons_succ, List.set_cons_zero, List.set_cons_succ, List.cons_append, List.nil_append, List.take_succ_cons, List.take_zero, List.length_cons, List.length_nil, Nat.zero_add, Nat.reduceAdd, Nat.reduceLT, if_true, if_false, Bool.false_eq_true, Bool.true_eq_false, decide_eq_true_eq, decide_true, decide_false, Bool.not_true, Bool.not_false, Option.isNone_none, Option.isNone_some, Option.isSome_none, Option.isSome_some, ite_true, ite_false, reduceIte, reduceCtorEq, and_true, true_and, eq_self, Option.some.injEq, Sum.inr.injEq, Sum.inl.injEq, Prod.mk.injEq, not_true_eq_false, not_false_eq_true, Bool.decide_eq_true, n0_ne, n1_ne, xz_ret, zb_if, n1_if, n0_if, v_rf, h_ix_nI, nI_clamp, zB_t, zB_f, uN_uN, uN_ap, Nat.reduceEqDiff, Nat.reduceMul, Nat.reduceSub, show i_eq (nI 1) 0 = false by decide, r]
    rfl
  | false =>
    have r := f_nextNumber (least := 1) (most := 9999) hσ h (by omega) (by omega) (by omega) hs h2
    refine ⟨nQ Q (numP p 1 9999 s).2.2 (numP p 1 9999 s).2.1, mV_eq (qp_at (k := 0) hσ rfl) rfl rfl ?_, rfl, rfl, rfl, rfl, fun _ => rfl⟩
    unfold B_X4_nextPart
    simp (disch := omega) only [x_k, x_i, x_r, x_nil, x_add, x_sub, x_mul, x_div, x_rem, x_get, x_getR, x_ald, x_aldR, x_len, x_lenR, x_if, xa_nil, xa_ci, xa_cr, x_callI, x_callR, x_new, x_newa, x_newq, x_max, x_min, xc_cmp, xc_cmp0, xc_null, xc_nn, xc_not, xc_and, xc_or, xc_if, xs_skip, xs_seq, xs_decI, xs_decR, xs_setI, xs_inc, xs_if, xs_blk, xs_retI, xs_retB, xs_retR, xs_retD, xs_ret0, xs_putI, xs_putZ, xs_putR, xs_putop, xs_ast, xs_astop, xs_astR, xs_callV, xs_callP, xs_super, xs_sw, s_go_inl, s_go_inr, s_cut_inl, s_cut_inr, o_void_n, v_i_int, v_i_none, v_r_ref, v_r_null, v_r_rf, h_set_some, o_some_s, zB_ne0, zB_ite, zB_ite2, g_Vn, g_Pi, nI_add, Option.bind_some, Option.map_some, Option.bind_none, Option.map_none, List.getElem?_cons_zero, List.getElem?_cons_succ, List.set_cons_zero, List.set_cons_succ, List.cons_append, List.nil_append, List.take_succ_cons, List.take_zero, List.length_cons, List.length_nil, Nat.zero_add, Nat.reduceAdd, Nat.reduceLT, if_true, if_false, Bool.false_eq_true, Bool.true_eq_false, decide_eq_true_eq, decide_true, decide_false, Bool.not_true, Bool.not_false, Option.isNone_none, Option.isNone_some, Option.isSome_none, Option.isSome_some, ite_true, ite_false, reduceIte, reduceCtorEq, and_true, true_and, eq_self, Option.some.injEq, Sum.inr.injEq, Sum.inl.injEq, Prod.mk.injEq, not_true_eq_false, not_false_eq_true, Bool.decide_eq_true, n0_ne, n1_ne, xz_ret, zb_if, n1_if, n0_if, v_rf, h_ix_nI, nI_clamp, zB_t, zB_f, uN_uN, uN_ap, Nat.reduceEqDiff, Nat.reduceMul, Nat.reduceSub, show i_eq (nI 0) 0 = true by decide, r]
    rfl
theorem f_faultL (hσ : 72 ≤ σ.1.length) (w : Bool) : ∀ (n s m : Nat) (Q : tC), PadQ Q p → p.length + 1 ≤ s + n → s ≤ p.length → 2 * m ≤ s → Q.1 2 = nI s → ∀ F, n < F → ∃ Q' : tC, Q'.1 1 = Q.1 1 ∧ Q'.2 = Q.2 ∧ s_wh C_X4_faultOf_1 W_X4_faultOf_1 F [.ref 51, .int (zB w), .int (nI (m + 1))] (qp σ Q) = some (.inl (some (.int (nx (fltP p w n s).1)), qp σ Q')) ∧ ((fltP p w n s).1 = none → Q'.1 3 = nI (m + (fltP p w n s).2.length)) := by
  intro n
  induction n with
  | zero => intro s m Q h h2 h3; omega
  | succ n ih =>
    intro s m Q h h2 h3 h4 hp F hF
    obtain ⟨F, rfl⟩ : ∃ F', F = F' + 1 := ⟨F - 1, by omega⟩
    have h1 := h.1
    have o1 : ∀ C : tC, h_obj (qp σ C) (some 51) 4 = some (qF C.1) := fun C => qp_o hσ
    have o3 : ∀ (C : tC) (I : Nat → Int32), ((qp σ C).1.set 51 (.inl (4, qF I)), (qp σ C).2) = qp σ (I, C.2) := fun C I => qp_s0 hσ
    obtain ⟨Qa, ea⟩ : ∃ Qa : tC, Qa = (uN Q.1 3 (nI (m + 1)), Q.2) := ⟨_, rfl⟩
    have g1 : ((qp σ Q).1.set 51 (.inl (4, qF (uN Q.1 3 (nI (m + 1))))), (qp σ Q).2) = qp σ Qa := by rw [ea]; exact o3 _ _
    have hC : C_X4_faultOf_1 [.ref 51, .int (zB w), .int (nI (m + 1))] (qp σ Q) = some (true, qp σ Q) := by
      simp (disch := omega) only [x_k, x_i, x_r, x_nil, x_add, x_sub, x_mul, x_div, x_rem, x_get, x_getR, x_ald, x_aldR, x_len, x_lenR, x_if, xa_nil, xa_ci, xa_cr, x_callI, x_callR, x_new, x_newa, x_newq, x_max, x_min, xc_cmp, xc_cmp0, xc_null, xc_nn, xc_not, xc_and, xc_or, xc_if, xs_skip, xs_seq, xs_decI, xs_decR, xs_setI, xs_inc, xs_if, xs_blk, xs_retI, xs_retB, xs_retR, xs_retD, xs_ret0, xs_putI, xs_putZ, xs_putR, xs_putop, xs_ast, xs_astop, xs_astR, xs_callV, xs_callP, xs_super, xs_sw, s_go_inl, s_go_inr, s_cut_inl, s_cut_inr, o_void_n, v_i_int, v_i_none, v_r_ref, v_r_null, v_r_rf, h_set_some, o_some_s, zB_ne0, zB_ite, zB_ite2, g_Vn, g_Pi, nI_add, Option.bind_some, Option.map_some, Option.bind_none, Option.map_none, List.getElem?_cons_zero, List.getElem?_cons_succ, List.set_cons_zero, List.set_cons_succ, List.cons_append, List.nil_append, List.take_succ_cons, List.take_zero, List.length_cons, List.length_nil, Nat.zero_add, Nat.reduceAdd, Nat.reduceLT, if_true, if_false, Bool.false_eq_true, Bool.true_eq_false, decide_eq_true_eq, decide_true, decide_false, Bool.not_true, Bool.not_false, Option.isNone_none, Option.isNone_some, Option.isSome_none, Option.isSome_some, ite_true, ite_false, reduceIte, reduceCtorEq, and_true, true_and, eq_self, Option.some.injEq, Sum.inr.injEq, Sum.inl.injEq, Prod.mk.injEq, j_le, show m + 1 ≤ 60 by omega]
    have aQ : PadQ Qa p := h.same (by rw [ea]; rfl) (by rw [ea])
    have pQ : Qa.1 2 = nI s := by rw [ea]; exact hp
    obtain ⟨Q1, r1, b1, b2, b3, b4, b5⟩ := f_nextPart hσ aQ h3 pQ w
    have b1 : Q1.1 1 = Q.1 1 := b1.trans (by rw [ea]; rfl)
    have b3 : Q1.2 = Q.2 := b3.trans (by rw [ea])
    have b2 : Q1.1 3 = nI (m + 1) := b2.trans (by rw [ea]; rfl)
    obtain ⟨q1, q2, q3⟩ := partP_in (p := p) (w := w) h3
    have a1 : PadQ Q1 p := h.same b1 b3
    have sepE : ∀ τ : sSt, e_if (c_cmp0 i_eq (e_i 1)) (e_k (nI 44)) (e_k (nI 59)) [.ref 51, .int (zB w), .int (nI (m + 1))] τ = some (nI (sepC w), τ) := fun τ => by
      cases w
      · simp only [x_k, x_i, x_r, x_nil, x_add, x_sub, x_mul, x_div, x_rem, x_get, x_getR, x_ald, x_aldR, x_len, x_lenR, x_if, xa_nil, xa_ci, xa_cr, x_callI, x_callR, x_new, x_newa, x_newq, x_max, x_min, xc_cmp, xc_cmp0, xc_null, xc_nn, xc_not, xc_and, xc_or, xc_if, xs_skip, xs_seq, xs_decI, xs_decR, xs_setI, xs_inc, xs_if, xs_blk, xs_retI, xs_retB, xs_retR, xs_retD, xs_ret0, xs_putI, xs_putZ, xs_putR, xs_putop, xs_ast, xs_astop, xs_astR, xs_callV, xs_callP, xs_super, xs_sw, s_go_inl, s_go_inr, s_cut_inl, s_cut_inr, o_void_n, v_i_int, v_i_none, v_r_ref, v_r_null, v_r_rf, h_set_some, o_some_s, zB_ne0, zB_ite, zB_ite2, g_Vn, g_Pi, nI_add, Option.bind_some, Option.map_some, Option.bind_none, Option.map_none, List.getElem?_cons_zero, List.getElem?_cons_succ, List.set_cons_zero, List.set_cons_succ, List.cons_append, List.nil_append, List.take_succ_cons, List.take_zero, List.length_cons, List.length_nil, Nat.zero_add, Nat.reduceAdd, Nat.reduceLT, if_true, if_false, Bool.false_eq_true, Bool.true_eq_false, decide_eq_true_eq, decide_true, decide_false, Bool.not_true, Bool.not_false, Option.isNone_none, Option.isNone_some, Option.isSome_none, Option.isSome_some, ite_true, ite_false, reduceIte, reduceCtorEq, and_true, true_and, eq_self, Option.some.injEq, Sum.inr.injEq, Sum.inl.injEq, Prod.mk.injEq, not_true_eq_false, not_false_eq_true, Bool.decide_eq_true, n0_ne, n1_ne, xz_ret, zb_if, n1_if, n0_if, v_rf, h_ix_nI, nI_clamp, zB_t, zB_f, uN_uN, uN_ap, Nat.reduceEqDiff, Nat.reduceMul, Nat.reduceSub, show i_eq (nI 0) 0 = true by decide]
        rfl
      · simp only [x_k, x_i, x_r, x_nil, x_add, x_sub, x_mul, x_div, x_rem, x_get, x_getR, x_ald, x_aldR, x_len, x_lenR, x_if, xa_nil, xa_ci, xa_cr, x_callI, x_callR, x_new, x_newa, x_newq, x_max, x_min, xc_cmp, xc_cmp0, xc_null, xc_nn, xc_not, xc_and, xc_or, xc_if, xs_skip, xs_seq, xs_decI, xs_decR, xs_setI, xs_inc, xs_if, xs_blk, xs_retI, xs_retB, xs_retR, xs_retD, xs_ret0, xs_putI, xs_putZ, xs_putR, xs_putop, xs_ast, xs_astop, xs_astR, xs_callV, xs_callP, xs_super, xs_sw, s_go_inl, s_go_inr, s_cut_inl, s_cut_inr, o_void_n, v_i_int, v_i_none, v_r_ref, v_r_null, v_r_rf, h_set_some, o_some_s, zB_ne0, zB_ite, zB_ite2, g_Vn, g_Pi, nI_add, Option.bind_some, Option.map_some, Option.bind_none, Option.map_none, List.getElem?_cons_zero, List.getElem?_cons_succ, List.set_cons_zero, List.set_cons_succ, List.cons_append, List.nil_append, List.take_succ_cons, List.take_zero, List.length_cons, List.length_nil, Nat.zero_add, Nat.reduceAdd, Nat.reduceLT, if_true, if_false, Bool.false_eq_true, Bool.true_eq_false, decide_eq_true_eq, decide_true, decide_false, Bool.not_true, Bool.not_false, Option.isNone_none, Option.isNone_some, Option.isSome_none, Option.isSome_some, ite_true, ite_false, reduceIte, reduceCtorEq, and_true, true_and, eq_self, Option.some.injEq, Sum.inr.injEq, Sum.inl.injEq, Prod.mk.injEq, not_true_eq_false, not_false_eq_true, Bool.decide_eq_true, n0_ne, n1_ne, xz_ret, zb_if, n1_if, n0_if, v_rf, h_ix_nI, nI_clamp, zB_t, zB_f, uN_uN, uN_ap, Nat.reduceEqDiff, Nat.reduceMul, Nat.reduceSub, show i_eq (nI 1) 0 = false by decide]
        rfl
    obtain ⟨E, hE⟩ : ∃ E, E = e_if (c_cmp0 i_eq (e_i 1)) (e_k (nI 44)) (e_k (nI 59)) := ⟨_, rfl⟩
    have sepE : ∀ τ : sSt, E [.ref 51, .int (zB w), .int (nI (m + 1))] τ = some (nI (sepC w), τ) := by rw [hE]; exact sepE
    have hW : ∀ (L : List Value) (τ : sSt), W_X4_faultOf_1 L τ = (s_seq (s_seq (s_putI 4 3 (e_r 0) (e_i 2)) (s_seq (s_if (c_not (c_cmp0 i_ne (e_callI M_X4_nextPart (a_cr (e_r 0) (a_ci (e_i 1) a_nil))))) (s_retI (e_get 4 2 (e_r 0))) s_skip) (s_seq (s_if (c_cmp i_ge (e_get 4 2 (e_r 0)) (e_get 4 1 (e_r 0))) (s_retI (e_k (-1))) s_skip) (s_if (c_not (c_cmp0 i_ne (e_callI M_X4_skip (a_cr (e_r 0) (a_ci E a_nil))))) (s_retI (e_get 4 2 (e_r 0))) s_skip)))) (s_inc 2 (nI 1))) L τ := fun L τ => by rw [hE]
    have sl : 1 ≤ sepC w ∧ sepC w < 2 ^ 31 := by unfold sepC; split <;> omega
    have ef : fltP p w (n + 1) s = if (partP p w s).1 = true then (if sgB p (sepC w) (partP p w s).2.2 = true then ((fltP p w n ((partP p w s).2.2 + 1)).1, (partP p w s).2.1 :: (fltP p w n ((partP p w s).2.2 + 1)).2) else (if (partP p w s).2.2 = p.length then none else some (partP p w s).2.2, [(partP p w s).2.1])) else (some (partP p w s).2.2, []) := rfl
    rw [ef]
    obtain ⟨P, hP⟩ : ∃ P, P = partP p w s := ⟨_, rfl⟩
    rw [← hP] at r1 b4 b5 q1 q2 q3 ⊢
    cases c : P.1 with
    | false =>
      rw [c] at r1
      refine ⟨Q1, b1, b3, wh_R hC ?_, fun z => by cases z⟩
      rw [hW]
      simp only [x_k, x_i, x_r, x_nil, x_add, x_sub, x_mul, x_div, x_rem, x_get, x_getR, x_ald, x_aldR, x_len, x_lenR, x_if, xa_nil, xa_ci, xa_cr, x_callI, x_callR, x_new, x_newa, x_newq, x_max, x_min, xc_cmp, xc_cmp0, xc_null, xc_nn, xc_not, xc_and, xc_or, xc_if, xs_skip, xs_seq, xs_decI, xs_decR, xs_setI, xs_inc, xs_if, xs_blk, xs_retI, xs_retB, xs_retR, xs_retD, xs_ret0, xs_putI, xs_putZ, xs_putR, xs_putop, xs_ast, xs_astop, xs_astR, xs_callV, xs_callP, xs_super, xs_sw, s_go_inl, s_go_inr, s_cut_inl, s_cut_inr, o_void_n, v_i_int, v_i_none, v_r_ref, v_r_null, v_r_rf, h_set_some, o_some_s, zB_ne0, zB_ite, zB_ite2, g_Vn, g_Pi, nI_add, Option.bind_some, Option.map_some, Option.bind_none, Option.map_none, List.getElem?_cons_zero, List.getElem?_cons_succ, List.set_cons_zero, List.set_cons_succ, List.cons_append, List.nil_append, List.take_succ_cons, List.take_zero, List.length_cons, List.length_nil, Nat.zero_add, Nat.reduceAdd, Nat.reduceLT, if_true, if_false, Bool.false_eq_true, Bool.true_eq_false, decide_eq_true_eq, decide_true, decide_false, Bool.not_true, Bool.not_false, Option.isNone_none, Option.isNone_some, Option.isSome_none, Option.isSome_some, ite_true, ite_false, reduceIte, reduceCtorEq, and_true, true_and, eq_self, Option.some.injEq, Sum.inr.injEq, Sum.inl.injEq, Prod.mk.injEq, not_true_eq_false, not_false_eq_true, Bool.decide_eq_true, n0_ne, n1_ne, xz_ret, zb_if, n1_if, n0_if, v_rf, h_ix_nI, nI_clamp, zB_t, zB_f, uN_uN, uN_ap, Nat.reduceEqDiff, Nat.reduceMul, Nat.reduceSub, r1, o1, qF_len, qs3, g1, qg2, b4]
      rfl
    | true =>
      rw [c] at r1
      have q3 := q3 c
      by_cases e : P.2.2 = p.length
      · have sg : sgB p (sepC w) P.2.2 = false := by unfold sgB; rw [decide_eq_false (by omega)]; rfl
        rw [if_pos rfl, sg, if_neg Bool.false_ne_true, if_pos e]
        refine ⟨Q1, b1, b3, wh_R hC ?_, fun _ => by rw [b2]; rfl⟩
        rw [hW]
        simp (disch := omega) only [x_k, x_i, x_r, x_nil, x_add, x_sub, x_mul, x_div, x_rem, x_get, x_getR, x_ald, x_aldR, x_len, x_lenR, x_if, xa_nil, xa_ci, xa_cr, x_callI, x_callR, x_new, x_newa, x_newq, x_max, x_min, xc_cmp, xc_cmp0, xc_null, xc_nn, xc_not, xc_and, xc_or, xc_if, xs_skip, xs_seq, xs_decI, xs_decR, xs_setI, xs_inc, xs_if, xs_blk, xs_retI, xs_retB, xs_retR, xs_retD, xs_ret0, xs_putI, xs_putZ, xs_putR, xs_putop, xs_ast, xs_astop, xs_astR, xs_callV, xs_callP, xs_super, xs_sw, s_go_inl, s_go_inr, s_cut_inl, s_cut_inr, o_void_n, v_i_int, v_i_none, v_r_ref, v_r_null, v_r_rf, h_set_some, o_some_s, zB_ne0, zB_ite, zB_ite2, g_Vn, g_Pi, nI_add, Option.bind_some, Option.map_some, Option.bind_none, Option.map_none, List.getElem?_cons_zero, List.getElem?_cons_succ, List.set_cons_zero, List.set_cons_succ, List.cons_append, List.nil_append, List.take_succ_cons, List.take_zero, List.length_cons, List.length_nil, Nat.zero_add, Nat.reduceAdd, Nat.reduceLT, if_true, if_false, Bool.false_eq_true, Bool.true_eq_false, decide_eq_true_eq, decide_true, decide_false, Bool.not_true, Bool.not_false, Option.isNone_none, Option.isNone_some, Option.isSome_none, Option.isSome_some, ite_true, ite_false, reduceIte, reduceCtorEq, and_true, true_and, eq_self, Option.some.injEq, Sum.inr.injEq, Sum.inl.injEq, Prod.mk.injEq, not_true_eq_false, not_false_eq_true, Bool.decide_eq_true, n0_ne, n1_ne, xz_ret, zb_if, n1_if, n0_if, v_rf, h_ix_nI, nI_clamp, zB_t, zB_f, uN_uN, uN_ap, Nat.reduceEqDiff, Nat.reduceMul, Nat.reduceSub, r1, o1, qF_len, qs3, g1, qg1, qg2, b4, b1, h.2.1, j_ge, e, Nat.le_refl]
        rfl
      · have sk := f_skip (Q := Q1) (c := sepC w) hσ a1 q2 b4 sl.1 sl.2
        cases d : sgB p (sepC w) P.2.2 with
        | false =>
          rw [d] at sk
          rw [if_neg Bool.false_ne_true] at sk
          rw [if_pos rfl, if_neg Bool.false_ne_true, if_neg e]
          refine ⟨(uN Q1.1 2 (nI P.2.2), Q1.2), b1, b3, wh_R hC ?_, fun z => by cases z⟩
          rw [hW]
          simp (disch := omega) only [x_k, x_i, x_r, x_nil, x_add, x_sub, x_mul, x_div, x_rem, x_get, x_getR, x_ald, x_aldR, x_len, x_lenR, x_if, xa_nil, xa_ci, xa_cr, x_callI, x_callR, x_new, x_newa, x_newq, x_max, x_min, xc_cmp, xc_cmp0, xc_null, xc_nn, xc_not, xc_and, xc_or, xc_if, xs_skip, xs_seq, xs_decI, xs_decR, xs_setI, xs_inc, xs_if, xs_blk, xs_retI, xs_retB, xs_retR, xs_retD, xs_ret0, xs_putI, xs_putZ, xs_putR, xs_putop, xs_ast, xs_astop, xs_astR, xs_callV, xs_callP, xs_super, xs_sw, s_go_inl, s_go_inr, s_cut_inl, s_cut_inr, o_void_n, v_i_int, v_i_none, v_r_ref, v_r_null, v_r_rf, h_set_some, o_some_s, zB_ne0, zB_ite, zB_ite2, g_Vn, g_Pi, nI_add, Option.bind_some, Option.map_some, Option.bind_none, Option.map_none, List.getElem?_cons_zero, List.getElem?_cons_succ, List.set_cons_zero, List.set_cons_succ, List.cons_append, List.nil_append, List.take_succ_cons, List.take_zero, List.length_cons, List.length_nil, Nat.zero_add, Nat.reduceAdd, Nat.reduceLT, if_true, if_false, Bool.false_eq_true, Bool.true_eq_false, decide_eq_true_eq, decide_true, decide_false, Bool.not_true, Bool.not_false, Option.isNone_none, Option.isNone_some, Option.isSome_none, Option.isSome_some, ite_true, ite_false, reduceIte, reduceCtorEq, and_true, true_and, eq_self, Option.some.injEq, Sum.inr.injEq, Sum.inl.injEq, Prod.mk.injEq, not_true_eq_false, not_false_eq_true, Bool.decide_eq_true, n0_ne, n1_ne, xz_ret, zb_if, n1_if, n0_if, v_rf, h_ix_nI, nI_clamp, zB_t, zB_f, uN_uN, uN_ap, Nat.reduceEqDiff, Nat.reduceMul, Nat.reduceSub, qp_o hσ, qp_a hσ, qF_len, qp_s0 hσ, qp_s1 hσ, qg0, qg1, qg2, qg3, qg4, qg5, qg6, qg7, qg8, qs1, qs2, qs3, qs4, qs5, qs6, qs7, qs8, ← ea, r1, b4, b1, h.2.1, j_ge, show ¬ p.length ≤ P.2.2 by omega, sepE, sk]
          rfl
        | true =>
          rw [d] at sk
          rw [if_pos rfl] at sk
          rw [if_pos rfl, if_pos rfl]
          have d' := d
          unfold sgB at d'
          rw [Bool.and_eq_true, decide_eq_true_eq] at d'
          obtain ⟨Q2, e2⟩ : ∃ Q2 : tC, Q2 = (uN Q1.1 2 (nI (P.2.2 + 1)), Q1.2) := ⟨_, rfl⟩
          have hS : W_X4_faultOf_1 [.ref 51, .int (zB w), .int (nI (m + 1))] (qp σ Q) = some (.inr ([.ref 51, .int (zB w), .int (nI (m + 1 + 1))], qp σ Q2)) := by
            rw [hW]
            simp (disch := omega) only [x_k, x_i, x_r, x_nil, x_add, x_sub, x_mul, x_div, x_rem, x_get, x_getR, x_ald, x_aldR, x_len, x_lenR, x_if, xa_nil, xa_ci, xa_cr, x_callI, x_callR, x_new, x_newa, x_newq, x_max, x_min, xc_cmp, xc_cmp0, xc_null, xc_nn, xc_not, xc_and, xc_or, xc_if, xs_skip, xs_seq, xs_decI, xs_decR, xs_setI, xs_inc, xs_if, xs_blk, xs_retI, xs_retB, xs_retR, xs_retD, xs_ret0, xs_putI, xs_putZ, xs_putR, xs_putop, xs_ast, xs_astop, xs_astR, xs_callV, xs_callP, xs_super, xs_sw, s_go_inl, s_go_inr, s_cut_inl, s_cut_inr, o_void_n, v_i_int, v_i_none, v_r_ref, v_r_null, v_r_rf, h_set_some, o_some_s, zB_ne0, zB_ite, zB_ite2, g_Vn, g_Pi, nI_add, Option.bind_some, Option.map_some, Option.bind_none, Option.map_none, List.getElem?_cons_zero, List.getElem?_cons_succ, List.set_cons_zero, List.set_cons_succ, List.cons_append, List.nil_append, List.take_succ_cons, List.take_zero, List.length_cons, List.length_nil, Nat.zero_add, Nat.reduceAdd, Nat.reduceLT, if_true, if_false, Bool.false_eq_true, Bool.true_eq_false, decide_eq_true_eq, decide_true, decide_false, Bool.not_true, Bool.not_false, Option.isNone_none, Option.isNone_some, Option.isSome_none, Option.isSome_some, ite_true, ite_false, reduceIte, reduceCtorEq, and_true, true_and, eq_self, Option.some.injEq, Sum.inr.injEq, Sum.inl.injEq, Prod.mk.injEq, not_true_eq_false, not_false_eq_true, Bool.decide_eq_true, n0_ne, n1_ne, xz_ret, zb_if, n1_if, n0_if, v_rf, h_ix_nI, nI_clamp, zB_t, zB_f, uN_uN, uN_ap, Nat.reduceEqDiff, Nat.reduceMul, Nat.reduceSub, qp_o hσ, qp_a hσ, qF_len, qp_s0 hσ, qp_s1 hσ, qg0, qg1, qg2, qg3, qg4, qg5, qg6, qg7, qg8, qs1, qs2, qs3, qs4, qs5, qs6, qs7, qs8, ← ea, r1, b4, b1, h.2.1, j_ge, show ¬ p.length ≤ P.2.2 by omega, sepE, sk, ← e2]
          obtain ⟨Q', c1, c2, c3, c4⟩ := ih (P.2.2 + 1) (m + 1) Q2 (a1.same (by rw [e2]; rfl) (by rw [e2])) (by omega) (by omega) (by omega) (by rw [e2]; rfl) F (by omega)
          refine ⟨Q', c1.trans (by rw [e2]; exact b1), c2.trans (by rw [e2]; exact b3), (wh_T hC hS).trans c3, fun z => ?_⟩
          rw [c4 z, List.length_cons]
          congr 1
          omega
theorem f_faultOf (hσ : 72 ≤ σ.1.length) (h : PadQ Q p) (w : Bool) : ∃ Q' : tC, M_X4_faultOf [.ref 51, .int (zB w)] (qp σ Q) = some (some (.int (nx (fltP p w 61 0).1)), qp σ Q') ∧ PadQ Q' p ∧ ((fltP p w 61 0).1 = none → Q'.1 3 = nI (fltP p w 61 0).2.length) := by
  have h1 := h.1
  obtain ⟨Q0, e0⟩ : ∃ Q0 : tC, Q0 = (uN Q.1 2 (nI 0), Q.2) := ⟨_, rfl⟩
  have rb : M_X4_begin [.ref 51] (qp σ Q) = some (none, qp σ Q0) := by
    refine mV_eq (qp_at (k := 0) hσ rfl) rfl rfl ?_
    unfold B_X4_begin
    simp only [x_k, x_i, x_r, x_nil, x_add, x_sub, x_mul, x_div, x_rem, x_get, x_getR, x_ald, x_aldR, x_len, x_lenR, x_if, xa_nil, xa_ci, xa_cr, x_callI, x_callR, x_new, x_newa, x_newq, x_max, x_min, xc_cmp, xc_cmp0, xc_null, xc_nn, xc_not, xc_and, xc_or, xc_if, xs_skip, xs_seq, xs_decI, xs_decR, xs_setI, xs_inc, xs_if, xs_blk, xs_retI, xs_retB, xs_retR, xs_retD, xs_ret0, xs_putI, xs_putZ, xs_putR, xs_putop, xs_ast, xs_astop, xs_astR, xs_callV, xs_callP, xs_super, xs_sw, s_go_inl, s_go_inr, s_cut_inl, s_cut_inr, o_void_n, v_i_int, v_i_none, v_r_ref, v_r_null, v_r_rf, h_set_some, o_some_s, zB_ne0, zB_ite, zB_ite2, g_Vn, g_Pi, nI_add, Option.bind_some, Option.map_some, Option.bind_none, Option.map_none, List.getElem?_cons_zero, List.getElem?_cons_succ, List.set_cons_zero, List.set_cons_succ, List.cons_append, List.nil_append, List.take_succ_cons, List.take_zero, List.length_cons, List.length_nil, Nat.zero_add, Nat.reduceAdd, Nat.reduceLT, if_true, if_false, Bool.false_eq_true, Bool.true_eq_false, decide_eq_true_eq, decide_true, decide_false, Bool.not_true, Bool.not_false, Option.isNone_none, Option.isNone_some, Option.isSome_none, Option.isSome_some, ite_true, ite_false, reduceIte, reduceCtorEq, and_true, true_and, eq_self, Option.some.injEq, Sum.inr.injEq, Sum.inl.injEq, Prod.mk.injEq, not_true_eq_false, not_false_eq_true, Bool.decide_eq_true, n0_ne, n1_ne, xz_ret, zb_if, n1_if, n0_if, v_rf, h_ix_nI, nI_clamp, zB_t, zB_f, uN_uN, uN_ap, Nat.reduceEqDiff, Nat.reduceMul, Nat.reduceSub, qp_o hσ, qp_a hσ, qF_len, qp_s0 hσ, qp_s1 hσ, qg0, qg1, qg2, qg3, qg4, qg5, qg6, qg7, qg8, qs1, qs2, qs3, qs4, qs5, qs6, qs7, qs8, ← e0]
  obtain ⟨Q', c1, c2, c3, c4⟩ := f_faultL hσ w 61 0 0 Q0 (h.same (by rw [e0]; rfl) (by rw [e0])) (by omega) (Nat.zero_le _) (Nat.le_refl _) (by rw [e0]; rfl) s_FUEL (by unfold s_FUEL; omega)
  have c3 : s_while C_X4_faultOf_1 W_X4_faultOf_1 [.ref 51, .int (zB w), .int (nI 1)] (qp σ Q0) = _ := c3
  refine ⟨Q', mV_eq (qp_at (k := 0) hσ rfl) rfl rfl ?_, h.same (c1.trans (by rw [e0]; rfl)) (c2.trans (by rw [e0])), fun z => by rw [c4 z, Nat.zero_add]⟩
  unfold B_X4_faultOf
  simp only [x_k, x_i, x_r, x_nil, x_add, x_sub, x_mul, x_div, x_rem, x_get, x_getR, x_ald, x_aldR, x_len, x_lenR, x_if, xa_nil, xa_ci, xa_cr, x_callI, x_callR, x_new, x_newa, x_newq, x_max, x_min, xc_cmp, xc_cmp0, xc_null, xc_nn, xc_not, xc_and, xc_or, xc_if, xs_skip, xs_seq, xs_decI, xs_decR, xs_setI, xs_inc, xs_if, xs_blk, xs_retI, xs_retB, xs_retR, xs_retD, xs_ret0, xs_putI, xs_putZ, xs_putR, xs_putop, xs_ast, xs_astop, xs_astR, xs_callV, xs_callP, xs_super, xs_sw, s_go_inl, s_go_inr, s_cut_inl, s_cut_inr, o_void_n, v_i_int, v_i_none, v_r_ref, v_r_null, v_r_rf, h_set_some, o_some_s, zB_ne0, zB_ite, zB_ite2, g_Vn, g_Pi, nI_add, Option.bind_some, Option.map_some, Option.bind_none, Option.map_none, List.getElem?_cons_zero, List.getElem?_cons_succ, List.set_cons_zero, List.set_cons_succ, List.cons_append, List.nil_append, List.take_succ_cons, List.take_zero, List.length_cons, List.length_nil, Nat.zero_add, Nat.reduceAdd, Nat.reduceLT, if_true, if_false, Bool.false_eq_true, Bool.true_eq_false, decide_eq_true_eq, decide_true, decide_false, Bool.not_true, Bool.not_false, Option.isNone_none, Option.isNone_some, Option.isSome_none, Option.isSome_some, ite_true, ite_false, reduceIte, reduceCtorEq, and_true, true_and, eq_self, Option.some.injEq, Sum.inr.injEq, Sum.inl.injEq, Prod.mk.injEq, v_rf, rb, c3]
theorem f_begin (hσ : 72 ≤ σ.1.length) : M_X4_begin [.ref 51] (qp σ Q) = some (none, qp σ (uN Q.1 2 (nI 0), Q.2)) := by
  refine mV_eq (qp_at (k := 0) hσ rfl) rfl rfl ?_
  unfold B_X4_begin
  simp only [x_k, x_i, x_r, x_nil, x_add, x_sub, x_mul, x_div, x_rem, x_get, x_getR, x_ald, x_aldR, x_len, x_lenR, x_if, xa_nil, xa_ci, xa_cr, x_callI, x_callR, x_new, x_newa, x_newq, x_max, x_min, xc_cmp, xc_cmp0, xc_null, xc_nn, xc_not, xc_and, xc_or, xc_if, xs_skip, xs_seq, xs_decI, xs_decR, xs_setI, xs_inc, xs_if, xs_blk, xs_retI, xs_retB, xs_retR, xs_retD, xs_ret0, xs_putI, xs_putZ, xs_putR, xs_putop, xs_ast, xs_astop, xs_astR, xs_callV, xs_callP, xs_super, xs_sw, s_go_inl, s_go_inr, s_cut_inl, s_cut_inr, o_void_n, v_i_int, v_i_none, v_r_ref, v_r_null, v_r_rf, h_set_some, o_some_s, zB_ne0, zB_ite, zB_ite2, g_Vn, g_Pi, nI_add, Option.bind_some, Option.map_some, Option.bind_none, Option.map_none, List.getElem?_cons_zero, List.getElem?_cons_succ, List.set_cons_zero, List.set_cons_succ, List.cons_append, List.nil_append, List.take_succ_cons, List.take_zero, List.length_cons, List.length_nil, Nat.zero_add, Nat.reduceAdd, Nat.reduceLT, if_true, if_false, Bool.false_eq_true, Bool.true_eq_false, decide_eq_true_eq, decide_true, decide_false, Bool.not_true, Bool.not_false, Option.isNone_none, Option.isNone_some, Option.isSome_none, Option.isSome_some, ite_true, ite_false, reduceIte, reduceCtorEq, and_true, true_and, eq_self, Option.some.injEq, Sum.inr.injEq, Sum.inl.injEq, Prod.mk.injEq, not_true_eq_false, not_false_eq_true, Bool.decide_eq_true, n0_ne, n1_ne, xz_ret, zb_if, n1_if, n0_if, v_rf, h_ix_nI, nI_clamp, zB_t, zB_f, uN_uN, uN_ap, Nat.reduceEqDiff, Nat.reduceMul, Nat.reduceSub, qp_o hσ, qp_a hσ, qF_len, qp_s0 hσ, qp_s1 hσ, qg0, qg1, qg2, qg3, qg4, qg5, qg6, qg7, qg8, qs1, qs2, qs3, qs4, qs5, qs6, qs7, qs8]
theorem f_empty (hσ : 72 ≤ σ.1.length) (h : PadQ Q p) : ∃ Q' : tC, M_X4_empty [.ref 51] (qp σ Q) = some (some (.int (nI p.length)), qp σ Q') ∧ PadQ Q' [] := by
  refine ⟨(uN Q.1 1 (nI 0), Q.2), mV_eq (qp_at (k := 0) hσ rfl) rfl rfl ?_, Nat.zero_le _, rfl, fun i hi => absurd hi (Nat.not_lt_zero i)⟩
  unfold B_X4_empty
  simp only [x_k, x_i, x_r, x_nil, x_add, x_sub, x_mul, x_div, x_rem, x_get, x_getR, x_ald, x_aldR, x_len, x_lenR, x_if, xa_nil, xa_ci, xa_cr, x_callI, x_callR, x_new, x_newa, x_newq, x_max, x_min, xc_cmp, xc_cmp0, xc_null, xc_nn, xc_not, xc_and, xc_or, xc_if, xs_skip, xs_seq, xs_decI, xs_decR, xs_setI, xs_inc, xs_if, xs_blk, xs_retI, xs_retB, xs_retR, xs_retD, xs_ret0, xs_putI, xs_putZ, xs_putR, xs_putop, xs_ast, xs_astop, xs_astR, xs_callV, xs_callP, xs_super, xs_sw, s_go_inl, s_go_inr, s_cut_inl, s_cut_inr, o_void_n, v_i_int, v_i_none, v_r_ref, v_r_null, v_r_rf, h_set_some, o_some_s, zB_ne0, zB_ite, zB_ite2, g_Vn, g_Pi, nI_add, Option.bind_some, Option.map_some, Option.bind_none, Option.map_none, List.getElem?_cons_zero, List.getElem?_cons_succ, List.set_cons_zero, List.set_cons_succ, List.cons_append, List.nil_append, List.take_succ_cons, List.take_zero, List.length_cons, List.length_nil, Nat.zero_add, Nat.reduceAdd, Nat.reduceLT, if_true, if_false, Bool.false_eq_true, Bool.true_eq_false, decide_eq_true_eq, decide_true, decide_false, Bool.not_true, Bool.not_false, Option.isNone_none, Option.isNone_some, Option.isSome_none, Option.isSome_some, ite_true, ite_false, reduceIte, reduceCtorEq, and_true, true_and, eq_self, Option.some.injEq, Sum.inr.injEq, Sum.inl.injEq, Prod.mk.injEq, not_true_eq_false, not_false_eq_true, Bool.decide_eq_true, n0_ne, n1_ne, xz_ret, zb_if, n1_if, n0_if, v_rf, h_ix_nI, nI_clamp, zB_t, zB_f, uN_uN, uN_ap, Nat.reduceEqDiff, Nat.reduceMul, Nat.reduceSub, qp_o hσ, qp_a hσ, qF_len, qp_s0 hσ, qp_s1 hσ, qg0, qg1, qg2, qg3, qg4, qg5, qg6, qg7, qg8, qs1, qs2, qs3, qs4, qs5, qs6, qs7, qs8, h.2.1]
theorem f_putCode (hσ : 72 ≤ σ.1.length) (h : PadQ Q p) (x : Int32) : (inB x (nI 33) (nI 126) = false → M_X4_putCode [.ref 51, .int x] (qp σ Q) = some (some (.int (-1)), qp σ Q)) ∧ (inB x (nI 33) (nI 126) = true → p.length = 60 → M_X4_putCode [.ref 51, .int x] (qp σ Q) = some (some (.int (-3)), qp σ Q)) ∧ (inB x (nI 33) (nI 126) = true → p.length ≠ 60 → ∃ Q' : tC, M_X4_putCode [.ref 51, .int x] (qp σ Q) = some (some (.int (nI (p.length + 1))), qp σ Q') ∧ PadQ Q' (p ++ [nN x])) := by
  have h1 := h.1
  have o1 : ∀ C : tC, h_obj (qp σ C) (some 51) 4 = some (qF C.1) := fun C => qp_o hσ
  have nlt : ∀ a b : Int32, i_lt a b = !i_ge a b := fun a b => by
    unfold i_lt i_ge
    rw [← decide_not]
    exact decide_eq_decide.mpr (Int32.not_le).symm
  have ngt : ∀ a b : Int32, i_gt a b = !i_le a b := fun a b => by
    unfold i_gt i_le
    rw [← decide_not]
    exact decide_eq_decide.mpr (Int32.not_le).symm
  refine ⟨fun c => ?_, fun c e => ?_, fun c e => ?_⟩
  · unfold inB at c
    refine mV_eq (qp_at (k := 0) hσ rfl) rfl rfl ?_
    unfold B_X4_putCode
    cases c1 : i_ge x (nI 33) with
    | false => simp only [x_k, x_i, x_r, x_nil, x_add, x_sub, x_mul, x_div, x_rem, x_get, x_getR, x_ald, x_aldR, x_len, x_lenR, x_if, xa_nil, xa_ci, xa_cr, x_callI, x_callR, x_new, x_newa, x_newq, x_max, x_min, xc_cmp, xc_cmp0, xc_null, xc_nn, xc_not, xc_and, xc_or, xc_if, xs_skip, xs_seq, xs_decI, xs_decR, xs_setI, xs_inc, xs_if, xs_blk, xs_retI, xs_retB, xs_retR, xs_retD, xs_ret0, xs_putI, xs_putZ, xs_putR, xs_putop, xs_ast, xs_astop, xs_astR, xs_callV, xs_callP, xs_super, xs_sw, s_go_inl, s_go_inr, s_cut_inl, s_cut_inr, o_void_n, v_i_int, v_i_none, v_r_ref, v_r_null, v_r_rf, h_set_some, o_some_s, zB_ne0, zB_ite, zB_ite2, g_Vn, g_Pi, nI_add, Option.bind_some, Option.map_some, Option.bind_none, Option.map_none, List.getElem?_cons_zero, List.getElem?_cons_succ, List.set_cons_zero, List.set_cons_succ, List.cons_append, List.nil_append, List.take_succ_cons, List.take_zero, List.length_cons, List.length_nil, Nat.zero_add, Nat.reduceAdd, Nat.reduceLT, if_true, if_false, Bool.false_eq_true, Bool.true_eq_false, decide_eq_true_eq, decide_true, decide_false, Bool.not_true, Bool.not_false, Option.isNone_none, Option.isNone_some, Option.isSome_none, Option.isSome_some, ite_true, ite_false, reduceIte, reduceCtorEq, and_true, true_and, eq_self, Option.some.injEq, Sum.inr.injEq, Sum.inl.injEq, Prod.mk.injEq, nlt, c1]
    | true =>
      rw [c1, Bool.true_and] at c
      simp only [x_k, x_i, x_r, x_nil, x_add, x_sub, x_mul, x_div, x_rem, x_get, x_getR, x_ald, x_aldR, x_len, x_lenR, x_if, xa_nil, xa_ci, xa_cr, x_callI, x_callR, x_new, x_newa, x_newq, x_max, x_min, xc_cmp, xc_cmp0, xc_null, xc_nn, xc_not, xc_and, xc_or, xc_if, xs_skip, xs_seq, xs_decI, xs_decR, xs_setI, xs_inc, xs_if, xs_blk, xs_retI, xs_retB, xs_retR, xs_retD, xs_ret0, xs_putI, xs_putZ, xs_putR, xs_putop, xs_ast, xs_astop, xs_astR, xs_callV, xs_callP, xs_super, xs_sw, s_go_inl, s_go_inr, s_cut_inl, s_cut_inr, o_void_n, v_i_int, v_i_none, v_r_ref, v_r_null, v_r_rf, h_set_some, o_some_s, zB_ne0, zB_ite, zB_ite2, g_Vn, g_Pi, nI_add, Option.bind_some, Option.map_some, Option.bind_none, Option.map_none, List.getElem?_cons_zero, List.getElem?_cons_succ, List.set_cons_zero, List.set_cons_succ, List.cons_append, List.nil_append, List.take_succ_cons, List.take_zero, List.length_cons, List.length_nil, Nat.zero_add, Nat.reduceAdd, Nat.reduceLT, if_true, if_false, Bool.false_eq_true, Bool.true_eq_false, decide_eq_true_eq, decide_true, decide_false, Bool.not_true, Bool.not_false, Option.isNone_none, Option.isNone_some, Option.isSome_none, Option.isSome_some, ite_true, ite_false, reduceIte, reduceCtorEq, and_true, true_and, eq_self, Option.some.injEq, Sum.inr.injEq, Sum.inl.injEq, Prod.mk.injEq, nlt, ngt, c1, c]
  · obtain ⟨v, hv1, hv2, rfl⟩ := inB_t (by omega) (by omega) c
    refine mV_eq (qp_at (k := 0) hσ rfl) rfl rfl ?_
    unfold B_X4_putCode
    simp (disch := omega) only [x_k, x_i, x_r, x_nil, x_add, x_sub, x_mul, x_div, x_rem, x_get, x_getR, x_ald, x_aldR, x_len, x_lenR, x_if, xa_nil, xa_ci, xa_cr, x_callI, x_callR, x_new, x_newa, x_newq, x_max, x_min, xc_cmp, xc_cmp0, xc_null, xc_nn, xc_not, xc_and, xc_or, xc_if, xs_skip, xs_seq, xs_decI, xs_decR, xs_setI, xs_inc, xs_if, xs_blk, xs_retI, xs_retB, xs_retR, xs_retD, xs_ret0, xs_putI, xs_putZ, xs_putR, xs_putop, xs_ast, xs_astop, xs_astR, xs_callV, xs_callP, xs_super, xs_sw, s_go_inl, s_go_inr, s_cut_inl, s_cut_inr, o_void_n, v_i_int, v_i_none, v_r_ref, v_r_null, v_r_rf, h_set_some, o_some_s, zB_ne0, zB_ite, zB_ite2, g_Vn, g_Pi, nI_add, Option.bind_some, Option.map_some, Option.bind_none, Option.map_none, List.getElem?_cons_zero, List.getElem?_cons_succ, List.set_cons_zero, List.set_cons_succ, List.cons_append, List.nil_append, List.take_succ_cons, List.take_zero, List.length_cons, List.length_nil, Nat.zero_add, Nat.reduceAdd, Nat.reduceLT, if_true, if_false, Bool.false_eq_true, Bool.true_eq_false, decide_eq_true_eq, decide_true, decide_false, Bool.not_true, Bool.not_false, Option.isNone_none, Option.isNone_some, Option.isSome_none, Option.isSome_some, ite_true, ite_false, reduceIte, reduceCtorEq, and_true, true_and, eq_self, Option.some.injEq, Sum.inr.injEq, Sum.inl.injEq, Prod.mk.injEq, j_lt, show ¬ v < 33 by omega, j_gt, show ¬ 126 < v by omega, o1, qg1, h.2.1, j_ge, show 60 ≤ p.length by omega]
  · obtain ⟨v, hv1, hv2, rfl⟩ := inB_t (by omega) (by omega) c
    rw [nN_n (by omega)]
    obtain ⟨Q1, e1⟩ : ∃ Q1 : tC, Q1 = (Q.1, uN Q.2 1 (upd (Q.2 1) p.length (nI v))) := ⟨_, rfl⟩
    have p1 : M_X5_put [.ref 52, .int (nI p.length), .int (nI v)] (qp σ Q) = some (none, qp σ Q1) := by rw [e1]; exact q_put hσ (by omega) _
    have l1 : Q1.1 1 = nI p.length := by rw [e1]; exact h.2.1
    refine ⟨(uN Q1.1 1 (nI (p.length + 1)), Q1.2), mV_eq (qp_at (k := 0) hσ rfl) rfl rfl ?_, ?_⟩
    · unfold B_X4_putCode
      simp (disch := omega) only [x_k, x_i, x_r, x_nil, x_add, x_sub, x_mul, x_div, x_rem, x_get, x_getR, x_ald, x_aldR, x_len, x_lenR, x_if, xa_nil, xa_ci, xa_cr, x_callI, x_callR, x_new, x_newa, x_newq, x_max, x_min, xc_cmp, xc_cmp0, xc_null, xc_nn, xc_not, xc_and, xc_or, xc_if, xs_skip, xs_seq, xs_decI, xs_decR, xs_setI, xs_inc, xs_if, xs_blk, xs_retI, xs_retB, xs_retR, xs_retD, xs_ret0, xs_putI, xs_putZ, xs_putR, xs_putop, xs_ast, xs_astop, xs_astR, xs_callV, xs_callP, xs_super, xs_sw, s_go_inl, s_go_inr, s_cut_inl, s_cut_inr, o_void_n, v_i_int, v_i_none, v_r_ref, v_r_null, v_r_rf, h_set_some, o_some_s, zB_ne0, zB_ite, zB_ite2, g_Vn, g_Pi, nI_add, Option.bind_some, Option.map_some, Option.bind_none, Option.map_none, List.getElem?_cons_zero, List.getElem?_cons_succ, List.set_cons_zero, List.set_cons_succ, List.cons_append, List.nil_append, List.take_succ_cons, List.take_zero, List.length_cons, List.length_nil, Nat.zero_add, Nat.reduceAdd, Nat.reduceLT, if_true, if_false, Bool.false_eq_true, Bool.true_eq_false, decide_eq_true_eq, decide_true, decide_false, Bool.not_true, Bool.not_false, Option.isNone_none, Option.isNone_some, Option.isSome_none, Option.isSome_some, ite_true, ite_false, reduceIte, reduceCtorEq, and_true, true_and, eq_self, Option.some.injEq, Sum.inr.injEq, Sum.inl.injEq, Prod.mk.injEq, not_true_eq_false, not_false_eq_true, Bool.decide_eq_true, n0_ne, n1_ne, xz_ret, zb_if, n1_if, n0_if, v_rf, h_ix_nI, nI_clamp, zB_t, zB_f, uN_uN, uN_ap, Nat.reduceEqDiff, Nat.reduceMul, Nat.reduceSub, qp_o hσ, qp_a hσ, qF_len, qp_s0 hσ, qp_s1 hσ, qg0, qg1, qg2, qg3, qg4, qg5, qg6, qg7, qg8, qs1, qs2, qs3, qs4, qs5, qs6, qs7, qs8, j_lt, show ¬ v < 33 by omega, j_gt, show ¬ 126 < v by omega, h.2.1, j_ge, show ¬ 60 ≤ p.length by omega, p1, l1]
    · have ll : (p ++ [v]).length = p.length + 1 := by rw [List.length_append]; rfl
      refine ⟨by omega, by rw [ll]; rfl, fun i hi => ?_⟩
      rw [ll] at hi
      have e2 : (uN Q1.1 1 (nI (p.length + 1)), Q1.2).2 1 i = if i = p.length then nI v else Q.2 1 i := by rw [e1]; rfl
      rw [e2]
      by_cases q : i = p.length
      · have : pc (p ++ [v]) i = v := getD_some (by rw [q, List.getElem?_append_right (Nat.le_refl _), Nat.sub_self]; rfl)
        rw [if_pos q, this]
        exact ⟨rfl, hv1, hv2⟩
      · have hx := List.getElem?_eq_getElem (l := p) (i := i) (by omega)
        have e3 : pc (p ++ [v]) i = pc p i := (getD_some (by rw [List.getElem?_append_left (by omega)]; exact hx)).trans (getD_some hx).symm
        rw [if_neg q, e3]
        exact h.2.2 i (by omega)
end
