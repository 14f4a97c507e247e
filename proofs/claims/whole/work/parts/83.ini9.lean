/-! THE REFERENCE'S constructor (own work): the sieve -/
def pB (v : Nat) : List Nat := (List.range v).filter sp
theorem pB_s (v : Nat) : pB (v + 1) = pB v ++ (if sp v = true then [v] else []) := by
  unfold pB
  rw [List.range_succ, List.filter_append]
  cases h : sp v with
  | true => rw [List.filter_cons_of_pos h]; rfl
  | false => rw [List.filter_cons_of_neg (by rw [h]; exact Bool.false_ne_true)]; rfl
theorem pB_pre {u : Nat} : ∀ d, ∃ l, pB (u + d) = pB u ++ l
  | 0 => ⟨[], (List.append_nil _).symm⟩
  | d + 1 => by
    obtain ⟨l, hl⟩ := pB_pre (u := u) d
    refine ⟨l ++ (if sp (u + d) = true then [u + d] else []), ?_⟩
    rw [show u + (d + 1) = u + d + 1 by omega, pB_s, hl, List.append_assoc]
theorem pB_at {u k q : Nat} (hu : u ≤ 10000) (h : (pB u)[k]? = some q) : PRS[k]? = some q := by
  obtain ⟨l, hl⟩ := pB_pre (u := u) (10000 - u)
  rw [show u + (10000 - u) = 10000 by omega] at hl
  show (pB 10000)[k]? = _
  rw [hl, List.getElem?_append_left (List.getElem?_eq_some_iff.mp h).1, h]
theorem pB_lt {u k q : Nat} (h : (pB u)[k]? = some q) : q < u ∧ sp q = true := by
  have := List.mem_of_getElem? h
  unfold pB at this
  rw [List.mem_filter, List.mem_range] at this
  exact this
theorem pB_in {u q : Nat} (h : q < u) (hs : sp q = true) : ∃ k : Nat, (pB u)[k]? = some q := by
  have : q ∈ pB u := by
    unfold pB
    rw [List.mem_filter, List.mem_range]
    exact ⟨h, hs⟩
  obtain ⟨k, hk, e⟩ := List.getElem_of_mem this
  exact ⟨k, by rw [List.getElem?_eq_getElem hk, e]⟩
theorem pB_len {u : Nat} (hu : u ≤ 10000) : (pB u).length ≤ 1229 := by
  obtain ⟨l, hl⟩ := pB_pre (u := u) (10000 - u)
  rw [show u + (10000 - u) = 10000 by omega] at hl
  have e : (pB 10000).length = 1229 := PRS_len
  rw [hl, List.length_append] at e
  omega
/-- no prime below d divides v: d at most v, or its square passes v -/
theorem sp_no {v d : Nat} (h2 : 2 ≤ v) (h9 : v ≤ 9999) (hd : d = v ∨ v < d * d) (hno : ∀ q, q < v → sp q = true → q < d → ¬ v % q = 0) : sp v = true := by
  rw [sp_spec h9]
  have key : ∀ e, 2 ≤ e → e < d → e < v → ¬ e ∣ v := fun e e2 ed ev hdv => by
    have l1 := lp_le h2 e2 hdv
    have l2 := lp_spec h2
    have l3 := lp_pr h2
    exact hno (lp v) (by omega) ((sp_spec (by omega)).mpr l3) (by omega) (Nat.mod_eq_zero_of_dvd l2.1)
  rcases hd with rfl | hd
  · exact ⟨h2, fun e e2 ev => key e e2 ev ev⟩
  · by_cases c : d ≤ v
    · have e := lp_root h2 hd (fun e e2 ed => key e e2 ed (by omega))
      exact lp_isPr h2 e
    · exact ⟨h2, fun e e2 ev => key e e2 (by omega) ev⟩
section
variable {σ : sSt}
theorem g_sieveL (hσ : 72 ≤ σ.1.length) {M : tM} {v : Nat} (h2 : 2 ≤ v) (h9 : v ≤ 9999) (hM : ∀ k q, (pB v)[k]? = some q → M.2 5 k = nI q) : ∀ (d k : Nat), k + d = (pB v).length → (∀ j q, j < k → (pB v)[j]? = some q → ¬ v % q = 0) → ∀ F, d + 1 < F → ∃ k', s_wh C_X9_init_1 W_X9_init_1 F [.ref 60, .int (nI (pB v).length), .int (nI v), .int (nI 1), .int (nI k)] (mp σ M) = some (.inr ([.ref 60, .int (nI (pB v).length), .int (nI v), .int (zB (sp v)), .int (nI k')], mp σ M)) := by
  intro d
  have lv := pB_len (u := v) (by omega)
  have n1 : i_ne (nI 1) 0 = true := by decide
  have n0 : i_ne (nI 0) 0 = false := by decide
  induction d with
  | zero =>
    intro k hk hno F hF
    obtain ⟨F, rfl⟩ : ∃ F', F = F' + 1 := ⟨F - 1, by omega⟩
    have e : sp v = true := sp_no h2 h9 (Or.inl rfl) (fun q q1 q2 _ => by
      obtain ⟨j, hj⟩ := pB_in q1 q2
      exact hno j q (by have := (List.getElem?_eq_some_iff.mp hj).1; omega) hj)
    refine ⟨k, ?_⟩
    rw [e]
    refine wh_F ?_
    simp (disch := omega) only [x_k, x_i, x_r, x_nil, x_add, x_sub, x_mul, x_div, x_rem, x_get, x_getR, x_ald, x_aldR, x_len, x_lenR, x_if, xa_nil, xa_ci, xa_cr, x_callI, x_callR, x_new, x_newa, x_newq, x_max, x_min, xc_cmp, xc_cmp0, xc_null, xc_nn, xc_not, xc_and, xc_or, xc_if, xs_skip, xs_seq, xs_decI, xs_decR, xs_setI, xs_inc, xs_if, xs_blk, xs_retI, xs_retB, xs_retR, xs_retD, xs_ret0, xs_putI, xs_putZ, xs_putR, xs_putop, xs_ast, xs_astop, xs_astR, xs_callV, xs_callP, xs_super, xs_sw, s_go_inl, s_go_inr, s_cut_inl, s_cut_inr, o_void_n, v_i_int, v_i_none, v_r_ref, v_r_null, v_r_rf, h_set_some, o_some_s, zB_ne0, zB_ite, zB_ite2, g_Vn, g_Pi, nI_add, Option.bind_some, Option.map_some, Option.bind_none, Option.map_none, List.getElem?_cons_zero, List.getElem?_cons_succ, List.set_cons_zero, List.set_cons_succ, List.cons_append, List.nil_append, List.take_succ_cons, List.take_zero, List.length_cons, List.length_nil, Nat.zero_add, Nat.reduceAdd, Nat.reduceLT, if_true, if_false, Bool.false_eq_true, Bool.true_eq_false, decide_eq_true_eq, decide_true, decide_false, Bool.not_true, Bool.not_false, Option.isNone_none, Option.isNone_some, Option.isSome_none, Option.isSome_some, ite_true, ite_false, reduceIte, reduceCtorEq, and_true, true_and, eq_self, Option.some.injEq, Sum.inr.injEq, Sum.inl.injEq, Prod.mk.injEq, not_true_eq_false, not_false_eq_true, Bool.decide_eq_true, n0_ne, n1_ne, xz_ret, zb_if, n1_if, n0_if, v_rf, h_ix_nI, nI_clamp, zB_t, zB_f, uN_uN, uN_ap, Nat.reduceEqDiff, Nat.reduceMul, Nat.reduceSub, mp_o hσ, mF_len, mp_a1 hσ, mp_a2 hσ, mp_a3 hσ, mp_a4 hσ, mp_a5 hσ, mp_a6 hσ, mp_a7 hσ, mp_a8 hσ, mp_a9 hσ, mp_a10 hσ, mp_a11 hσ, mp_s0 hσ, mp_s1 hσ, mp_s2 hσ, mp_s3 hσ, mp_s4 hσ, mp_s5 hσ, mp_s6 hσ, mp_s7 hσ, mp_s8 hσ, mp_s9 hσ, mp_s10 hσ, mp_s11 hσ, mg0, mg1, mg2, mg3, mg4, mg5, mg6, mg7, mg8, mg9, mg10, mg11, mg12, mg13, mg14, mg15, mg16, mg17, ms5, ms6, ms7, ms9, ms10, ms13, ms14, j_lt, show ¬ k < (pB v).length by omega]
  | succ d ih =>
    intro k hk hno F hF
    obtain ⟨F, rfl⟩ : ∃ F', F = F' + 1 := ⟨F - 1, by omega⟩
    obtain ⟨q, hq⟩ : ∃ q, (pB v)[k]? = some q := ⟨_, List.getElem?_eq_getElem (by omega)⟩
    obtain ⟨q1, q2⟩ := pB_lt hq
    have q3 := (sp_spec (by omega)).mp q2
    have qp := q3.1
    have hr := hM k q hq
    have qq : q * q ≤ 99980001 := Nat.mul_le_mul (show q ≤ 9999 by omega) (show q ≤ 9999 by omega)
    by_cases c : q * q ≤ v
    · have hC : C_X9_init_1 [.ref 60, .int (nI (pB v).length), .int (nI v), .int (nI 1), .int (nI k)] (mp σ M) = some (true, mp σ M) := by
        simp (disch := omega) only [x_k, x_i, x_r, x_nil, x_add, x_sub, x_mul, x_div, x_rem, x_get, x_getR, x_ald, x_aldR, x_len, x_lenR, x_if, xa_nil, xa_ci, xa_cr, x_callI, x_callR, x_new, x_newa, x_newq, x_max, x_min, xc_cmp, xc_cmp0, xc_null, xc_nn, xc_not, xc_and, xc_or, xc_if, xs_skip, xs_seq, xs_decI, xs_decR, xs_setI, xs_inc, xs_if, xs_blk, xs_retI, xs_retB, xs_retR, xs_retD, xs_ret0, xs_putI, xs_putZ, xs_putR, xs_putop, xs_ast, xs_astop, xs_astR, xs_callV, xs_callP, xs_super, xs_sw, s_go_inl, s_go_inr, s_cut_inl, s_cut_inr, o_void_n, v_i_int, v_i_none, v_r_ref, v_r_null, v_r_rf, h_set_some, o_some_s, zB_ne0, zB_ite, zB_ite2, g_Vn, g_Pi, nI_add, Option.bind_some, Option.map_some, Option.bind_none, Option.map_none, List.getElem?_cons_zero, List.getElem?_cons_succ, List.set_cons_zero, List.set_cons_succ, List.cons_append, List.nil_append, List.take_succ_cons, List.take_zero, List.length_cons, List.length_nil, Nat.zero_add, Nat.reduceAdd, Nat.reduceLT, if_true, if_false, Bool.false_eq_true, Bool.true_eq_false, decide_eq_true_eq, decide_true, decide_false, Bool.not_true, Bool.not_false, Option.isNone_none, Option.isNone_some, Option.isSome_none, Option.isSome_some, ite_true, ite_false, reduceIte, reduceCtorEq, and_true, true_and, eq_self, Option.some.injEq, Sum.inr.injEq, Sum.inl.injEq, Prod.mk.injEq, not_true_eq_false, not_false_eq_true, Bool.decide_eq_true, n0_ne, n1_ne, xz_ret, zb_if, n1_if, n0_if, v_rf, h_ix_nI, nI_clamp, zB_t, zB_f, uN_uN, uN_ap, Nat.reduceEqDiff, Nat.reduceMul, Nat.reduceSub, mp_o hσ, mF_len, mp_a1 hσ, mp_a2 hσ, mp_a3 hσ, mp_a4 hσ, mp_a5 hσ, mp_a6 hσ, mp_a7 hσ, mp_a8 hσ, mp_a9 hσ, mp_a10 hσ, mp_a11 hσ, mp_s0 hσ, mp_s1 hσ, mp_s2 hσ, mp_s3 hσ, mp_s4 hσ, mp_s5 hσ, mp_s6 hσ, mp_s7 hσ, mp_s8 hσ, mp_s9 hσ, mp_s10 hσ, mp_s11 hσ, mg0, mg1, mg2, mg3, mg4, mg5, mg6, mg7, mg8, mg9, mg10, mg11, mg12, mg13, mg14, mg15, mg16, mg17, ms5, ms6, ms7, ms9, ms10, ms13, ms14, j_lt, show k < (pB v).length by omega, n1, hr, pk_mul, j_le, c]
      by_cases z : v % q = 0
      · have e : sp v = false := by
          cases s : sp v with
          | false => rfl
          | true => exact absurd (Nat.dvd_of_mod_eq_zero z) (((sp_spec h9).mp s).2 q qp q1)
        have hS : W_X9_init_1 [.ref 60, .int (nI (pB v).length), .int (nI v), .int (nI 1), .int (nI k)] (mp σ M) = some (.inr ([.ref 60, .int (nI (pB v).length), .int (nI v), .int (nI 0), .int (nI (k + 1))], mp σ M)) := by
          simp (disch := omega) only [x_k, x_i, x_r, x_nil, x_add, x_sub, x_mul, x_div, x_rem, x_get, x_getR, x_ald, x_aldR, x_len, x_lenR, x_if, xa_nil, xa_ci, xa_cr, x_callI, x_callR, x_new, x_newa, x_newq, x_max, x_min, xc_cmp, xc_cmp0, xc_null, xc_nn, xc_not, xc_and, xc_or, xc_if, xs_skip, xs_seq, xs_decI, xs_decR, xs_setI, xs_inc, xs_if, xs_blk, xs_retI, xs_retB, xs_retR, xs_retD, xs_ret0, xs_putI, xs_putZ, xs_putR, xs_putop, xs_ast, xs_astop, xs_astR, xs_callV, xs_callP, xs_super, xs_sw, s_go_inl, s_go_inr, s_cut_inl, s_cut_inr, o_void_n, v_i_int, v_i_none, v_r_ref, v_r_null, v_r_rf, h_set_some, o_some_s, zB_ne0, zB_ite, zB_ite2, g_Vn, g_Pi, nI_add, Option.bind_some, Option.map_some, Option.bind_none, Option.map_none, List.getElem?_cons_zero, List.getElem?_cons_succ, List.set_cons_zero, List.set_cons_succ, List.cons_append, List.nil_append, List.take_succ_cons, List.take_zero, List.length_cons, List.length_nil, Nat.zero_add, Nat.reduceAdd, Nat.reduceLT, if_true, if_false, Bool.false_eq_true, Bool.true_eq_false, decide_eq_true_eq, decide_true, decide_false, Bool.not_true, Bool.not_false, Option.isNone_none, Option.isNone_some, Option.isSome_none, Option.isSome_some, ite_true, ite_false, reduceIte, reduceCtorEq, and_true, true_and, eq_self, Option.some.injEq, Sum.inr.injEq, Sum.inl.injEq, Prod.mk.injEq, not_true_eq_false, not_false_eq_true, Bool.decide_eq_true, n0_ne, n1_ne, xz_ret, zb_if, n1_if, n0_if, v_rf, h_ix_nI, nI_clamp, zB_t, zB_f, uN_uN, uN_ap, Nat.reduceEqDiff, Nat.reduceMul, Nat.reduceSub, mp_o hσ, mF_len, mp_a1 hσ, mp_a2 hσ, mp_a3 hσ, mp_a4 hσ, mp_a5 hσ, mp_a6 hσ, mp_a7 hσ, mp_a8 hσ, mp_a9 hσ, mp_a10 hσ, mp_a11 hσ, mp_s0 hσ, mp_s1 hσ, mp_s2 hσ, mp_s3 hσ, mp_s4 hσ, mp_s5 hσ, mp_s6 hσ, mp_s7 hσ, mp_s8 hσ, mp_s9 hσ, mp_s10 hσ, mp_s11 hσ, mg0, mg1, mg2, mg3, mg4, mg5, mg6, mg7, mg8, mg9, mg10, mg11, mg12, mg13, mg14, mg15, mg16, mg17, ms5, ms6, ms7, ms9, ms10, ms13, ms14, hr, j_rem, z, n0]
        obtain ⟨F, rfl⟩ : ∃ F', F = F' + 1 := ⟨F - 1, by omega⟩
        refine ⟨k + 1, (wh_T hC hS).trans ?_⟩
        rw [e]
        refine wh_F ?_
        by_cases g : k + 1 < (pB v).length
        · simp (disch := omega) only [x_k, x_i, x_r, x_nil, x_add, x_sub, x_mul, x_div, x_rem, x_get, x_getR, x_ald, x_aldR, x_len, x_lenR, x_if, xa_nil, xa_ci, xa_cr, x_callI, x_callR, x_new, x_newa, x_newq, x_max, x_min, xc_cmp, xc_cmp0, xc_null, xc_nn, xc_not, xc_and, xc_or, xc_if, xs_skip, xs_seq, xs_decI, xs_decR, xs_setI, xs_inc, xs_if, xs_blk, xs_retI, xs_retB, xs_retR, xs_retD, xs_ret0, xs_putI, xs_putZ, xs_putR, xs_putop, xs_ast, xs_astop, xs_astR, xs_callV, xs_callP, xs_super, xs_sw, s_go_inl, s_go_inr, s_cut_inl, s_cut_inr, o_void_n, v_i_int, v_i_none, v_r_ref, v_r_null, v_r_rf, h_set_some, o_some_s, zB_ne0, zB_ite, zB_ite2, g_Vn, g_Pi, nI_add, Option.bind_some, Option.map_some, Option.bind_none, Option.map_none, List.getElem?_cons_zero, List.getElem?_cons_succ, List.set_cons_zero, List.set_cons_succ, List.cons_append, List.nil_append, List.take_succ_cons, List.take_zero, List.length_cons, List.length_nil, Nat.zero_add, Nat.reduceAdd, Nat.reduceLT, if_true, if_false, Bool.false_eq_true, Bool.true_eq_false, decide_eq_true_eq, decide_true, decide_false, Bool.not_true, Bool.not_false, Option.isNone_none, Option.isNone_some, Option.isSome_none, Option.isSome_some, ite_true, ite_false, reduceIte, reduceCtorEq, and_true, true_and, eq_self, Option.some.injEq, Sum.inr.injEq, Sum.inl.injEq, Prod.mk.injEq, not_true_eq_false, not_false_eq_true, Bool.decide_eq_true, n0_ne, n1_ne, xz_ret, zb_if, n1_if, n0_if, v_rf, h_ix_nI, nI_clamp, zB_t, zB_f, uN_uN, uN_ap, Nat.reduceEqDiff, Nat.reduceMul, Nat.reduceSub, mp_o hσ, mF_len, mp_a1 hσ, mp_a2 hσ, mp_a3 hσ, mp_a4 hσ, mp_a5 hσ, mp_a6 hσ, mp_a7 hσ, mp_a8 hσ, mp_a9 hσ, mp_a10 hσ, mp_a11 hσ, mp_s0 hσ, mp_s1 hσ, mp_s2 hσ, mp_s3 hσ, mp_s4 hσ, mp_s5 hσ, mp_s6 hσ, mp_s7 hσ, mp_s8 hσ, mp_s9 hσ, mp_s10 hσ, mp_s11 hσ, mg0, mg1, mg2, mg3, mg4, mg5, mg6, mg7, mg8, mg9, mg10, mg11, mg12, mg13, mg14, mg15, mg16, mg17, ms5, ms6, ms7, ms9, ms10, ms13, ms14, j_lt, g, n0]
        · simp (disch := omega) only [x_k, x_i, x_r, x_nil, x_add, x_sub, x_mul, x_div, x_rem, x_get, x_getR, x_ald, x_aldR, x_len, x_lenR, x_if, xa_nil, xa_ci, xa_cr, x_callI, x_callR, x_new, x_newa, x_newq, x_max, x_min, xc_cmp, xc_cmp0, xc_null, xc_nn, xc_not, xc_and, xc_or, xc_if, xs_skip, xs_seq, xs_decI, xs_decR, xs_setI, xs_inc, xs_if, xs_blk, xs_retI, xs_retB, xs_retR, xs_retD, xs_ret0, xs_putI, xs_putZ, xs_putR, xs_putop, xs_ast, xs_astop, xs_astR, xs_callV, xs_callP, xs_super, xs_sw, s_go_inl, s_go_inr, s_cut_inl, s_cut_inr, o_void_n, v_i_int, v_i_none, v_r_ref, v_r_null, v_r_rf, h_set_some, o_some_s, zB_ne0, zB_ite, zB_ite2, g_Vn, g_Pi, nI_add, Option.bind_some, Option.map_some, Option.bind_none, Option.map_none, List.getElem?_cons_zero, List.getElem?_cons_succ, List.set_cons_zero, List.set_cons_succ, List.cons_append, List.nil_append, List.take_succ_cons, List.take_zero, List.length_cons, List.length_nil, Nat.zero_add, Nat.reduceAdd, Nat.reduceLT, if_true, if_false, Bool.false_eq_true, Bool.true_eq_false, decide_eq_true_eq, decide_true, decide_false, Bool.not_true, Bool.not_false, Option.isNone_none, Option.isNone_some, Option.isSome_none, Option.isSome_some, ite_true, ite_false, reduceIte, reduceCtorEq, and_true, true_and, eq_self, Option.some.injEq, Sum.inr.injEq, Sum.inl.injEq, Prod.mk.injEq, not_true_eq_false, not_false_eq_true, Bool.decide_eq_true, n0_ne, n1_ne, xz_ret, zb_if, n1_if, n0_if, v_rf, h_ix_nI, nI_clamp, zB_t, zB_f, uN_uN, uN_ap, Nat.reduceEqDiff, Nat.reduceMul, Nat.reduceSub, mp_o hσ, mF_len, mp_a1 hσ, mp_a2 hσ, mp_a3 hσ, mp_a4 hσ, mp_a5 hσ, mp_a6 hσ, mp_a7 hσ, mp_a8 hσ, mp_a9 hσ, mp_a10 hσ, mp_a11 hσ, mp_s0 hσ, mp_s1 hσ, mp_s2 hσ, mp_s3 hσ, mp_s4 hσ, mp_s5 hσ, mp_s6 hσ, mp_s7 hσ, mp_s8 hσ, mp_s9 hσ, mp_s10 hσ, mp_s11 hσ, mg0, mg1, mg2, mg3, mg4, mg5, mg6, mg7, mg8, mg9, mg10, mg11, mg12, mg13, mg14, mg15, mg16, mg17, ms5, ms6, ms7, ms9, ms10, ms13, ms14, j_lt, g]
      · have hm := Nat.mod_lt v (show 0 < q by omega)
        have nz : i_ne (nI (v % q)) 0 = true := by
          unfold i_ne
          refine decide_eq_true (fun x => ?_)
          have x2 : nI (v % q) = nI 0 := x
          rw [nI_eq (by omega) (by omega)] at x2
          exact z x2
        have hS : W_X9_init_1 [.ref 60, .int (nI (pB v).length), .int (nI v), .int (nI 1), .int (nI k)] (mp σ M) = some (.inr ([.ref 60, .int (nI (pB v).length), .int (nI v), .int (nI 1), .int (nI (k + 1))], mp σ M)) := by
          simp (disch := omega) only [x_k, x_i, x_r, x_nil, x_add, x_sub, x_mul, x_div, x_rem, x_get, x_getR, x_ald, x_aldR, x_len, x_lenR, x_if, xa_nil, xa_ci, xa_cr, x_callI, x_callR, x_new, x_newa, x_newq, x_max, x_min, xc_cmp, xc_cmp0, xc_null, xc_nn, xc_not, xc_and, xc_or, xc_if, xs_skip, xs_seq, xs_decI, xs_decR, xs_setI, xs_inc, xs_if, xs_blk, xs_retI, xs_retB, xs_retR, xs_retD, xs_ret0, xs_putI, xs_putZ, xs_putR, xs_putop, xs_ast, xs_astop, xs_astR, xs_callV, xs_callP, xs_super, xs_sw, s_go_inl, s_go_inr, s_cut_inl, s_cut_inr, o_void_n, v_i_int, v_i_none, v_r_ref, v_r_null, v_r_rf, h_set_some, o_some_s, zB_ne0, zB_ite, zB_ite2, g_Vn, g_Pi, nI_add, Option.bind_some, Option.map_some, Option.bind_none, Option.map_none, List.getElem?_cons_zero, List.getElem?_cons_succ, List.set_cons_zero, List.set_cons_succ, List.cons_append, List.nil_append, List.take_succ_cons, List.take_zero, List.length_cons, List.length_nil, Nat.zero_add, Nat.reduceAdd, Nat.reduceLT, if_true, if_false, Bool.false_eq_true, Bool.true_eq_false, decide_eq_true_eq, decide_true, decide_false, Bool.not_true, Bool.not_false, Option.isNone_none, Option.isNone_some, Option.isSome_none, Option.isSome_some, ite_true, ite_false, reduceIte, reduceCtorEq, and_true, true_and, eq_self, Option.some.injEq, Sum.inr.injEq, Sum.inl.injEq, Prod.mk.injEq, not_true_eq_false, not_false_eq_true, Bool.decide_eq_true, n0_ne, n1_ne, xz_ret, zb_if, n1_if, n0_if, v_rf, h_ix_nI, nI_clamp, zB_t, zB_f, uN_uN, uN_ap, Nat.reduceEqDiff, Nat.reduceMul, Nat.reduceSub, mp_o hσ, mF_len, mp_a1 hσ, mp_a2 hσ, mp_a3 hσ, mp_a4 hσ, mp_a5 hσ, mp_a6 hσ, mp_a7 hσ, mp_a8 hσ, mp_a9 hσ, mp_a10 hσ, mp_a11 hσ, mp_s0 hσ, mp_s1 hσ, mp_s2 hσ, mp_s3 hσ, mp_s4 hσ, mp_s5 hσ, mp_s6 hσ, mp_s7 hσ, mp_s8 hσ, mp_s9 hσ, mp_s10 hσ, mp_s11 hσ, mg0, mg1, mg2, mg3, mg4, mg5, mg6, mg7, mg8, mg9, mg10, mg11, mg12, mg13, mg14, mg15, mg16, mg17, ms5, ms6, ms7, ms9, ms10, ms13, ms14, hr, j_rem, nz]
        obtain ⟨k', r⟩ := ih (k + 1) (by omega) (fun j q' hj hq' => by
          by_cases jk : j = k
          · subst jk
            rw [hq] at hq'
            cases hq'
            exact z
          · exact hno j q' (by omega) hq') F (by omega)
        exact ⟨k', (wh_T hC hS).trans r⟩
    · have e : sp v = true := sp_no h2 h9 (d := q) (Or.inr (by omega)) (fun q' a1 a2 a3 => by
        obtain ⟨j, hj⟩ := pB_in a1 a2
        refine hno j q' ?_ hj
        rcases Nat.lt_trichotomy j k with b | b | b
        · exact b
        · subst b
          rw [hq] at hj
          cases hj
          omega
        · have := PRS_lt (pB_at (by omega) hq) (pB_at (by omega) hj) b
          omega)
      refine ⟨k, ?_⟩
      rw [e]
      refine wh_F ?_
      simp (disch := omega) only [x_k, x_i, x_r, x_nil, x_add, x_sub, x_mul, x_div, x_rem, x_get, x_getR, x_ald, x_aldR, x_len, x_lenR, x_if, xa_nil, xa_ci, xa_cr, x_callI, x_callR, x_new, x_newa, x_newq, x_max, x_min, xc_cmp, xc_cmp0, xc_null, xc_nn, xc_not, xc_and, xc_or, xc_if, xs_skip, xs_seq, xs_decI, xs_decR, xs_setI, xs_inc, xs_if, xs_blk, xs_retI, xs_retB, xs_retR, xs_retD, xs_ret0, xs_putI, xs_putZ, xs_putR, xs_putop, xs_ast, xs_astop, xs_astR, xs_callV, xs_callP, xs_super, xs_sw, s_go_inl, s_go_inr, s_cut_inl, s_cut_inr, o_void_n, v_i_int, v_i_none, v_r_ref, v_r_null, v_r_rf, h_set_some, o_some_s, zB_ne0, zB_ite, zB_ite2, g_Vn, g_Pi, nI_add, Option.bind_some, Option.map_some, Option.bind_none, Option.map_none, List.getElem?_cons_zero, List.getElem?_cons_succ, List.set_cons_zero, List.set_cons_succ, List.cons_append, List.nil_append, List.take_succ_cons, List.take_zero, List.length_cons, List.length_nil, Nat.zero_add, Nat.reduceAdd, Nat.reduceLT, if_true, if_false, Bool.false_eq_true, Bool.true_eq_false, decide_eq_true_eq, decide_true, decide_false, Bool.not_true, Bool.not_false, Option.isNone_none, Option.isNone_some, Option.isSome_none, Option.isSome_some, ite_true, ite_false, reduceIte, reduceCtorEq, and_true, true_and, eq_self, Option.some.injEq, Sum.inr.injEq, Sum.inl.injEq, Prod.mk.injEq, not_true_eq_false, not_false_eq_true, Bool.decide_eq_true, n0_ne, n1_ne, xz_ret, zb_if, n1_if, n0_if, v_rf, h_ix_nI, nI_clamp, zB_t, zB_f, uN_uN, uN_ap, Nat.reduceEqDiff, Nat.reduceMul, Nat.reduceSub, mp_o hσ, mF_len, mp_a1 hσ, mp_a2 hσ, mp_a3 hσ, mp_a4 hσ, mp_a5 hσ, mp_a6 hσ, mp_a7 hσ, mp_a8 hσ, mp_a9 hσ, mp_a10 hσ, mp_a11 hσ, mp_s0 hσ, mp_s1 hσ, mp_s2 hσ, mp_s3 hσ, mp_s4 hσ, mp_s5 hσ, mp_s6 hσ, mp_s7 hσ, mp_s8 hσ, mp_s9 hσ, mp_s10 hσ, mp_s11 hσ, mg0, mg1, mg2, mg3, mg4, mg5, mg6, mg7, mg8, mg9, mg10, mg11, mg12, mg13, mg14, mg15, mg16, mg17, ms5, ms6, ms7, ms9, ms10, ms13, ms14, j_lt, show k < (pB v).length by omega, n1, hr, pk_mul, j_le, c]
theorem g_sieve (hσ : 72 ≤ σ.1.length) : ∀ (d v : Nat) (M : tM), 2 ≤ v → v + d = 10000 → (∀ k q, (pB v)[k]? = some q → M.2 5 k = nI q) → ∀ F, d < F → ∃ f, s_wh C_X9_init_2 W_X9_init_2 F [.ref 60, .int (nI (pB v).length), .int (nI v)] (mp σ M) = some (.inr ([.ref 60, .int (nI 1229), .int (nI 10000)], mp σ (M.1, uN M.2 5 f))) ∧ PRow f := by
  intro d
  induction d with
  | zero =>
    intro v M h2 hv hM F hF
    obtain ⟨F, rfl⟩ : ∃ F', F = F' + 1 := ⟨F - 1, by omega⟩
    have : v = 10000 := by omega
    subst this
    have e : (pB 10000).length = 1229 := PRS_len
    refine ⟨M.2 5, ?_, fun k q hk => hM k q hk⟩
    have me : ((M.1, uN M.2 5 (M.2 5)) : tM) = M := by
      refine Prod.ext rfl (funext fun j => ?_)
      show (if j = 5 then M.2 5 else M.2 j) = M.2 j
      by_cases c : j = 5
      · rw [if_pos c, c]
      · rw [if_neg c]
    rw [me, e]
    refine wh_F ?_
    simp (disch := omega) only [x_k, x_i, x_r, x_nil, x_add, x_sub, x_mul, x_div, x_rem, x_get, x_getR, x_ald, x_aldR, x_len, x_lenR, x_if, xa_nil, xa_ci, xa_cr, x_callI, x_callR, x_new, x_newa, x_newq, x_max, x_min, xc_cmp, xc_cmp0, xc_null, xc_nn, xc_not, xc_and, xc_or, xc_if, xs_skip, xs_seq, xs_decI, xs_decR, xs_setI, xs_inc, xs_if, xs_blk, xs_retI, xs_retB, xs_retR, xs_retD, xs_ret0, xs_putI, xs_putZ, xs_putR, xs_putop, xs_ast, xs_astop, xs_astR, xs_callV, xs_callP, xs_super, xs_sw, s_go_inl, s_go_inr, s_cut_inl, s_cut_inr, o_void_n, v_i_int, v_i_none, v_r_ref, v_r_null, v_r_rf, h_set_some, o_some_s, zB_ne0, zB_ite, zB_ite2, g_Vn, g_Pi, nI_add, Option.bind_some, Option.map_some, Option.bind_none, Option.map_none, List.getElem?_cons_zero, List.getElem?_cons_succ, List.set_cons_zero, List.set_cons_succ, List.cons_append, List.nil_append, List.take_succ_cons, List.take_zero, List.length_cons, List.length_nil, Nat.zero_add, Nat.reduceAdd, Nat.reduceLT, if_true, if_false, Bool.false_eq_true, Bool.true_eq_false, decide_eq_true_eq, decide_true, decide_false, Bool.not_true, Bool.not_false, Option.isNone_none, Option.isNone_some, Option.isSome_none, Option.isSome_some, ite_true, ite_false, reduceIte, reduceCtorEq, and_true, true_and, eq_self, Option.some.injEq, Sum.inr.injEq, Sum.inl.injEq, Prod.mk.injEq, not_true_eq_false, not_false_eq_true, Bool.decide_eq_true, n0_ne, n1_ne, xz_ret, zb_if, n1_if, n0_if, v_rf, h_ix_nI, nI_clamp, zB_t, zB_f, uN_uN, uN_ap, Nat.reduceEqDiff, Nat.reduceMul, Nat.reduceSub, mp_o hσ, mF_len, mp_a1 hσ, mp_a2 hσ, mp_a3 hσ, mp_a4 hσ, mp_a5 hσ, mp_a6 hσ, mp_a7 hσ, mp_a8 hσ, mp_a9 hσ, mp_a10 hσ, mp_a11 hσ, mp_s0 hσ, mp_s1 hσ, mp_s2 hσ, mp_s3 hσ, mp_s4 hσ, mp_s5 hσ, mp_s6 hσ, mp_s7 hσ, mp_s8 hσ, mp_s9 hσ, mp_s10 hσ, mp_s11 hσ, mg0, mg1, mg2, mg3, mg4, mg5, mg6, mg7, mg8, mg9, mg10, mg11, mg12, mg13, mg14, mg15, mg16, mg17, ms5, ms6, ms7, ms9, ms10, ms13, ms14, j_le, show ¬ 10000 ≤ 9999 by omega]
  | succ d ih =>
    intro v M h2 hv hM F hF
    obtain ⟨F, rfl⟩ : ∃ F', F = F' + 1 := ⟨F - 1, by omega⟩
    have lv := pB_len (u := v + 1) (by omega)
    have lv0 := pB_len (u := v) (by omega)
    have hC : C_X9_init_2 [.ref 60, .int (nI (pB v).length), .int (nI v)] (mp σ M) = some (true, mp σ M) := by
      simp (disch := omega) only [x_k, x_i, x_r, x_nil, x_add, x_sub, x_mul, x_div, x_rem, x_get, x_getR, x_ald, x_aldR, x_len, x_lenR, x_if, xa_nil, xa_ci, xa_cr, x_callI, x_callR, x_new, x_newa, x_newq, x_max, x_min, xc_cmp, xc_cmp0, xc_null, xc_nn, xc_not, xc_and, xc_or, xc_if, xs_skip, xs_seq, xs_decI, xs_decR, xs_setI, xs_inc, xs_if, xs_blk, xs_retI, xs_retB, xs_retR, xs_retD, xs_ret0, xs_putI, xs_putZ, xs_putR, xs_putop, xs_ast, xs_astop, xs_astR, xs_callV, xs_callP, xs_super, xs_sw, s_go_inl, s_go_inr, s_cut_inl, s_cut_inr, o_void_n, v_i_int, v_i_none, v_r_ref, v_r_null, v_r_rf, h_set_some, o_some_s, zB_ne0, zB_ite, zB_ite2, g_Vn, g_Pi, nI_add, Option.bind_some, Option.map_some, Option.bind_none, Option.map_none, List.getElem?_cons_zero, List.getElem?_cons_succ, List.set_cons_zero, List.set_cons_succ, List.cons_append, List.nil_append, List.take_succ_cons, List.take_zero, List.length_cons, List.length_nil, Nat.zero_add, Nat.reduceAdd, Nat.reduceLT, if_true, if_false, Bool.false_eq_true, Bool.true_eq_false, decide_eq_true_eq, decide_true, decide_false, Bool.not_true, Bool.not_false, Option.isNone_none, Option.isNone_some, Option.isSome_none, Option.isSome_some, ite_true, ite_false, reduceIte, reduceCtorEq, and_true, true_and, eq_self, Option.some.injEq, Sum.inr.injEq, Sum.inl.injEq, Prod.mk.injEq, not_true_eq_false, not_false_eq_true, Bool.decide_eq_true, n0_ne, n1_ne, xz_ret, zb_if, n1_if, n0_if, v_rf, h_ix_nI, nI_clamp, zB_t, zB_f, uN_uN, uN_ap, Nat.reduceEqDiff, Nat.reduceMul, Nat.reduceSub, mp_o hσ, mF_len, mp_a1 hσ, mp_a2 hσ, mp_a3 hσ, mp_a4 hσ, mp_a5 hσ, mp_a6 hσ, mp_a7 hσ, mp_a8 hσ, mp_a9 hσ, mp_a10 hσ, mp_a11 hσ, mp_s0 hσ, mp_s1 hσ, mp_s2 hσ, mp_s3 hσ, mp_s4 hσ, mp_s5 hσ, mp_s6 hσ, mp_s7 hσ, mp_s8 hσ, mp_s9 hσ, mp_s10 hσ, mp_s11 hσ, mg0, mg1, mg2, mg3, mg4, mg5, mg6, mg7, mg8, mg9, mg10, mg11, mg12, mg13, mg14, mg15, mg16, mg17, ms5, ms6, ms7, ms9, ms10, ms13, ms14, j_le, show v ≤ 9999 by omega]
    obtain ⟨k', w⟩ := g_sieveL hσ h2 (by omega) hM (pB v).length 0 (Nat.zero_add _) (fun j q hj => absurd hj (Nat.not_lt_zero j)) s_FUEL (by unfold s_FUEL; omega)
    have w : s_while C_X9_init_1 W_X9_init_1 [.ref 60, .int (nI (pB v).length), .int (nI v), .int (nI 1), .int (nI 0)] (mp σ M) = _ := w
    have hs := pB_s v
    cases e : sp v with
    | false =>
      rw [e, if_neg Bool.false_ne_true, List.append_nil] at hs
      rw [e] at w
      have hS : W_X9_init_2 [.ref 60, .int (nI (pB v).length), .int (nI v)] (mp σ M) = some (.inr ([.ref 60, .int (nI (pB (v + 1)).length), .int (nI (v + 1))], mp σ M)) := by
        rw [hs]
        simp (disch := omega) only [x_k, x_i, x_r, x_nil, x_add, x_sub, x_mul, x_div, x_rem, x_get, x_getR, x_ald, x_aldR, x_len, x_lenR, x_if, xa_nil, xa_ci, xa_cr, x_callI, x_callR, x_new, x_newa, x_newq, x_max, x_min, xc_cmp, xc_cmp0, xc_null, xc_nn, xc_not, xc_and, xc_or, xc_if, xs_skip, xs_seq, xs_decI, xs_decR, xs_setI, xs_inc, xs_if, xs_blk, xs_retI, xs_retB, xs_retR, xs_retD, xs_ret0, xs_putI, xs_putZ, xs_putR, xs_putop, xs_ast, xs_astop, xs_astR, xs_callV, xs_callP, xs_super, xs_sw, s_go_inl, s_go_inr, s_cut_inl, s_cut_inr, o_void_n, v_i_int, v_i_none, v_r_ref, v_r_null, v_r_rf, h_set_some, o_some_s, zB_ne0, zB_ite, zB_ite2, g_Vn, g_Pi, nI_add, Option.bind_some, Option.map_some, Option.bind_none, Option.map_none, List.getElem?_cons_zero, List.getElem?_cons_succ, List.set_cons_zero, List.set_cons_succ, List.cons_append, List.nil_append, List.take_succ_cons, List.take_zero, List.length_cons, List.length_nil, Nat.zero_add, Nat.reduceAdd, Nat.reduceLT, if_true, if_false, Bool.false_eq_true, Bool.true_eq_false, decide_eq_true_eq, decide_true, decide_false, Bool.not_true, Bool.not_false, Option.isNone_none, Option.isNone_some, Option.isSome_none, Option.isSome_some, ite_true, ite_false, reduceIte, reduceCtorEq, and_true, true_and, eq_self, Option.some.injEq, Sum.inr.injEq, Sum.inl.injEq, Prod.mk.injEq, not_true_eq_false, not_false_eq_true, Bool.decide_eq_true, n0_ne, n1_ne, xz_ret, zb_if, n1_if, n0_if, v_rf, h_ix_nI, nI_clamp, zB_t, zB_f, uN_uN, uN_ap, Nat.reduceEqDiff, Nat.reduceMul, Nat.reduceSub, mp_o hσ, mF_len, mp_a1 hσ, mp_a2 hσ, mp_a3 hσ, mp_a4 hσ, mp_a5 hσ, mp_a6 hσ, mp_a7 hσ, mp_a8 hσ, mp_a9 hσ, mp_a10 hσ, mp_a11 hσ, mp_s0 hσ, mp_s1 hσ, mp_s2 hσ, mp_s3 hσ, mp_s4 hσ, mp_s5 hσ, mp_s6 hσ, mp_s7 hσ, mp_s8 hσ, mp_s9 hσ, mp_s10 hσ, mp_s11 hσ, mg0, mg1, mg2, mg3, mg4, mg5, mg6, mg7, mg8, mg9, mg10, mg11, mg12, mg13, mg14, mg15, mg16, mg17, ms5, ms6, ms7, ms9, ms10, ms13, ms14, w]
      obtain ⟨f, r, hf⟩ := ih (v + 1) M (by omega) (by omega) (by rw [hs]; exact hM) F (by omega)
      exact ⟨f, (wh_T hC hS).trans r, hf⟩
    | true =>
      rw [e, if_pos rfl] at hs
      rw [e] at w
      have hl : (pB (v + 1)).length = (pB v).length + 1 := by rw [hs, List.length_append]; rfl
      obtain ⟨f1, hf1⟩ : ∃ f1, f1 = upd (M.2 5) (pB v).length (nI v) := ⟨_, rfl⟩
      have hS : W_X9_init_2 [.ref 60, .int (nI (pB v).length), .int (nI v)] (mp σ M) = some (.inr ([.ref 60, .int (nI (pB (v + 1)).length), .int (nI (v + 1))], mp σ (M.1, uN M.2 5 f1))) := by
        rw [hl]
        simp (disch := omega) only [x_k, x_i, x_r, x_nil, x_add, x_sub, x_mul, x_div, x_rem, x_get, x_getR, x_ald, x_aldR, x_len, x_lenR, x_if, xa_nil, xa_ci, xa_cr, x_callI, x_callR, x_new, x_newa, x_newq, x_max, x_min, xc_cmp, xc_cmp0, xc_null, xc_nn, xc_not, xc_and, xc_or, xc_if, xs_skip, xs_seq, xs_decI, xs_decR, xs_setI, xs_inc, xs_if, xs_blk, xs_retI, xs_retB, xs_retR, xs_retD, xs_ret0, xs_putI, xs_putZ, xs_putR, xs_putop, xs_ast, xs_astop, xs_astR, xs_callV, xs_callP, xs_super, xs_sw, s_go_inl, s_go_inr, s_cut_inl, s_cut_inr, o_void_n, v_i_int, v_i_none, v_r_ref, v_r_null, v_r_rf, h_set_some, o_some_s, zB_ne0, zB_ite, zB_ite2, g_Vn, g_Pi, nI_add, Option.bind_some, Option.map_some, Option.bind_none, Option.map_none, List.getElem?_cons_zero, List.getElem?_cons_succ, List.set_cons_zero, List.set_cons_succ, List.cons_append, List.nil_append, List.take_succ_cons, List.take_zero, List.length_cons, List.length_nil, Nat.zero_add, Nat.reduceAdd, Nat.reduceLT, if_true, if_false, Bool.false_eq_true, Bool.true_eq_false, decide_eq_true_eq, decide_true, decide_false, Bool.not_true, Bool.not_false, Option.isNone_none, Option.isNone_some, Option.isSome_none, Option.isSome_some, ite_true, ite_false, reduceIte, reduceCtorEq, and_true, true_and, eq_self, Option.some.injEq, Sum.inr.injEq, Sum.inl.injEq, Prod.mk.injEq, not_true_eq_false, not_false_eq_true, Bool.decide_eq_true, n0_ne, n1_ne, xz_ret, zb_if, n1_if, n0_if, v_rf, h_ix_nI, nI_clamp, zB_t, zB_f, uN_uN, uN_ap, Nat.reduceEqDiff, Nat.reduceMul, Nat.reduceSub, mp_o hσ, mF_len, mp_a1 hσ, mp_a2 hσ, mp_a3 hσ, mp_a4 hσ, mp_a5 hσ, mp_a6 hσ, mp_a7 hσ, mp_a8 hσ, mp_a9 hσ, mp_a10 hσ, mp_a11 hσ, mp_s0 hσ, mp_s1 hσ, mp_s2 hσ, mp_s3 hσ, mp_s4 hσ, mp_s5 hσ, mp_s6 hσ, mp_s7 hσ, mp_s8 hσ, mp_s9 hσ, mp_s10 hσ, mp_s11 hσ, mg0, mg1, mg2, mg3, mg4, mg5, mg6, mg7, mg8, mg9, mg10, mg11, mg12, mg13, mg14, mg15, mg16, mg17, ms5, ms6, ms7, ms9, ms10, ms13, ms14, w, ← hf1]
      obtain ⟨f, r, hf⟩ := ih (v + 1) (M.1, uN M.2 5 f1) (by omega) (by omega) (fun k q hk => by
        show f1 k = nI q
        rw [hf1]
        rw [hs] at hk
        by_cases c : k < (pB v).length
        · rw [List.getElem?_append_left c] at hk
          show (if k = (pB v).length then nI v else M.2 5 k) = nI q
          rw [if_neg (by omega)]
          exact hM k q hk
        · rw [List.getElem?_append_right (by omega)] at hk
          have ke : k - (pB v).length = 0 := by
            have := (List.getElem?_eq_some_iff.mp hk).1
            have l1 : [v].length = 1 := rfl
            omega
          rw [ke] at hk
          cases hk
          show (if k = (pB v).length then nI v else M.2 5 k) = nI v
          rw [if_pos (by omega)]) F (by omega)
      refine ⟨f, (wh_T hC hS).trans ?_, hf⟩
      rw [r]
      have uu : ((M.1, uN (uN M.2 5 f1) 5 f) : tM) = (M.1, uN M.2 5 f) := by rw [uN_uN]
      show some (Sum.inr (_, mp σ (M.1, uN (uN M.2 5 f1) 5 f))) = _
      rw [uu]
end
