/-! Families (own work): two are joined -/
theorem FamAt.congr {σ : sSt} {e n : Nat} {f f2 : Nat → Nat} (h : FamAt σ e n f) (q : ∀ i, i < n → f2 i = f i) : FamAt σ e n f2 := by
  obtain ⟨h1, h2, h3, g, h4, h5⟩ := h
  exact ⟨h1, fun i hi => by rw [q i hi]; exact h2 i hi, h3, g, h4, fun i hi => by rw [q i hi]; exact h5 i hi⟩
theorem fam_put {σ : sSt} {e n : Nat} {f : Nat → Nat} (h : FamAt σ e n f) {i v : Nat} (hi : i < n) (hv : v < 12) : ∃ σ', M_X5_put [.ref (e + 1), .int (nI i), .int (nI v)] σ = some (none, σ') ∧ FamAt σ' e n (fun k => if k = i then v else f k) ∧ Keep σ σ' (fun k => k = e + 1) ∧ σ'.1.length = σ.1.length ∧ σ'.2 = σ.2 := by
  obtain ⟨h1, h2, h3, g, h4, h5⟩ := h
  refine ⟨_, f_put h4 (show 12 < 2 ^ 31 by omega) (show i < 12 by omega) (nI v), ⟨h1, fun k hk => ?_, (List.getElem?_set_ne (by omega)).trans h3, _, List.getElem?_set_self (List.getElem?_eq_some_iff.mp h4).1, fun k hk => ?_⟩, Keep.set rfl, by show (σ.1.set _ _).length = _; rw [List.length_set], rfl⟩
  · show (if k = i then v else f k) < 12
    by_cases c : k = i
    · rw [if_pos c]; exact hv
    · rw [if_neg c]; exact h2 k hk
  · show upd g i (nI v) k = nI (if k = i then v else f k)
    by_cases c : k = i
    · simp only [upd, c, if_true]
    · simp only [upd, c, if_false]; exact h5 k hk
def joinF (f : Nat → Nat) (x y : Nat) : Nat → Nat := fun i => if f i = x ∨ f i = y then min x y else f i
theorem f_joinL {e n x y : Nat} (hx : x < 12) (hy : y < 12) (f : Nat → Nat) : ∀ (d j : Nat) (σ : sSt), j + d = n → FamAt σ e n (fun i => if i < j then joinF f x y i else f i) → ∀ F, d < F →
    ∃ σ', s_wh C_X2_join_1 W_X2_join_1 F [.ref e, .int (nI x), .int (nI y), .int (nI (min x y)), .int (nI j)] σ = some (.inr ([.ref e, .int (nI x), .int (nI y), .int (nI (min x y)), .int (nI n)], σ')) ∧ FamAt σ' e n (joinF f x y) ∧ Keep σ σ' (fun k => k = e + 1) ∧ σ'.1.length = σ.1.length ∧ σ'.2 = σ.2 := by
  intro d
  induction d with
  | zero =>
    intro j σ hj h F hF
    obtain ⟨F, rfl⟩ : ∃ F', F = F' + 1 := ⟨F - 1, by omega⟩
    have hjn : j = n := by omega
    subst hjn
    have h1 := h.1
    refine ⟨σ, wh_F ?_, h.congr (fun i hi => by show _ = (if i < j then _ else _); rw [if_pos hi]), Keep.rf, rfl, rfl⟩
    simp only [x_and, x_or, x_shl, x_shr, x_k, x_i, x_r, x_nil, x_add, x_sub, x_mul, x_div, x_rem, x_get, x_getR, x_ald, x_aldR, x_len, x_lenR, x_if, xa_nil, xa_ci, xa_cr, x_callI, x_callR, x_new, x_newa, x_newq, x_max, x_min, xc_cmp, xc_cmp0, xc_null, xc_nn, xc_not, xc_and, xc_or, xc_if, xs_skip, xs_seq, xs_decI, xs_decR, xs_setI, xs_inc, xs_if, xs_blk, xs_retI, xs_retB, xs_retR, xs_retD, xs_ret0, xs_putI, xs_putZ, xs_putR, xs_putop, xs_ast, xs_astop, xs_astR, xs_callV, xs_callP, xs_super, xs_sw, s_go_inl, s_go_inr, s_cut_inl, s_cut_inr, o_void_n, v_i_int, v_i_none, v_r_ref, v_r_null, v_r_rf, h_set_some, o_some_s, zB_ne0, zB_ite, zB_ite2, g_Vn, g_Pi, nI_add, Option.bind_some, Option.map_some, Option.bind_none, Option.map_none, List.getElem?_cons_zero, List.getElem?_cons_succ, List.set_cons_zero, List.set_cons_succ, List.cons_append, List.nil_append, List.take_succ_cons, List.take_zero, List.length_cons, List.length_nil, Nat.zero_add, Nat.reduceAdd, Nat.reduceLT, if_true, if_false, Bool.false_eq_true, Bool.true_eq_false, decide_eq_true_eq, decide_true, decide_false, Bool.not_true, Bool.not_false, Option.isNone_none, Option.isNone_some, Option.isSome_none, Option.isSome_some, ite_true, ite_false, reduceIte, reduceCtorEq, and_true, true_and, eq_self, Option.some.injEq, Sum.inr.injEq, Sum.inl.injEq, Prod.mk.injEq, h_obj_eq h.2.2.1, j_lt (show j < 2 ^ 31 by omega) (show j < 2 ^ 31 by omega), Nat.lt_irrefl]
  | succ d ih =>
    intro j σ hj h F hF
    obtain ⟨F, rfl⟩ : ∃ F', F = F' + 1 := ⟨F - 1, by omega⟩
    have h1 := h.1
    have hjn : j < n := by omega
    have r0 := f_lowestOf h hjn
    have hf := h.2.1 j hjn
    simp only [Nat.lt_irrefl, if_false] at r0 hf
    have hC : C_X2_join_1 [.ref e, .int (nI x), .int (nI y), .int (nI (min x y)), .int (nI j)] σ = some (true, σ) := by
      simp only [x_and, x_or, x_shl, x_shr, x_k, x_i, x_r, x_nil, x_add, x_sub, x_mul, x_div, x_rem, x_get, x_getR, x_ald, x_aldR, x_len, x_lenR, x_if, xa_nil, xa_ci, xa_cr, x_callI, x_callR, x_new, x_newa, x_newq, x_max, x_min, xc_cmp, xc_cmp0, xc_null, xc_nn, xc_not, xc_and, xc_or, xc_if, xs_skip, xs_seq, xs_decI, xs_decR, xs_setI, xs_inc, xs_if, xs_blk, xs_retI, xs_retB, xs_retR, xs_retD, xs_ret0, xs_putI, xs_putZ, xs_putR, xs_putop, xs_ast, xs_astop, xs_astR, xs_callV, xs_callP, xs_super, xs_sw, s_go_inl, s_go_inr, s_cut_inl, s_cut_inr, o_void_n, v_i_int, v_i_none, v_r_ref, v_r_null, v_r_rf, h_set_some, o_some_s, zB_ne0, zB_ite, zB_ite2, g_Vn, g_Pi, nI_add, Option.bind_some, Option.map_some, Option.bind_none, Option.map_none, List.getElem?_cons_zero, List.getElem?_cons_succ, List.set_cons_zero, List.set_cons_succ, List.cons_append, List.nil_append, List.take_succ_cons, List.take_zero, List.length_cons, List.length_nil, Nat.zero_add, Nat.reduceAdd, Nat.reduceLT, if_true, if_false, Bool.false_eq_true, Bool.true_eq_false, decide_eq_true_eq, decide_true, decide_false, Bool.not_true, Bool.not_false, Option.isNone_none, Option.isNone_some, Option.isSome_none, Option.isSome_some, ite_true, ite_false, reduceIte, reduceCtorEq, and_true, true_and, eq_self, Option.some.injEq, Sum.inr.injEq, Sum.inl.injEq, Prod.mk.injEq, h_obj_eq h.2.2.1, j_lt (show j < 2 ^ 31 by omega) (show n < 2 ^ 31 by omega), hjn]
    by_cases c : f j = x ∨ f j = y
    · obtain ⟨σ1, r1, k1, m1, l1, n1⟩ := fam_put h hjn (show min x y < 12 by omega)
      have hS : W_X2_join_1 [.ref e, .int (nI x), .int (nI y), .int (nI (min x y)), .int (nI j)] σ = some (.inr ([.ref e, .int (nI x), .int (nI y), .int (nI (min x y)), .int (nI (j + 1))], σ1)) := by
        by_cases cx : f j = x
        · simp only [x_and, x_or, x_shl, x_shr, x_k, x_i, x_r, x_nil, x_add, x_sub, x_mul, x_div, x_rem, x_get, x_getR, x_ald, x_aldR, x_len, x_lenR, x_if, xa_nil, xa_ci, xa_cr, x_callI, x_callR, x_new, x_newa, x_newq, x_max, x_min, xc_cmp, xc_cmp0, xc_null, xc_nn, xc_not, xc_and, xc_or, xc_if, xs_skip, xs_seq, xs_decI, xs_decR, xs_setI, xs_inc, xs_if, xs_blk, xs_retI, xs_retB, xs_retR, xs_retD, xs_ret0, xs_putI, xs_putZ, xs_putR, xs_putop, xs_ast, xs_astop, xs_astR, xs_callV, xs_callP, xs_super, xs_sw, s_go_inl, s_go_inr, s_cut_inl, s_cut_inr, o_void_n, v_i_int, v_i_none, v_r_ref, v_r_null, v_r_rf, h_set_some, o_some_s, zB_ne0, zB_ite, zB_ite2, g_Vn, g_Pi, nI_add, Option.bind_some, Option.map_some, Option.bind_none, Option.map_none, List.getElem?_cons_zero, List.getElem?_cons_succ, List.set_cons_zero, List.set_cons_succ, List.cons_append, List.nil_append, List.take_succ_cons, List.take_zero, List.length_cons, List.length_nil, Nat.zero_add, Nat.reduceAdd, Nat.reduceLT, if_true, if_false, Bool.false_eq_true, Bool.true_eq_false, decide_eq_true_eq, decide_true, decide_false, Bool.not_true, Bool.not_false, Option.isNone_none, Option.isNone_some, Option.isSome_none, Option.isSome_some, ite_true, ite_false, reduceIte, reduceCtorEq, and_true, true_and, eq_self, Option.some.injEq, Sum.inr.injEq, Sum.inl.injEq, Prod.mk.injEq, v_rf, r0, j_eq (show f j < 2 ^ 31 by omega) (show x < 2 ^ 31 by omega), cx, i_eqS, h_obj_eq h.2.2.1, r1]
        · have cy : f j = y := c.resolve_left cx
          simp only [x_and, x_or, x_shl, x_shr, x_k, x_i, x_r, x_nil, x_add, x_sub, x_mul, x_div, x_rem, x_get, x_getR, x_ald, x_aldR, x_len, x_lenR, x_if, xa_nil, xa_ci, xa_cr, x_callI, x_callR, x_new, x_newa, x_newq, x_max, x_min, xc_cmp, xc_cmp0, xc_null, xc_nn, xc_not, xc_and, xc_or, xc_if, xs_skip, xs_seq, xs_decI, xs_decR, xs_setI, xs_inc, xs_if, xs_blk, xs_retI, xs_retB, xs_retR, xs_retD, xs_ret0, xs_putI, xs_putZ, xs_putR, xs_putop, xs_ast, xs_astop, xs_astR, xs_callV, xs_callP, xs_super, xs_sw, s_go_inl, s_go_inr, s_cut_inl, s_cut_inr, o_void_n, v_i_int, v_i_none, v_r_ref, v_r_null, v_r_rf, h_set_some, o_some_s, zB_ne0, zB_ite, zB_ite2, g_Vn, g_Pi, nI_add, Option.bind_some, Option.map_some, Option.bind_none, Option.map_none, List.getElem?_cons_zero, List.getElem?_cons_succ, List.set_cons_zero, List.set_cons_succ, List.cons_append, List.nil_append, List.take_succ_cons, List.take_zero, List.length_cons, List.length_nil, Nat.zero_add, Nat.reduceAdd, Nat.reduceLT, if_true, if_false, Bool.false_eq_true, Bool.true_eq_false, decide_eq_true_eq, decide_true, decide_false, Bool.not_true, Bool.not_false, Option.isNone_none, Option.isNone_some, Option.isSome_none, Option.isSome_some, ite_true, ite_false, reduceIte, reduceCtorEq, and_true, true_and, eq_self, Option.some.injEq, Sum.inr.injEq, Sum.inl.injEq, Prod.mk.injEq, v_rf, r0, j_eq (show f j < 2 ^ 31 by omega) (show x < 2 ^ 31 by omega), j_eq (show f j < 2 ^ 31 by omega) (show y < 2 ^ 31 by omega), cx, decide_eq_true cy, h_obj_eq h.2.2.1, r1]
      obtain ⟨σ', w, k, m, l, nn⟩ := ih (j + 1) σ1 (by omega) (k1.congr (fun i hi => by
        show (if i < j + 1 then _ else _) = (if i = j then _ else (if i < j then _ else _))
        by_cases e1 : i = j
        · rw [if_pos (by omega), if_pos e1, e1]; exact if_pos c
        · by_cases e2 : i < j
          · rw [if_pos (by omega), if_neg e1, if_pos e2]
          · rw [if_neg (by omega), if_neg e1, if_neg e2])) F (by omega)
      exact ⟨σ', (wh_T hC hS).trans w, k, m1.tr m (fun _ _ z => z), l.trans l1, nn.trans n1⟩
    · have cx : ¬ f j = x := fun z => c (Or.inl z)
      have cy : ¬ f j = y := fun z => c (Or.inr z)
      have hS : W_X2_join_1 [.ref e, .int (nI x), .int (nI y), .int (nI (min x y)), .int (nI j)] σ = some (.inr ([.ref e, .int (nI x), .int (nI y), .int (nI (min x y)), .int (nI (j + 1))], σ)) := by
        simp only [x_and, x_or, x_shl, x_shr, x_k, x_i, x_r, x_nil, x_add, x_sub, x_mul, x_div, x_rem, x_get, x_getR, x_ald, x_aldR, x_len, x_lenR, x_if, xa_nil, xa_ci, xa_cr, x_callI, x_callR, x_new, x_newa, x_newq, x_max, x_min, xc_cmp, xc_cmp0, xc_null, xc_nn, xc_not, xc_and, xc_or, xc_if, xs_skip, xs_seq, xs_decI, xs_decR, xs_setI, xs_inc, xs_if, xs_blk, xs_retI, xs_retB, xs_retR, xs_retD, xs_ret0, xs_putI, xs_putZ, xs_putR, xs_putop, xs_ast, xs_astop, xs_astR, xs_callV, xs_callP, xs_super, xs_sw, s_go_inl, s_go_inr, s_cut_inl, s_cut_inr, o_void_n, v_i_int, v_i_none, v_r_ref, v_r_null, v_r_rf, h_set_some, o_some_s, zB_ne0, zB_ite, zB_ite2, g_Vn, g_Pi, nI_add, Option.bind_some, Option.map_some, Option.bind_none, Option.map_none, List.getElem?_cons_zero, List.getElem?_cons_succ, List.set_cons_zero, List.set_cons_succ, List.cons_append, List.nil_append, List.take_succ_cons, List.take_zero, List.length_cons, List.length_nil, Nat.zero_add, Nat.reduceAdd, Nat.reduceLT, if_true, if_false, Bool.false_eq_true, Bool.true_eq_false, decide_eq_true_eq, decide_true, decide_false, Bool.not_true, Bool.not_false, Option.isNone_none, Option.isNone_some, Option.isSome_none, Option.isSome_some, ite_true, ite_false, reduceIte, reduceCtorEq, and_true, true_and, eq_self, Option.some.injEq, Sum.inr.injEq, Sum.inl.injEq, Prod.mk.injEq, v_rf, r0, j_eq (show f j < 2 ^ 31 by omega) (show x < 2 ^ 31 by omega), j_eq (show f j < 2 ^ 31 by omega) (show y < 2 ^ 31 by omega), cx, cy]
      obtain ⟨σ', w, k, m, l, nn⟩ := ih (j + 1) σ (by omega) (h.congr (fun i hi => by
        show (if i < j + 1 then _ else _) = (if i < j then _ else _)
        by_cases e1 : i = j
        · rw [if_pos (by omega), if_neg (by omega), e1]; exact if_neg c
        · by_cases e2 : i < j
          · rw [if_pos (by omega), if_pos e2]
          · rw [if_neg (by omega), if_neg e2])) F (by omega)
      exact ⟨σ', (wh_T hC hS).trans w, k, m, l, nn⟩
