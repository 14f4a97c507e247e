/-! WHAT THE REST OF Whole AND Rows ANSWER (own work) -/
section
variable {σ : sSt}
theorem f_factorAt {n q : Nat} (h1 : 1 ≤ n) (hn : n ≤ 9999) (hq : q < 2 ^ 31) : M_X7_factorAt [.int (nI n), .int (nI q)] σ = some (some (.int (match (fac n)[q]? with | some p => nI p | none => -1)), σ) := by
  refine m_eq rfl rfl ?_
  have hC : ∀ r k : Nat, r ≤ 9999 → k ≤ 13 → C_X7_factorAt_1 [.int (nI n), .int (nI q), .int (nI r), .int (nI k)] σ = some (decide (k < 13 ∧ 1 < r), σ) := by
    intro r k hr hk
    simp only [x_and, x_or, x_shl, x_shr, x_k, x_i, x_r, x_nil, x_add, x_sub, x_mul, x_div, x_rem, x_get, x_getR, x_ald, x_aldR, x_len, x_lenR, x_if, xa_nil, xa_ci, xa_cr, x_callI, x_callR, x_new, x_newa, x_newq, x_max, x_min, xc_cmp, xc_cmp0, xc_null, xc_nn, xc_not, xc_and, xc_or, xc_if, xs_skip, xs_seq, xs_decI, xs_decR, xs_setI, xs_inc, xs_if, xs_blk, xs_retI, xs_retB, xs_retR, xs_retD, xs_ret0, xs_putI, xs_putZ, xs_putR, xs_putop, xs_ast, xs_astop, xs_astR, xs_callV, xs_callP, xs_super, xs_sw, s_go_inl, s_go_inr, s_cut_inl, s_cut_inr, o_void_n, v_i_int, v_i_none, v_r_ref, v_r_null, v_r_rf, h_set_some, o_some_s, zB_ne0, zB_ite, zB_ite2, g_Vn, g_Pi, nI_add, Option.bind_some, Option.map_some, Option.bind_none, Option.map_none, List.getElem?_cons_zero, List.getElem?_cons_succ, List.set_cons_zero, List.set_cons_succ, List.cons_append, List.nil_append, List.take_succ_cons, List.take_zero, List.length_cons, List.length_nil, Nat.zero_add, Nat.reduceAdd, Nat.reduceLT, if_true, if_false, Bool.false_eq_true, Bool.true_eq_false, decide_eq_true_eq, decide_true, decide_false, Bool.not_true, Bool.not_false, Option.isNone_none, Option.isNone_some, Option.isSome_none, Option.isSome_some, ite_true, ite_false, reduceIte, reduceCtorEq, and_true, true_and, eq_self, Option.some.injEq, Sum.inr.injEq, Sum.inl.injEq, Prod.mk.injEq, j_lt (show k < 2 ^ 31 by omega) (show 13 < 2 ^ 31 by omega), j_gt (show r < 2 ^ 31 by omega) (show 1 < 2 ^ 31 by omega)]
    by_cases h2 : k < 13
    · simp [h2]
    · simp [h2]
  have hS : ∀ r k : Nat, 2 ≤ r → r ≤ 9999 → k ≤ 13 → W_X7_factorAt_1 [.int (nI n), .int (nI q), .int (nI r), .int (nI k)] σ = if k = q then some (.inl (some (.int (nI (lp r))), σ)) else some (.inr ([.int (nI n), .int (nI q), .int (nI (r / lp r)), .int (nI (k + 1))], σ)) := by
    intro r k h1 hr hk
    have h4 := lp_spec h1
    by_cases h : k = q
    · subst h
      simp only [x_and, x_or, x_shl, x_shr, x_k, x_i, x_r, x_nil, x_add, x_sub, x_mul, x_div, x_rem, x_get, x_getR, x_ald, x_aldR, x_len, x_lenR, x_if, xa_nil, xa_ci, xa_cr, x_callI, x_callR, x_new, x_newa, x_newq, x_max, x_min, xc_cmp, xc_cmp0, xc_null, xc_nn, xc_not, xc_and, xc_or, xc_if, xs_skip, xs_seq, xs_decI, xs_decR, xs_setI, xs_inc, xs_if, xs_blk, xs_retI, xs_retB, xs_retR, xs_retD, xs_ret0, xs_putI, xs_putZ, xs_putR, xs_putop, xs_ast, xs_astop, xs_astR, xs_callV, xs_callP, xs_super, xs_sw, s_go_inl, s_go_inr, s_cut_inl, s_cut_inr, o_void_n, v_i_int, v_i_none, v_r_ref, v_r_null, v_r_rf, h_set_some, o_some_s, zB_ne0, zB_ite, zB_ite2, g_Vn, g_Pi, nI_add, Option.bind_some, Option.map_some, Option.bind_none, Option.map_none, List.getElem?_cons_zero, List.getElem?_cons_succ, List.set_cons_zero, List.set_cons_succ, List.cons_append, List.nil_append, List.take_succ_cons, List.take_zero, List.length_cons, List.length_nil, Nat.zero_add, Nat.reduceAdd, Nat.reduceLT, if_true, if_false, Bool.false_eq_true, Bool.true_eq_false, decide_eq_true_eq, decide_true, decide_false, Bool.not_true, Bool.not_false, Option.isNone_none, Option.isNone_some, Option.isSome_none, Option.isSome_some, ite_true, ite_false, reduceIte, reduceCtorEq, and_true, true_and, eq_self, Option.some.injEq, Sum.inr.injEq, Sum.inl.injEq, Prod.mk.injEq, f_leastPrime hr, j_eq hq hq]
    · simp only [x_and, x_or, x_shl, x_shr, x_k, x_i, x_r, x_nil, x_add, x_sub, x_mul, x_div, x_rem, x_get, x_getR, x_ald, x_aldR, x_len, x_lenR, x_if, xa_nil, xa_ci, xa_cr, x_callI, x_callR, x_new, x_newa, x_newq, x_max, x_min, xc_cmp, xc_cmp0, xc_null, xc_nn, xc_not, xc_and, xc_or, xc_if, xs_skip, xs_seq, xs_decI, xs_decR, xs_setI, xs_inc, xs_if, xs_blk, xs_retI, xs_retB, xs_retR, xs_retD, xs_ret0, xs_putI, xs_putZ, xs_putR, xs_putop, xs_ast, xs_astop, xs_astR, xs_callV, xs_callP, xs_super, xs_sw, s_go_inl, s_go_inr, s_cut_inl, s_cut_inr, o_void_n, v_i_int, v_i_none, v_r_ref, v_r_null, v_r_rf, h_set_some, o_some_s, zB_ne0, zB_ite, zB_ite2, g_Vn, g_Pi, nI_add, Option.bind_some, Option.map_some, Option.bind_none, Option.map_none, List.getElem?_cons_zero, List.getElem?_cons_succ, List.set_cons_zero, List.set_cons_succ, List.cons_append, List.nil_append, List.take_succ_cons, List.take_zero, List.length_cons, List.length_nil, Nat.zero_add, Nat.reduceAdd, Nat.reduceLT, if_true, if_false, Bool.false_eq_true, Bool.true_eq_false, decide_eq_true_eq, decide_true, decide_false, Bool.not_true, Bool.not_false, Option.isNone_none, Option.isNone_some, Option.isSome_none, Option.isSome_some, ite_true, ite_false, reduceIte, reduceCtorEq, and_true, true_and, eq_self, Option.some.injEq, Sum.inr.injEq, Sum.inl.injEq, Prod.mk.injEq, f_leastPrime hr, j_eq (show k < 2 ^ 31 by omega) hq, h, f_quotient (show r < 2 ^ 31 by omega) (show lp r < 2 ^ 31 by omega), show 0 < lp r by omega]
  have key : ∀ (d r k : Nat), 1 ≤ r → r ≤ 9999 → (fac r).length = d → k + d ≤ 13 → ∀ F, d < F → (k ≤ q → q < k + d → ∃ p, (fac r)[q - k]? = some p ∧ s_wh C_X7_factorAt_1 W_X7_factorAt_1 F [.int (nI n), .int (nI q), .int (nI r), .int (nI k)] σ = some (.inl (some (.int (nI p)), σ))) ∧ (k + d ≤ q → ∃ r' k', s_wh C_X7_factorAt_1 W_X7_factorAt_1 F [.int (nI n), .int (nI q), .int (nI r), .int (nI k)] σ = some (.inr ([.int (nI n), .int (nI q), .int (nI r'), .int (nI k')], σ))) := by
    intro d
    induction d with
    | zero =>
      intro r k h1 hr he hk F hF
      obtain ⟨F, rfl⟩ : ∃ F', F = F' + 1 := ⟨F - 1, by omega⟩
      have hq : ¬ 2 ≤ r := fun h => by rw [fac_c h] at he; simp at he
      exact ⟨fun h2 h3 => by omega, fun _ => ⟨r, k, by rw [wh_F (by rw [hC r k hr (by omega), decide_eq_false (by omega)])]⟩⟩
    | succ d ih =>
      intro r k h1 hr he hk F hF
      obtain ⟨F, rfl⟩ : ∃ F', F = F' + 1 := ⟨F - 1, by omega⟩
      have hq : 2 ≤ r := by
        rcases Nat.lt_or_ge r 2 with h | h
        · rw [fac_s (by omega)] at he; simp at he
        · exact h
      have hC' := hC r k hr (by omega)
      rw [decide_eq_true (by omega)] at hC'
      have hS' := hS r k hq hr (by omega)
      by_cases e : k = q
      · rw [if_pos e] at hS'
        refine ⟨fun _ _ => ⟨lp r, ?_, by rw [wh_R hC' hS']⟩, fun h => by omega⟩
        rw [fac_c hq, e, Nat.sub_self]
        rfl
      · rw [if_neg e] at hS'
        obtain ⟨i1, i2⟩ := ih (r / lp r) (k + 1) (lp_div_pos hq) (Nat.le_trans (Nat.div_le_self _ _) hr) (by rw [fac_c hq] at he; simpa using he) (by omega) F (by omega)
        refine ⟨fun h2 h3 => ?_, fun h2 => ?_⟩
        · obtain ⟨p, j1, j2⟩ := i1 (by omega) (by omega)
          refine ⟨p, ?_, by rw [wh_T hC' hS', j2]⟩
          rw [fac_c hq, show q - k = (q - (k + 1)) + 1 by omega]
          exact j1
        · obtain ⟨r', k', j2⟩ := i2 (by omega)
          exact ⟨r', k', by rw [wh_T hC' hS', j2]⟩
  obtain ⟨i1, i2⟩ := key (fac n).length n 0 h1 hn rfl (by have := fac_le13 hn; omega) s_FUEL (by have := fac_le13 hn; unfold s_FUEL; omega)
  unfold B_X7_factorAt
  by_cases h : q < (fac n).length
  · obtain ⟨p, j1, j2⟩ := i1 (Nat.zero_le _) (by omega)
    have hw : s_while C_X7_factorAt_1 W_X7_factorAt_1 _ _ = _ := j2
    rw [Nat.sub_zero] at j1
    simp only [x_and, x_or, x_shl, x_shr, x_k, x_i, x_r, x_nil, x_add, x_sub, x_mul, x_div, x_rem, x_get, x_getR, x_ald, x_aldR, x_len, x_lenR, x_if, xa_nil, xa_ci, xa_cr, x_callI, x_callR, x_new, x_newa, x_newq, x_max, x_min, xc_cmp, xc_cmp0, xc_null, xc_nn, xc_not, xc_and, xc_or, xc_if, xs_skip, xs_seq, xs_decI, xs_decR, xs_setI, xs_inc, xs_if, xs_blk, xs_retI, xs_retB, xs_retR, xs_retD, xs_ret0, xs_putI, xs_putZ, xs_putR, xs_putop, xs_ast, xs_astop, xs_astR, xs_callV, xs_callP, xs_super, xs_sw, s_go_inl, s_go_inr, s_cut_inl, s_cut_inr, o_void_n, v_i_int, v_i_none, v_r_ref, v_r_null, v_r_rf, h_set_some, o_some_s, zB_ne0, zB_ite, zB_ite2, g_Vn, g_Pi, nI_add, Option.bind_some, Option.map_some, Option.bind_none, Option.map_none, List.getElem?_cons_zero, List.getElem?_cons_succ, List.set_cons_zero, List.set_cons_succ, List.cons_append, List.nil_append, List.take_succ_cons, List.take_zero, List.length_cons, List.length_nil, Nat.zero_add, Nat.reduceAdd, Nat.reduceLT, if_true, if_false, Bool.false_eq_true, Bool.true_eq_false, decide_eq_true_eq, decide_true, decide_false, Bool.not_true, Bool.not_false, Option.isNone_none, Option.isNone_some, Option.isSome_none, Option.isSome_some, ite_true, ite_false, reduceIte, reduceCtorEq, and_true, true_and, eq_self, Option.some.injEq, Sum.inr.injEq, Sum.inl.injEq, Prod.mk.injEq, hw, j1]
  · obtain ⟨r', k', j2⟩ := i2 (by omega)
    have hw : s_while C_X7_factorAt_1 W_X7_factorAt_1 _ _ = _ := j2
    have j1 : (fac n)[q]? = none := List.getElem?_eq_none (by omega)
    simp only [x_and, x_or, x_shl, x_shr, x_k, x_i, x_r, x_nil, x_add, x_sub, x_mul, x_div, x_rem, x_get, x_getR, x_ald, x_aldR, x_len, x_lenR, x_if, xa_nil, xa_ci, xa_cr, x_callI, x_callR, x_new, x_newa, x_newq, x_max, x_min, xc_cmp, xc_cmp0, xc_null, xc_nn, xc_not, xc_and, xc_or, xc_if, xs_skip, xs_seq, xs_decI, xs_decR, xs_setI, xs_inc, xs_if, xs_blk, xs_retI, xs_retB, xs_retR, xs_retD, xs_ret0, xs_putI, xs_putZ, xs_putR, xs_putop, xs_ast, xs_astop, xs_astR, xs_callV, xs_callP, xs_super, xs_sw, s_go_inl, s_go_inr, s_cut_inl, s_cut_inr, o_void_n, v_i_int, v_i_none, v_r_ref, v_r_null, v_r_rf, h_set_some, o_some_s, zB_ne0, zB_ite, zB_ite2, g_Vn, g_Pi, nI_add, Option.bind_some, Option.map_some, Option.bind_none, Option.map_none, List.getElem?_cons_zero, List.getElem?_cons_succ, List.set_cons_zero, List.set_cons_succ, List.cons_append, List.nil_append, List.take_succ_cons, List.take_zero, List.length_cons, List.length_nil, Nat.zero_add, Nat.reduceAdd, Nat.reduceLT, if_true, if_false, Bool.false_eq_true, Bool.true_eq_false, decide_eq_true_eq, decide_true, decide_false, Bool.not_true, Bool.not_false, Option.isNone_none, Option.isNone_some, Option.isSome_none, Option.isSome_some, ite_true, ite_false, reduceIte, reduceCtorEq, and_true, true_and, eq_self, Option.some.injEq, Sum.inr.injEq, Sum.inl.injEq, Prod.mk.injEq, hw, j1]
theorem f_gcd {a b : Nat} (ha : a < 2 ^ 31) (hb : b ≤ 9999) : M_X7_divisorByRemainders [.int (nI a), .int (nI b)] σ = some (some (.int (nI (Nat.gcd a b))), σ) := by
  refine m_eq rfl rfl ?_
  have hC : ∀ x y k : Nat, y < 2 ^ 31 → k ≤ 64 → C_X7_divisorByRemainders_1 [.int (nI a), .int (nI b), .int (nI x), .int (nI y), .int (nI k)] σ = some (decide (k < 64 ∧ ¬ y = 0), σ) := by
    intro x y k hy hk
    simp only [x_and, x_or, x_shl, x_shr, x_k, x_i, x_r, x_nil, x_add, x_sub, x_mul, x_div, x_rem, x_get, x_getR, x_ald, x_aldR, x_len, x_lenR, x_if, xa_nil, xa_ci, xa_cr, x_callI, x_callR, x_new, x_newa, x_newq, x_max, x_min, xc_cmp, xc_cmp0, xc_null, xc_nn, xc_not, xc_and, xc_or, xc_if, xs_skip, xs_seq, xs_decI, xs_decR, xs_setI, xs_inc, xs_if, xs_blk, xs_retI, xs_retB, xs_retR, xs_retD, xs_ret0, xs_putI, xs_putZ, xs_putR, xs_putop, xs_ast, xs_astop, xs_astR, xs_callV, xs_callP, xs_super, xs_sw, s_go_inl, s_go_inr, s_cut_inl, s_cut_inr, o_void_n, v_i_int, v_i_none, v_r_ref, v_r_null, v_r_rf, h_set_some, o_some_s, zB_ne0, zB_ite, zB_ite2, g_Vn, g_Pi, nI_add, Option.bind_some, Option.map_some, Option.bind_none, Option.map_none, List.getElem?_cons_zero, List.getElem?_cons_succ, List.set_cons_zero, List.set_cons_succ, List.cons_append, List.nil_append, List.take_succ_cons, List.take_zero, List.length_cons, List.length_nil, Nat.zero_add, Nat.reduceAdd, Nat.reduceLT, if_true, if_false, Bool.false_eq_true, Bool.true_eq_false, decide_eq_true_eq, decide_true, decide_false, Bool.not_true, Bool.not_false, Option.isNone_none, Option.isNone_some, Option.isSome_none, Option.isSome_some, ite_true, ite_false, reduceIte, reduceCtorEq, and_true, true_and, eq_self, Option.some.injEq, Sum.inr.injEq, Sum.inl.injEq, Prod.mk.injEq, j_lt (show k < 2 ^ 31 by omega) (show 64 < 2 ^ 31 by omega), j_ne0 hy]
    by_cases h2 : k < 64
    · simp [h2]
    · simp [h2]
  have hS : ∀ x y k : Nat, x < 2 ^ 31 → 0 < y → y < 2 ^ 31 → W_X7_divisorByRemainders_1 [.int (nI a), .int (nI b), .int (nI x), .int (nI y), .int (nI k)] σ = some (.inr ([.int (nI a), .int (nI b), .int (nI y), .int (nI (x % y)), .int (nI (k + 1))], σ)) := by
    intro x y k hx h1 hy
    simp only [x_and, x_or, x_shl, x_shr, x_k, x_i, x_r, x_nil, x_add, x_sub, x_mul, x_div, x_rem, x_get, x_getR, x_ald, x_aldR, x_len, x_lenR, x_if, xa_nil, xa_ci, xa_cr, x_callI, x_callR, x_new, x_newa, x_newq, x_max, x_min, xc_cmp, xc_cmp0, xc_null, xc_nn, xc_not, xc_and, xc_or, xc_if, xs_skip, xs_seq, xs_decI, xs_decR, xs_setI, xs_inc, xs_if, xs_blk, xs_retI, xs_retB, xs_retR, xs_retD, xs_ret0, xs_putI, xs_putZ, xs_putR, xs_putop, xs_ast, xs_astop, xs_astR, xs_callV, xs_callP, xs_super, xs_sw, s_go_inl, s_go_inr, s_cut_inl, s_cut_inr, o_void_n, v_i_int, v_i_none, v_r_ref, v_r_null, v_r_rf, h_set_some, o_some_s, zB_ne0, zB_ite, zB_ite2, g_Vn, g_Pi, nI_add, Option.bind_some, Option.map_some, Option.bind_none, Option.map_none, List.getElem?_cons_zero, List.getElem?_cons_succ, List.set_cons_zero, List.set_cons_succ, List.cons_append, List.nil_append, List.take_succ_cons, List.take_zero, List.length_cons, List.length_nil, Nat.zero_add, Nat.reduceAdd, Nat.reduceLT, if_true, if_false, Bool.false_eq_true, Bool.true_eq_false, decide_eq_true_eq, decide_true, decide_false, Bool.not_true, Bool.not_false, Option.isNone_none, Option.isNone_some, Option.isSome_none, Option.isSome_some, ite_true, ite_false, reduceIte, reduceCtorEq, and_true, true_and, eq_self, Option.some.injEq, Sum.inr.injEq, Sum.inl.injEq, Prod.mk.injEq, j_rem hx h1 hy]
  have key : ∀ (j x y k : Nat), x < 2 ^ 31 → y < 2 ^ j → y < 2 ^ 31 → k + 2 * j + 1 ≤ 64 → ∀ F, 2 * j + 1 < F → ∃ k', s_wh C_X7_divisorByRemainders_1 W_X7_divisorByRemainders_1 F [.int (nI a), .int (nI b), .int (nI x), .int (nI y), .int (nI k)] σ = some (.inr ([.int (nI a), .int (nI b), .int (nI (Nat.gcd x y)), .int (nI 0), .int (nI k')], σ)) := by
    intro j
    induction j with
    | zero =>
      intro x y k hx hy hy2 hk F hF
      obtain ⟨F, rfl⟩ : ∃ F', F = F' + 1 := ⟨F - 1, by omega⟩
      have : y = 0 := by rw [Nat.pow_zero] at hy; omega
      subst this
      exact ⟨k, by rw [wh_F (by rw [hC x 0 k hy2 (by omega), decide_eq_false (by omega)]), Nat.gcd_zero_right]⟩
    | succ j ih =>
      intro x y k hx hy hy2 hk F hF
      obtain ⟨F, rfl⟩ : ∃ F', F = F' + 1 := ⟨F - 1, by omega⟩
      by_cases h0 : y = 0
      · subst h0
        exact ⟨k, by rw [wh_F (by rw [hC x 0 k hy2 (by omega), decide_eq_false (by omega)]), Nat.gcd_zero_right]⟩
      · rw [wh_T (by rw [hC x y k hy2 (by omega), decide_eq_true ⟨by omega, h0⟩]) (hS x y k hx (by omega) hy2)]
        have hm := Nat.mod_lt x (show 0 < y by omega)
        have eg : Nat.gcd x y = Nat.gcd y (x % y) := by rw [Nat.gcd_comm x y, Nat.gcd_rec y x, Nat.gcd_comm]
        obtain ⟨F, rfl⟩ : ∃ F', F = F' + 1 := ⟨F - 1, by omega⟩
        by_cases h1 : x % y = 0
        · refine ⟨k + 1, ?_⟩
          rw [wh_F (by rw [hC y (x % y) (k + 1) (by omega) (by omega), decide_eq_false (by omega)]), eg, h1, Nat.gcd_zero_right]
        · rw [wh_T (by rw [hC y (x % y) (k + 1) (by omega) (by omega), decide_eq_true ⟨by omega, h1⟩]) (hS y (x % y) (k + 1) hy2 (by omega) (by omega))]
          have h3 := gcd_half (x := x) (y := y) (by omega) (by omega)
          have h4 : y % (x % y) < 2 ^ j := by rw [Nat.pow_succ] at hy; omega
          obtain ⟨k', h5⟩ := ih (x % y) (y % (x % y)) (k + 1 + 1) (by omega) h4 (by omega) (by omega) F (by omega)
          refine ⟨k', ?_⟩
          rw [h5, eg, Nat.gcd_comm y (x % y), Nat.gcd_rec (x % y) y, Nat.gcd_comm]
  obtain ⟨k', hk⟩ := key 14 a b 0 ha (by omega) (by omega) (by omega) s_FUEL (by unfold s_FUEL; omega)
  have hw : s_while C_X7_divisorByRemainders_1 W_X7_divisorByRemainders_1 _ _ = _ := hk
  unfold B_X7_divisorByRemainders
  simp only [x_and, x_or, x_shl, x_shr, x_k, x_i, x_r, x_nil, x_add, x_sub, x_mul, x_div, x_rem, x_get, x_getR, x_ald, x_aldR, x_len, x_lenR, x_if, xa_nil, xa_ci, xa_cr, x_callI, x_callR, x_new, x_newa, x_newq, x_max, x_min, xc_cmp, xc_cmp0, xc_null, xc_nn, xc_not, xc_and, xc_or, xc_if, xs_skip, xs_seq, xs_decI, xs_decR, xs_setI, xs_inc, xs_if, xs_blk, xs_retI, xs_retB, xs_retR, xs_retD, xs_ret0, xs_putI, xs_putZ, xs_putR, xs_putop, xs_ast, xs_astop, xs_astR, xs_callV, xs_callP, xs_super, xs_sw, s_go_inl, s_go_inr, s_cut_inl, s_cut_inr, o_void_n, v_i_int, v_i_none, v_r_ref, v_r_null, v_r_rf, h_set_some, o_some_s, zB_ne0, zB_ite, zB_ite2, g_Vn, g_Pi, nI_add, Option.bind_some, Option.map_some, Option.bind_none, Option.map_none, List.getElem?_cons_zero, List.getElem?_cons_succ, List.set_cons_zero, List.set_cons_succ, List.cons_append, List.nil_append, List.take_succ_cons, List.take_zero, List.length_cons, List.length_nil, Nat.zero_add, Nat.reduceAdd, Nat.reduceLT, if_true, if_false, Bool.false_eq_true, Bool.true_eq_false, decide_eq_true_eq, decide_true, decide_false, Bool.not_true, Bool.not_false, Option.isNone_none, Option.isNone_some, Option.isSome_none, Option.isSome_some, ite_true, ite_false, reduceIte, reduceCtorEq, and_true, true_and, eq_self, Option.some.injEq, Sum.inr.injEq, Sum.inl.injEq, Prod.mk.injEq, hw]
theorem cfac_c {x y : Nat} (h : 2 ≤ x) : cfac x y = if y % lp x = 0 then cfac (x / lp x) (y / lp x) * lp x else cfac (x / lp x) y := by rw [cfac, dif_pos h]
theorem cfac_s {x y : Nat} (h : ¬ 2 ≤ x) : cfac x y = 1 := by rw [cfac, dif_neg h]
theorem f_divisorByFactors {a b : Nat} (h1 : 1 ≤ a) (ha : a ≤ 9999) (hb : b ≤ 9999) : M_X7_divisorByFactors [.int (nI a), .int (nI b)] σ = some (some (.int (nI (cfac a b))), σ) := by
  refine m_eq rfl rfl ?_
  have hC : ∀ x y d k : Nat, x ≤ 9999 → k ≤ 13 → C_X7_divisorByFactors_1 [.int (nI a), .int (nI b), .int (nI x), .int (nI y), .int (nI d), .int (nI k)] σ = some (decide (k < 13 ∧ 1 < x), σ) := by
    intro x y d k hr hk
    simp only [x_and, x_or, x_shl, x_shr, x_k, x_i, x_r, x_nil, x_add, x_sub, x_mul, x_div, x_rem, x_get, x_getR, x_ald, x_aldR, x_len, x_lenR, x_if, xa_nil, xa_ci, xa_cr, x_callI, x_callR, x_new, x_newa, x_newq, x_max, x_min, xc_cmp, xc_cmp0, xc_null, xc_nn, xc_not, xc_and, xc_or, xc_if, xs_skip, xs_seq, xs_decI, xs_decR, xs_setI, xs_inc, xs_if, xs_blk, xs_retI, xs_retB, xs_retR, xs_retD, xs_ret0, xs_putI, xs_putZ, xs_putR, xs_putop, xs_ast, xs_astop, xs_astR, xs_callV, xs_callP, xs_super, xs_sw, s_go_inl, s_go_inr, s_cut_inl, s_cut_inr, o_void_n, v_i_int, v_i_none, v_r_ref, v_r_null, v_r_rf, h_set_some, o_some_s, zB_ne0, zB_ite, zB_ite2, g_Vn, g_Pi, nI_add, Option.bind_some, Option.map_some, Option.bind_none, Option.map_none, List.getElem?_cons_zero, List.getElem?_cons_succ, List.set_cons_zero, List.set_cons_succ, List.cons_append, List.nil_append, List.take_succ_cons, List.take_zero, List.length_cons, List.length_nil, Nat.zero_add, Nat.reduceAdd, Nat.reduceLT, if_true, if_false, Bool.false_eq_true, Bool.true_eq_false, decide_eq_true_eq, decide_true, decide_false, Bool.not_true, Bool.not_false, Option.isNone_none, Option.isNone_some, Option.isSome_none, Option.isSome_some, ite_true, ite_false, reduceIte, reduceCtorEq, and_true, true_and, eq_self, Option.some.injEq, Sum.inr.injEq, Sum.inl.injEq, Prod.mk.injEq, j_lt (show k < 2 ^ 31 by omega) (show 13 < 2 ^ 31 by omega), j_gt (show x < 2 ^ 31 by omega) (show 1 < 2 ^ 31 by omega)]
    by_cases h2 : k < 13
    · simp [h2]
    · simp [h2]
  have hS : ∀ x y d k : Nat, 2 ≤ x → x ≤ 9999 → y ≤ 9999 → W_X7_divisorByFactors_1 [.int (nI a), .int (nI b), .int (nI x), .int (nI y), .int (nI d), .int (nI k)] σ = some (.inr ([.int (nI a), .int (nI b), .int (nI (x / lp x)), .int (nI (if y % lp x = 0 then y / lp x else y)), .int (nI (if y % lp x = 0 then d * lp x else d)), .int (nI (k + 1))], σ)) := by
    intro x y d k h1 hr hy
    have h4 := lp_spec h1
    by_cases h : y % lp x = 0
    · simp only [x_and, x_or, x_shl, x_shr, x_k, x_i, x_r, x_nil, x_add, x_sub, x_mul, x_div, x_rem, x_get, x_getR, x_ald, x_aldR, x_len, x_lenR, x_if, xa_nil, xa_ci, xa_cr, x_callI, x_callR, x_new, x_newa, x_newq, x_max, x_min, xc_cmp, xc_cmp0, xc_null, xc_nn, xc_not, xc_and, xc_or, xc_if, xs_skip, xs_seq, xs_decI, xs_decR, xs_setI, xs_inc, xs_if, xs_blk, xs_retI, xs_retB, xs_retR, xs_retD, xs_ret0, xs_putI, xs_putZ, xs_putR, xs_putop, xs_ast, xs_astop, xs_astR, xs_callV, xs_callP, xs_super, xs_sw, s_go_inl, s_go_inr, s_cut_inl, s_cut_inr, o_void_n, v_i_int, v_i_none, v_r_ref, v_r_null, v_r_rf, h_set_some, o_some_s, zB_ne0, zB_ite, zB_ite2, g_Vn, g_Pi, nI_add, Option.bind_some, Option.map_some, Option.bind_none, Option.map_none, List.getElem?_cons_zero, List.getElem?_cons_succ, List.set_cons_zero, List.set_cons_succ, List.cons_append, List.nil_append, List.take_succ_cons, List.take_zero, List.length_cons, List.length_nil, Nat.zero_add, Nat.reduceAdd, Nat.reduceLT, if_true, if_false, Bool.false_eq_true, Bool.true_eq_false, decide_eq_true_eq, decide_true, decide_false, Bool.not_true, Bool.not_false, Option.isNone_none, Option.isNone_some, Option.isSome_none, Option.isSome_some, ite_true, ite_false, reduceIte, reduceCtorEq, and_true, true_and, eq_self, Option.some.injEq, Sum.inr.injEq, Sum.inl.injEq, Prod.mk.injEq, f_leastPrime hr, f_quotient (show x < 2 ^ 31 by omega) (show lp x < 2 ^ 31 by omega), f_quotient (show y < 2 ^ 31 by omega) (show lp x < 2 ^ 31 by omega), show 0 < lp x by omega, f_divides (show lp x < 2 ^ 31 by omega) (show y < 2 ^ 31 by omega), h, pk_mul]
    · simp only [x_and, x_or, x_shl, x_shr, x_k, x_i, x_r, x_nil, x_add, x_sub, x_mul, x_div, x_rem, x_get, x_getR, x_ald, x_aldR, x_len, x_lenR, x_if, xa_nil, xa_ci, xa_cr, x_callI, x_callR, x_new, x_newa, x_newq, x_max, x_min, xc_cmp, xc_cmp0, xc_null, xc_nn, xc_not, xc_and, xc_or, xc_if, xs_skip, xs_seq, xs_decI, xs_decR, xs_setI, xs_inc, xs_if, xs_blk, xs_retI, xs_retB, xs_retR, xs_retD, xs_ret0, xs_putI, xs_putZ, xs_putR, xs_putop, xs_ast, xs_astop, xs_astR, xs_callV, xs_callP, xs_super, xs_sw, s_go_inl, s_go_inr, s_cut_inl, s_cut_inr, o_void_n, v_i_int, v_i_none, v_r_ref, v_r_null, v_r_rf, h_set_some, o_some_s, zB_ne0, zB_ite, zB_ite2, g_Vn, g_Pi, nI_add, Option.bind_some, Option.map_some, Option.bind_none, Option.map_none, List.getElem?_cons_zero, List.getElem?_cons_succ, List.set_cons_zero, List.set_cons_succ, List.cons_append, List.nil_append, List.take_succ_cons, List.take_zero, List.length_cons, List.length_nil, Nat.zero_add, Nat.reduceAdd, Nat.reduceLT, if_true, if_false, Bool.false_eq_true, Bool.true_eq_false, decide_eq_true_eq, decide_true, decide_false, Bool.not_true, Bool.not_false, Option.isNone_none, Option.isNone_some, Option.isSome_none, Option.isSome_some, ite_true, ite_false, reduceIte, reduceCtorEq, and_true, true_and, eq_self, Option.some.injEq, Sum.inr.injEq, Sum.inl.injEq, Prod.mk.injEq, f_leastPrime hr, f_quotient (show x < 2 ^ 31 by omega) (show lp x < 2 ^ 31 by omega), show 0 < lp x by omega, f_divides (show lp x < 2 ^ 31 by omega) (show y < 2 ^ 31 by omega), h]
  have key : ∀ (j x y d k : Nat), 1 ≤ x → x ≤ 9999 → y ≤ 9999 → (fac x).length = j → k + j ≤ 13 → ∀ F, j < F → ∃ x' y' k', s_wh C_X7_divisorByFactors_1 W_X7_divisorByFactors_1 F [.int (nI a), .int (nI b), .int (nI x), .int (nI y), .int (nI d), .int (nI k)] σ = some (.inr ([.int (nI a), .int (nI b), .int (nI x'), .int (nI y'), .int (nI (d * cfac x y)), .int (nI k')], σ)) := by
    intro j
    induction j with
    | zero =>
      intro x y d k h1 hr hy he hk F hF
      obtain ⟨F, rfl⟩ : ∃ F', F = F' + 1 := ⟨F - 1, by omega⟩
      have hq : ¬ 2 ≤ x := fun h => by rw [fac_c h] at he; simp at he
      exact ⟨x, y, k, by rw [wh_F (by rw [hC x y d k hr (by omega), decide_eq_false (by omega)]), cfac_s hq, Nat.mul_one]⟩
    | succ j ih =>
      intro x y d k h1 hr hy he hk F hF
      obtain ⟨F, rfl⟩ : ∃ F', F = F' + 1 := ⟨F - 1, by omega⟩
      have hq : 2 ≤ x := by
        rcases Nat.lt_or_ge x 2 with h | h
        · rw [fac_s (by omega)] at he; simp at he
        · exact h
      rw [wh_T (by rw [hC x y d k hr (by omega), decide_eq_true (by omega)]) (hS x y d k hq hr hy)]
      obtain ⟨x', y', k', h5⟩ := ih (x / lp x) (if y % lp x = 0 then y / lp x else y) (if y % lp x = 0 then d * lp x else d) (k + 1) (lp_div_pos hq) (Nat.le_trans (Nat.div_le_self _ _) hr) (by split; exact Nat.le_trans (Nat.div_le_self _ _) hy; exact hy) (by rw [fac_c hq] at he; simpa using he) (by omega) F (by omega)
      refine ⟨x', y', k', ?_⟩
      rw [h5, cfac_c hq]
      by_cases h : y % lp x = 0
      · simp only [if_pos h]
        rw [Nat.mul_assoc, Nat.mul_comm (lp x)]
      · simp only [if_neg h]
  obtain ⟨x', y', k', hk⟩ := key (fac a).length a b 1 0 h1 ha hb rfl (by have := fac_le13 ha; omega) s_FUEL (by have := fac_le13 ha; unfold s_FUEL; omega)
  have hw : s_while C_X7_divisorByFactors_1 W_X7_divisorByFactors_1 _ _ = _ := hk
  rw [Nat.one_mul] at hw
  unfold B_X7_divisorByFactors
  simp only [x_and, x_or, x_shl, x_shr, x_k, x_i, x_r, x_nil, x_add, x_sub, x_mul, x_div, x_rem, x_get, x_getR, x_ald, x_aldR, x_len, x_lenR, x_if, xa_nil, xa_ci, xa_cr, x_callI, x_callR, x_new, x_newa, x_newq, x_max, x_min, xc_cmp, xc_cmp0, xc_null, xc_nn, xc_not, xc_and, xc_or, xc_if, xs_skip, xs_seq, xs_decI, xs_decR, xs_setI, xs_inc, xs_if, xs_blk, xs_retI, xs_retB, xs_retR, xs_retD, xs_ret0, xs_putI, xs_putZ, xs_putR, xs_putop, xs_ast, xs_astop, xs_astR, xs_callV, xs_callP, xs_super, xs_sw, s_go_inl, s_go_inr, s_cut_inl, s_cut_inr, o_void_n, v_i_int, v_i_none, v_r_ref, v_r_null, v_r_rf, h_set_some, o_some_s, zB_ne0, zB_ite, zB_ite2, g_Vn, g_Pi, nI_add, Option.bind_some, Option.map_some, Option.bind_none, Option.map_none, List.getElem?_cons_zero, List.getElem?_cons_succ, List.set_cons_zero, List.set_cons_succ, List.cons_append, List.nil_append, List.take_succ_cons, List.take_zero, List.length_cons, List.length_nil, Nat.zero_add, Nat.reduceAdd, Nat.reduceLT, if_true, if_false, Bool.false_eq_true, Bool.true_eq_false, decide_eq_true_eq, decide_true, decide_false, Bool.not_true, Bool.not_false, Option.isNone_none, Option.isNone_some, Option.isSome_none, Option.isSome_some, ite_true, ite_false, reduceIte, reduceCtorEq, and_true, true_and, eq_self, Option.some.injEq, Sum.inr.injEq, Sum.inl.injEq, Prod.mk.injEq, hw]
/-- the least common multiple, as both texts take it -/
def lcm2 (a b : Nat) : Nat := a / Nat.gcd a b * b
theorem gcd_pos {a b : Nat} (h : 1 ≤ a) : 0 < Nat.gcd a b := Nat.gcd_pos_of_pos_left b h
theorem gcd_le {a b : Nat} (h : 1 ≤ a) : Nat.gcd a b ≤ a := Nat.le_of_dvd h (Nat.gcd_dvd_left a b)
theorem f_multiple {a b : Nat} (h1 : 1 ≤ a) (ha : a ≤ 9999) (hb : b ≤ 9999) : M_X7_multiple [.int (nI a), .int (nI b)] σ = some (some (.int (nI (lcm2 a b))), σ) := by
  refine m_eq rfl rfl ?_
  have h2 := gcd_pos (b := b) h1
  have h3 := gcd_le (b := b) h1
  unfold B_X7_multiple
  simp only [x_and, x_or, x_shl, x_shr, x_k, x_i, x_r, x_nil, x_add, x_sub, x_mul, x_div, x_rem, x_get, x_getR, x_ald, x_aldR, x_len, x_lenR, x_if, xa_nil, xa_ci, xa_cr, x_callI, x_callR, x_new, x_newa, x_newq, x_max, x_min, xc_cmp, xc_cmp0, xc_null, xc_nn, xc_not, xc_and, xc_or, xc_if, xs_skip, xs_seq, xs_decI, xs_decR, xs_setI, xs_inc, xs_if, xs_blk, xs_retI, xs_retB, xs_retR, xs_retD, xs_ret0, xs_putI, xs_putZ, xs_putR, xs_putop, xs_ast, xs_astop, xs_astR, xs_callV, xs_callP, xs_super, xs_sw, s_go_inl, s_go_inr, s_cut_inl, s_cut_inr, o_void_n, v_i_int, v_i_none, v_r_ref, v_r_null, v_r_rf, h_set_some, o_some_s, zB_ne0, zB_ite, zB_ite2, g_Vn, g_Pi, nI_add, Option.bind_some, Option.map_some, Option.bind_none, Option.map_none, List.getElem?_cons_zero, List.getElem?_cons_succ, List.set_cons_zero, List.set_cons_succ, List.cons_append, List.nil_append, List.take_succ_cons, List.take_zero, List.length_cons, List.length_nil, Nat.zero_add, Nat.reduceAdd, Nat.reduceLT, if_true, if_false, Bool.false_eq_true, Bool.true_eq_false, decide_eq_true_eq, decide_true, decide_false, Bool.not_true, Bool.not_false, Option.isNone_none, Option.isNone_some, Option.isSome_none, Option.isSome_some, ite_true, ite_false, reduceIte, reduceCtorEq, and_true, true_and, eq_self, Option.some.injEq, Sum.inr.injEq, Sum.inl.injEq, Prod.mk.injEq, f_gcd (show a < 2 ^ 31 by omega) hb, f_quotient (show a < 2 ^ 31 by omega) (show Nat.gcd a b < 2 ^ 31 by omega), h2, pk_mul]
  rfl
/-! rows -/
theorem j_of (n : Nat) : Int32.ofNat n = nI n := rfl
theorem f_at {b n : Nat} {f : Nat → Int32} (hb : σ.1[b]? = some (.inr (.inl (n, f)))) (hn : n < 2 ^ 31) {j : Nat} (hj : j < 2 ^ 31) : M_X5_at [.ref b, .int (nI j)] σ = some (some (.int (if j < n then f j else nI 0)), σ) := by
  refine m_eq rfl rfl ?_
  unfold B_X5_at
  by_cases h : j < n
  · simp only [x_and, x_or, x_shl, x_shr, x_k, x_i, x_r, x_nil, x_add, x_sub, x_mul, x_div, x_rem, x_get, x_getR, x_ald, x_aldR, x_len, x_lenR, x_if, xa_nil, xa_ci, xa_cr, x_callI, x_callR, x_new, x_newa, x_newq, x_max, x_min, xc_cmp, xc_cmp0, xc_null, xc_nn, xc_not, xc_and, xc_or, xc_if, xs_skip, xs_seq, xs_decI, xs_decR, xs_setI, xs_inc, xs_if, xs_blk, xs_retI, xs_retB, xs_retR, xs_retD, xs_ret0, xs_putI, xs_putZ, xs_putR, xs_putop, xs_ast, xs_astop, xs_astR, xs_callV, xs_callP, xs_super, xs_sw, s_go_inl, s_go_inr, s_cut_inl, s_cut_inr, o_void_n, v_i_int, v_i_none, v_r_ref, v_r_null, v_r_rf, h_set_some, o_some_s, zB_ne0, zB_ite, zB_ite2, g_Vn, g_Pi, nI_add, Option.bind_some, Option.map_some, Option.bind_none, Option.map_none, List.getElem?_cons_zero, List.getElem?_cons_succ, List.set_cons_zero, List.set_cons_succ, List.cons_append, List.nil_append, List.take_succ_cons, List.take_zero, List.length_cons, List.length_nil, Nat.zero_add, Nat.reduceAdd, Nat.reduceLT, if_true, if_false, Bool.false_eq_true, Bool.true_eq_false, decide_eq_true_eq, decide_true, decide_false, Bool.not_true, Bool.not_false, Option.isNone_none, Option.isNone_some, Option.isSome_none, Option.isSome_some, ite_true, ite_false, reduceIte, reduceCtorEq, and_true, true_and, eq_self, Option.some.injEq, Sum.inr.injEq, Sum.inl.injEq, Prod.mk.injEq, j_ge0 hj, h_arr_eq hb, j_of, j_lt hj hn, h, h_ix_nI h (by omega)]
  · simp only [x_and, x_or, x_shl, x_shr, x_k, x_i, x_r, x_nil, x_add, x_sub, x_mul, x_div, x_rem, x_get, x_getR, x_ald, x_aldR, x_len, x_lenR, x_if, xa_nil, xa_ci, xa_cr, x_callI, x_callR, x_new, x_newa, x_newq, x_max, x_min, xc_cmp, xc_cmp0, xc_null, xc_nn, xc_not, xc_and, xc_or, xc_if, xs_skip, xs_seq, xs_decI, xs_decR, xs_setI, xs_inc, xs_if, xs_blk, xs_retI, xs_retB, xs_retR, xs_retD, xs_ret0, xs_putI, xs_putZ, xs_putR, xs_putop, xs_ast, xs_astop, xs_astR, xs_callV, xs_callP, xs_super, xs_sw, s_go_inl, s_go_inr, s_cut_inl, s_cut_inr, o_void_n, v_i_int, v_i_none, v_r_ref, v_r_null, v_r_rf, h_set_some, o_some_s, zB_ne0, zB_ite, zB_ite2, g_Vn, g_Pi, nI_add, Option.bind_some, Option.map_some, Option.bind_none, Option.map_none, List.getElem?_cons_zero, List.getElem?_cons_succ, List.set_cons_zero, List.set_cons_succ, List.cons_append, List.nil_append, List.take_succ_cons, List.take_zero, List.length_cons, List.length_nil, Nat.zero_add, Nat.reduceAdd, Nat.reduceLT, if_true, if_false, Bool.false_eq_true, Bool.true_eq_false, decide_eq_true_eq, decide_true, decide_false, Bool.not_true, Bool.not_false, Option.isNone_none, Option.isNone_some, Option.isSome_none, Option.isSome_some, ite_true, ite_false, reduceIte, reduceCtorEq, and_true, true_and, eq_self, Option.some.injEq, Sum.inr.injEq, Sum.inl.injEq, Prod.mk.injEq, j_ge0 hj, h_arr_eq hb, j_of, j_lt hj hn, h]
theorem f_atM {b n : Nat} {f : Nat → Int32} (hb : σ.1[b]? = some (.inr (.inl (n, f)))) : M_X5_at [.ref b, .int (-1)] σ = some (some (.int (nI 0)), σ) := by
  refine m_eq rfl rfl ?_
  unfold B_X5_at
  simp only [x_and, x_or, x_shl, x_shr, x_k, x_i, x_r, x_nil, x_add, x_sub, x_mul, x_div, x_rem, x_get, x_getR, x_ald, x_aldR, x_len, x_lenR, x_if, xa_nil, xa_ci, xa_cr, x_callI, x_callR, x_new, x_newa, x_newq, x_max, x_min, xc_cmp, xc_cmp0, xc_null, xc_nn, xc_not, xc_and, xc_or, xc_if, xs_skip, xs_seq, xs_decI, xs_decR, xs_setI, xs_inc, xs_if, xs_blk, xs_retI, xs_retB, xs_retR, xs_retD, xs_ret0, xs_putI, xs_putZ, xs_putR, xs_putop, xs_ast, xs_astop, xs_astR, xs_callV, xs_callP, xs_super, xs_sw, s_go_inl, s_go_inr, s_cut_inl, s_cut_inr, o_void_n, v_i_int, v_i_none, v_r_ref, v_r_null, v_r_rf, h_set_some, o_some_s, zB_ne0, zB_ite, zB_ite2, g_Vn, g_Pi, nI_add, Option.bind_some, Option.map_some, Option.bind_none, Option.map_none, List.getElem?_cons_zero, List.getElem?_cons_succ, List.set_cons_zero, List.set_cons_succ, List.cons_append, List.nil_append, List.take_succ_cons, List.take_zero, List.length_cons, List.length_nil, Nat.zero_add, Nat.reduceAdd, Nat.reduceLT, if_true, if_false, Bool.false_eq_true, Bool.true_eq_false, decide_eq_true_eq, decide_true, decide_false, Bool.not_true, Bool.not_false, Option.isNone_none, Option.isNone_some, Option.isSome_none, Option.isSome_some, ite_true, ite_false, reduceIte, reduceCtorEq, and_true, true_and, eq_self, Option.some.injEq, Sum.inr.injEq, Sum.inl.injEq, Prod.mk.injEq, show i_ge (-1) 0 = false by decide]
theorem f_put {b n : Nat} {f : Nat → Int32} (hb : σ.1[b]? = some (.inr (.inl (n, f)))) (hn : n < 2 ^ 31) {j : Nat} (hj : j < n) (v : Int32) : M_X5_put [.ref b, .int (nI j), .int v] σ = some (none, (σ.1.set b (.inr (.inl (n, upd f j v))), σ.2)) := by
  refine m_eq rfl rfl ?_
  unfold B_X5_put
  simp only [x_and, x_or, x_shl, x_shr, x_k, x_i, x_r, x_nil, x_add, x_sub, x_mul, x_div, x_rem, x_get, x_getR, x_ald, x_aldR, x_len, x_lenR, x_if, xa_nil, xa_ci, xa_cr, x_callI, x_callR, x_new, x_newa, x_newq, x_max, x_min, xc_cmp, xc_cmp0, xc_null, xc_nn, xc_not, xc_and, xc_or, xc_if, xs_skip, xs_seq, xs_decI, xs_decR, xs_setI, xs_inc, xs_if, xs_blk, xs_retI, xs_retB, xs_retR, xs_retD, xs_ret0, xs_putI, xs_putZ, xs_putR, xs_putop, xs_ast, xs_astop, xs_astR, xs_callV, xs_callP, xs_super, xs_sw, s_go_inl, s_go_inr, s_cut_inl, s_cut_inr, o_void_n, v_i_int, v_i_none, v_r_ref, v_r_null, v_r_rf, h_set_some, o_some_s, zB_ne0, zB_ite, zB_ite2, g_Vn, g_Pi, nI_add, Option.bind_some, Option.map_some, Option.bind_none, Option.map_none, List.getElem?_cons_zero, List.getElem?_cons_succ, List.set_cons_zero, List.set_cons_succ, List.cons_append, List.nil_append, List.take_succ_cons, List.take_zero, List.length_cons, List.length_nil, Nat.zero_add, Nat.reduceAdd, Nat.reduceLT, if_true, if_false, Bool.false_eq_true, Bool.true_eq_false, decide_eq_true_eq, decide_true, decide_false, Bool.not_true, Bool.not_false, Option.isNone_none, Option.isNone_some, Option.isSome_none, Option.isSome_some, ite_true, ite_false, reduceIte, reduceCtorEq, and_true, true_and, eq_self, Option.some.injEq, Sum.inr.injEq, Sum.inl.injEq, Prod.mk.injEq, j_ge0 (show j < 2 ^ 31 by omega), h_arr_eq hb, j_of, j_lt (show j < 2 ^ 31 by omega) hn, hj, h_ix_nI hj (by omega), nI_clamp (show j < 2 ^ 31 by omega)]
theorem set_same {α : Type} {l : List α} {i : Nat} {a : α} (h : l[i]? = some a) : l.set i a = l := by
  apply List.ext_getElem?
  intro j
  by_cases e : i = j
  · subst e
    rw [List.getElem?_set_self (List.getElem?_eq_some_iff.mp h).1, h]
  · rw [List.getElem?_set_ne e]
theorem f_copy {a b na nb m : Nat} {fa fb : Nat → Int32} (hab : a ≠ b) (ha : σ.1[a]? = some (.inr (.inl (na, fa)))) (hb : σ.1[b]? = some (.inr (.inl (nb, fb)))) (hna : na < 2 ^ 31) (hnb : nb < 2 ^ 31) (hma : m ≤ na) (hmb : m ≤ nb) :
    M_X5_copy [.ref a, .ref b, .int (nI m)] σ = some (none, (σ.1.set b (.inr (.inl (nb, fun i => if i < m then fa i else fb i))), σ.2)) := by
  refine m_eq rfl rfl ?_
  have hlt : b < σ.1.length := (List.getElem?_eq_some_iff.mp hb).1
  let st : Nat → List Value × sSt := fun j => ([.ref a, .ref b, .int (nI m), .int (nI j)], (σ.1.set b (.inr (.inl (nb, fun i => if i < j then fa i else fb i))), σ.2))
  have e0 : ([.ref a, .ref b, .int (nI m), .int (nI 0)], σ) = st 0 := by
    show (_, σ) = (_, (σ.1.set b _, σ.2))
    have : (fun i => if i < 0 then fa i else fb i) = fb := funext fun i => if_neg (Nat.not_lt_zero i)
    rw [this, set_same hb]
  have ha' : ∀ j, (st j).2.1[a]? = some (.inr (.inl (na, fa))) := fun j => by
    show (σ.1.set b _)[a]? = _
    rw [List.getElem?_set_ne (Ne.symm hab)]; exact ha
  have hb' : ∀ j, (st j).2.1[b]? = some (.inr (.inl (nb, fun i => if i < j then fa i else fb i))) := fun j => List.getElem?_set_self hlt
  have hw := wh_up (C := C_X5_copy_1) (S := W_X5_copy_1) st 0 m e0 (Nat.zero_le _) (by omega) (fun j _ hj => ⟨?_, ?_⟩) ?_
  · unfold B_X5_copy
    simp only [x_and, x_or, x_shl, x_shr, x_k, x_i, x_r, x_nil, x_add, x_sub, x_mul, x_div, x_rem, x_get, x_getR, x_ald, x_aldR, x_len, x_lenR, x_if, xa_nil, xa_ci, xa_cr, x_callI, x_callR, x_new, x_newa, x_newq, x_max, x_min, xc_cmp, xc_cmp0, xc_null, xc_nn, xc_not, xc_and, xc_or, xc_if, xs_skip, xs_seq, xs_decI, xs_decR, xs_setI, xs_inc, xs_if, xs_blk, xs_retI, xs_retB, xs_retR, xs_retD, xs_ret0, xs_putI, xs_putZ, xs_putR, xs_putop, xs_ast, xs_astop, xs_astR, xs_callV, xs_callP, xs_super, xs_sw, s_go_inl, s_go_inr, s_cut_inl, s_cut_inr, o_void_n, v_i_int, v_i_none, v_r_ref, v_r_null, v_r_rf, h_set_some, o_some_s, zB_ne0, zB_ite, zB_ite2, g_Vn, g_Pi, nI_add, Option.bind_some, Option.map_some, Option.bind_none, Option.map_none, List.getElem?_cons_zero, List.getElem?_cons_succ, List.set_cons_zero, List.set_cons_succ, List.cons_append, List.nil_append, List.take_succ_cons, List.take_zero, List.length_cons, List.length_nil, Nat.zero_add, Nat.reduceAdd, Nat.reduceLT, if_true, if_false, Bool.false_eq_true, Bool.true_eq_false, decide_eq_true_eq, decide_true, decide_false, Bool.not_true, Bool.not_false, Option.isNone_none, Option.isNone_some, Option.isSome_none, Option.isSome_some, ite_true, ite_false, reduceIte, reduceCtorEq, and_true, true_and, eq_self, Option.some.injEq, Sum.inr.injEq, Sum.inl.injEq, Prod.mk.injEq, hw]
    rfl
  · show C_X5_copy_1 [.ref a, .ref b, .int (nI m), .int (nI j)] (st j).2 = some (true, (st j).2)
    simp only [x_and, x_or, x_shl, x_shr, x_k, x_i, x_r, x_nil, x_add, x_sub, x_mul, x_div, x_rem, x_get, x_getR, x_ald, x_aldR, x_len, x_lenR, x_if, xa_nil, xa_ci, xa_cr, x_callI, x_callR, x_new, x_newa, x_newq, x_max, x_min, xc_cmp, xc_cmp0, xc_null, xc_nn, xc_not, xc_and, xc_or, xc_if, xs_skip, xs_seq, xs_decI, xs_decR, xs_setI, xs_inc, xs_if, xs_blk, xs_retI, xs_retB, xs_retR, xs_retD, xs_ret0, xs_putI, xs_putZ, xs_putR, xs_putop, xs_ast, xs_astop, xs_astR, xs_callV, xs_callP, xs_super, xs_sw, s_go_inl, s_go_inr, s_cut_inl, s_cut_inr, o_void_n, v_i_int, v_i_none, v_r_ref, v_r_null, v_r_rf, h_set_some, o_some_s, zB_ne0, zB_ite, zB_ite2, g_Vn, g_Pi, nI_add, Option.bind_some, Option.map_some, Option.bind_none, Option.map_none, List.getElem?_cons_zero, List.getElem?_cons_succ, List.set_cons_zero, List.set_cons_succ, List.cons_append, List.nil_append, List.take_succ_cons, List.take_zero, List.length_cons, List.length_nil, Nat.zero_add, Nat.reduceAdd, Nat.reduceLT, if_true, if_false, Bool.false_eq_true, Bool.true_eq_false, decide_eq_true_eq, decide_true, decide_false, Bool.not_true, Bool.not_false, Option.isNone_none, Option.isNone_some, Option.isSome_none, Option.isSome_some, ite_true, ite_false, reduceIte, reduceCtorEq, and_true, true_and, eq_self, Option.some.injEq, Sum.inr.injEq, Sum.inl.injEq, Prod.mk.injEq, j_lt (show j < 2 ^ 31 by omega) (show m < 2 ^ 31 by omega), hj]
  · show W_X5_copy_1 [.ref a, .ref b, .int (nI m), .int (nI j)] (st j).2 = some (.inr (st (j + 1)))
    have hf := f_at (ha' j) hna (show j < 2 ^ 31 by omega)
    rw [if_pos (by omega)] at hf
    have hp := f_put (hb' j) hnb (show j < nb by omega) (fa j)
    have v1 : ∀ k : Nat, va_rf (some k) = .ref k := fun _ => rfl
    simp only [x_and, x_or, x_shl, x_shr, x_k, x_i, x_r, x_nil, x_add, x_sub, x_mul, x_div, x_rem, x_get, x_getR, x_ald, x_aldR, x_len, x_lenR, x_if, xa_nil, xa_ci, xa_cr, x_callI, x_callR, x_new, x_newa, x_newq, x_max, x_min, xc_cmp, xc_cmp0, xc_null, xc_nn, xc_not, xc_and, xc_or, xc_if, xs_skip, xs_seq, xs_decI, xs_decR, xs_setI, xs_inc, xs_if, xs_blk, xs_retI, xs_retB, xs_retR, xs_retD, xs_ret0, xs_putI, xs_putZ, xs_putR, xs_putop, xs_ast, xs_astop, xs_astR, xs_callV, xs_callP, xs_super, xs_sw, s_go_inl, s_go_inr, s_cut_inl, s_cut_inr, o_void_n, v_i_int, v_i_none, v_r_ref, v_r_null, v_r_rf, h_set_some, o_some_s, zB_ne0, zB_ite, zB_ite2, g_Vn, g_Pi, nI_add, Option.bind_some, Option.map_some, Option.bind_none, Option.map_none, List.getElem?_cons_zero, List.getElem?_cons_succ, List.set_cons_zero, List.set_cons_succ, List.cons_append, List.nil_append, List.take_succ_cons, List.take_zero, List.length_cons, List.length_nil, Nat.zero_add, Nat.reduceAdd, Nat.reduceLT, if_true, if_false, Bool.false_eq_true, Bool.true_eq_false, decide_eq_true_eq, decide_true, decide_false, Bool.not_true, Bool.not_false, Option.isNone_none, Option.isNone_some, Option.isSome_none, Option.isSome_some, ite_true, ite_false, reduceIte, reduceCtorEq, and_true, true_and, eq_self, Option.some.injEq, Sum.inr.injEq, Sum.inl.injEq, Prod.mk.injEq, v1, hf, hp]
    show (_, ((σ.1.set b _).set b _, σ.2)) = (_, (σ.1.set b _, σ.2))
    rw [List.set_set]
    have : upd (fun i => if i < j then fa i else fb i) j (fa j) = fun i => if i < j + 1 then fa i else fb i := by
      funext i
      unfold upd
      by_cases h : i = j
      · subst h; simp
      · by_cases h2 : i < j
        · simp [h, h2, show i < j + 1 by omega]
        · simp [h, h2, show ¬ i < j + 1 by omega]
    rw [this]
  · show C_X5_copy_1 [.ref a, .ref b, .int (nI m), .int (nI m)] (st m).2 = some (false, (st m).2)
    simp only [x_and, x_or, x_shl, x_shr, x_k, x_i, x_r, x_nil, x_add, x_sub, x_mul, x_div, x_rem, x_get, x_getR, x_ald, x_aldR, x_len, x_lenR, x_if, xa_nil, xa_ci, xa_cr, x_callI, x_callR, x_new, x_newa, x_newq, x_max, x_min, xc_cmp, xc_cmp0, xc_null, xc_nn, xc_not, xc_and, xc_or, xc_if, xs_skip, xs_seq, xs_decI, xs_decR, xs_setI, xs_inc, xs_if, xs_blk, xs_retI, xs_retB, xs_retR, xs_retD, xs_ret0, xs_putI, xs_putZ, xs_putR, xs_putop, xs_ast, xs_astop, xs_astR, xs_callV, xs_callP, xs_super, xs_sw, s_go_inl, s_go_inr, s_cut_inl, s_cut_inr, o_void_n, v_i_int, v_i_none, v_r_ref, v_r_null, v_r_rf, h_set_some, o_some_s, zB_ne0, zB_ite, zB_ite2, g_Vn, g_Pi, nI_add, Option.bind_some, Option.map_some, Option.bind_none, Option.map_none, List.getElem?_cons_zero, List.getElem?_cons_succ, List.set_cons_zero, List.set_cons_succ, List.cons_append, List.nil_append, List.take_succ_cons, List.take_zero, List.length_cons, List.length_nil, Nat.zero_add, Nat.reduceAdd, Nat.reduceLT, if_true, if_false, Bool.false_eq_true, Bool.true_eq_false, decide_eq_true_eq, decide_true, decide_false, Bool.not_true, Bool.not_false, Option.isNone_none, Option.isNone_some, Option.isSome_none, Option.isSome_some, ite_true, ite_false, reduceIte, reduceCtorEq, and_true, true_and, eq_self, Option.some.injEq, Sum.inr.injEq, Sum.inl.injEq, Prod.mk.injEq, j_lt (show m < 2 ^ 31 by omega) (show m < 2 ^ 31 by omega), Nat.lt_irrefl]
end
