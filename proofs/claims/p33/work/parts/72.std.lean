/-! Stairs (own work): its deeds at any arguments, as the pictures tell them; the first accounts and stairs -/
theorem StAt.eff {σ : sSt} {a p c : Nat} {S : tS} (h : StAt σ a p c S) : EffS σ σ a p c p c := by
  obtain ⟨-, ⟨ps, hA, -⟩, -⟩ := h
  obtain ⟨e1, e2, e3, e4, e5, e6⟩ := hA.rf
  exact ⟨Keep.rf, e2, e3, e4, e5, e6⟩
theorem StAt.eff1 {σ σ' : sSt} {a p c : Nat} {S : tS} (h : StAt σ a p c S) (m : Keep σ σ' (fun k => k = a ∨ k = a + 1)) (l : σ'.1.length = σ.1.length) (n : σ'.2 = σ.2) : EffS σ σ' a p c p c := h.eff.after m l n
theorem nlt_ge (a b : Int32) : i_lt a b = !i_ge a b := by
  unfold i_lt i_ge
  rw [← decide_not]
  exact decide_eq_decide.mpr (Int32.not_le).symm
theorem ngt_le (a b : Int32) : i_gt a b = !i_le a b := by
  unfold i_gt i_le
  rw [← decide_not]
  exact decide_eq_decide.mpr (Int32.not_le).symm
section
variable {σ : sSt} {a p c : Nat} {S : tS}
theorem f_hasB (h : StO σ a S) (x : Int32) : M_X6_has [.ref a, .int x] σ = some (some (.int (zB (stB S x))), σ) := by
  refine mV_eq h.2.1 rfl rfl ?_
  unfold B_X6_has stB
  have e : i_ge x 0 = i_ge x (nI 0) := rfl
  cases c : i_ge x (nI 0) with
  | false =>
    rw [c] at e
    simp only [x_and, x_or, x_shl, x_shr, x_k, x_i, x_r, x_nil, x_add, x_sub, x_mul, x_div, x_rem, x_get, x_getR, x_ald, x_aldR, x_len, x_lenR, x_if, xa_nil, xa_ci, xa_cr, x_callI, x_callR, x_new, x_newa, x_newq, x_max, x_min, xc_cmp, xc_cmp0, xc_null, xc_nn, xc_not, xc_and, xc_or, xc_if, xs_skip, xs_seq, xs_decI, xs_decR, xs_setI, xs_inc, xs_if, xs_blk, xs_retI, xs_retB, xs_retR, xs_retD, xs_ret0, xs_putI, xs_putZ, xs_putR, xs_putop, xs_ast, xs_astop, xs_astR, xs_callV, xs_callP, xs_super, xs_sw, s_go_inl, s_go_inr, s_cut_inl, s_cut_inr, o_void_n, v_i_int, v_i_none, v_r_ref, v_r_null, v_r_rf, h_set_some, o_some_s, zB_ne0, zB_ite, zB_ite2, g_Vn, g_Pi, nI_add, Option.bind_some, Option.map_some, Option.bind_none, Option.map_none, List.getElem?_cons_zero, List.getElem?_cons_succ, List.set_cons_zero, List.set_cons_succ, List.cons_append, List.nil_append, List.take_succ_cons, List.take_zero, List.length_cons, List.length_nil, Nat.zero_add, Nat.reduceAdd, Nat.reduceLT, if_true, if_false, Bool.false_eq_true, Bool.true_eq_false, decide_eq_true_eq, decide_true, decide_false, Bool.not_true, Bool.not_false, Option.isNone_none, Option.isNone_some, Option.isSome_none, Option.isSome_some, ite_true, ite_false, reduceIte, reduceCtorEq, and_true, true_and, eq_self, Option.some.injEq, Sum.inr.injEq, Sum.inl.injEq, Prod.mk.injEq, h_obj_eq h.2.1, e, Bool.false_and]
  | true =>
    rw [c] at e
    simp only [x_and, x_or, x_shl, x_shr, x_k, x_i, x_r, x_nil, x_add, x_sub, x_mul, x_div, x_rem, x_get, x_getR, x_ald, x_aldR, x_len, x_lenR, x_if, xa_nil, xa_ci, xa_cr, x_callI, x_callR, x_new, x_newa, x_newq, x_max, x_min, xc_cmp, xc_cmp0, xc_null, xc_nn, xc_not, xc_and, xc_or, xc_if, xs_skip, xs_seq, xs_decI, xs_decR, xs_setI, xs_inc, xs_if, xs_blk, xs_retI, xs_retB, xs_retR, xs_retD, xs_ret0, xs_putI, xs_putZ, xs_putR, xs_putop, xs_ast, xs_astop, xs_astR, xs_callV, xs_callP, xs_super, xs_sw, s_go_inl, s_go_inr, s_cut_inl, s_cut_inr, o_void_n, v_i_int, v_i_none, v_r_ref, v_r_null, v_r_rf, h_set_some, o_some_s, zB_ne0, zB_ite, zB_ite2, g_Vn, g_Pi, nI_add, Option.bind_some, Option.map_some, Option.bind_none, Option.map_none, List.getElem?_cons_zero, List.getElem?_cons_succ, List.set_cons_zero, List.set_cons_succ, List.cons_append, List.nil_append, List.take_succ_cons, List.take_zero, List.length_cons, List.length_nil, Nat.zero_add, Nat.reduceAdd, Nat.reduceLT, if_true, if_false, Bool.false_eq_true, Bool.true_eq_false, decide_eq_true_eq, decide_true, decide_false, Bool.not_true, Bool.not_false, Option.isNone_none, Option.isNone_some, Option.isSome_none, Option.isSome_some, ite_true, ite_false, reduceIte, reduceCtorEq, and_true, true_and, eq_self, Option.some.injEq, Sum.inr.injEq, Sum.inl.injEq, Prod.mk.injEq, not_true_eq_false, not_false_eq_true, Bool.decide_eq_true, n0_ne, n1_ne, xz_ret, zb_if, n1_if, n0_if, v_rf, h_ix_nI, nI_clamp, zB_t, zB_f, uN_uN, uN_ap, Nat.reduceEqDiff, Nat.reduceMul, Nat.reduceSub, h_obj_eq h.2.1, e, Bool.true_and]
theorem f_putD (h : StAt σ a p c S) (x y : Int32) : ∃ σ' p' c', M_X6_putIn [.ref a, .int x, .int y] σ = some (some (.int (dAdd S x y).1), σ') ∧ StAt σ' a p' c' (dAdd S x y).2 ∧ EffS σ σ' a p c p' c' := by
  have hl := h.1.1.1
  have no : M_X6_putIn [.ref a, .int x, .int y] σ = some (some (.int (-1)), σ) → (inB x (nI 0) (nI S.1.length) && inB y (nI 1) (nI 9999)) = false → ∃ σ' p' c', M_X6_putIn [.ref a, .int x, .int y] σ = some (some (.int (dAdd S x y).1), σ') ∧ StAt σ' a p' c' (dAdd S x y).2 ∧ EffS σ σ' a p c p' c' := fun r e => by
    have e2 : dAdd S x y = (-1, S) := if_neg (by rw [e]; exact Bool.false_ne_true)
    rw [e2]
    exact ⟨σ, p, c, r, h, h.eff⟩
  rcases i_two x with hx | ⟨i, hi, rfl⟩
  · exact no (f_putNeg h.1 hx) (by
      unfold inB
      rw [show i_ge x (nI 0) = i_ge x 0 from rfl, (j_neg hx (n := 0) (by omega)).1]
      rfl)
  · rcases i_two y with hy | ⟨k, hk, rfl⟩
    · have hn := j_neg hy (n := 1) (by omega)
      have e : inB y (nI 1) (nI 9999) = false := by
        unfold inB
        rw [hn.2.2.2.1]
        rfl
      refine no ?_ (by rw [e, Bool.and_false])
      have num : M_X7_isNumber [.int y] σ = some (some (.int (zB false)), σ) := by
        refine m_eq rfl rfl ?_
        unfold B_X7_isNumber
        simp only [x_and, x_or, x_shl, x_shr, x_k, x_i, x_r, x_nil, x_add, x_sub, x_mul, x_div, x_rem, x_get, x_getR, x_ald, x_aldR, x_len, x_lenR, x_if, xa_nil, xa_ci, xa_cr, x_callI, x_callR, x_new, x_newa, x_newq, x_max, x_min, xc_cmp, xc_cmp0, xc_null, xc_nn, xc_not, xc_and, xc_or, xc_if, xs_skip, xs_seq, xs_decI, xs_decR, xs_setI, xs_inc, xs_if, xs_blk, xs_retI, xs_retB, xs_retR, xs_retD, xs_ret0, xs_putI, xs_putZ, xs_putR, xs_putop, xs_ast, xs_astop, xs_astR, xs_callV, xs_callP, xs_super, xs_sw, s_go_inl, s_go_inr, s_cut_inl, s_cut_inr, o_void_n, v_i_int, v_i_none, v_r_ref, v_r_null, v_r_rf, h_set_some, o_some_s, zB_ne0, zB_ite, zB_ite2, g_Vn, g_Pi, nI_add, Option.bind_some, Option.map_some, Option.bind_none, Option.map_none, List.getElem?_cons_zero, List.getElem?_cons_succ, List.set_cons_zero, List.set_cons_succ, List.cons_append, List.nil_append, List.take_succ_cons, List.take_zero, List.length_cons, List.length_nil, Nat.zero_add, Nat.reduceAdd, Nat.reduceLT, if_true, if_false, Bool.false_eq_true, Bool.true_eq_false, decide_eq_true_eq, decide_true, decide_false, Bool.not_true, Bool.not_false, Option.isNone_none, Option.isNone_some, Option.isSome_none, Option.isSome_some, ite_true, ite_false, reduceIte, reduceCtorEq, and_true, true_and, eq_self, Option.some.injEq, Sum.inr.injEq, Sum.inl.injEq, Prod.mk.injEq, hn.2.2.2.1]
      refine mV_eq h.1.2.1 rfl rfl ?_
      unfold B_X6_putIn
      by_cases c : S.1.length < i
      · simp (disch := omega) only [x_and, x_or, x_shl, x_shr, x_k, x_i, x_r, x_nil, x_add, x_sub, x_mul, x_div, x_rem, x_get, x_getR, x_ald, x_aldR, x_len, x_lenR, x_if, xa_nil, xa_ci, xa_cr, x_callI, x_callR, x_new, x_newa, x_newq, x_max, x_min, xc_cmp, xc_cmp0, xc_null, xc_nn, xc_not, xc_and, xc_or, xc_if, xs_skip, xs_seq, xs_decI, xs_decR, xs_setI, xs_inc, xs_if, xs_blk, xs_retI, xs_retB, xs_retR, xs_retD, xs_ret0, xs_putI, xs_putZ, xs_putR, xs_putop, xs_ast, xs_astop, xs_astR, xs_callV, xs_callP, xs_super, xs_sw, s_go_inl, s_go_inr, s_cut_inl, s_cut_inr, o_void_n, v_i_int, v_i_none, v_r_ref, v_r_null, v_r_rf, h_set_some, o_some_s, zB_ne0, zB_ite, zB_ite2, g_Vn, g_Pi, nI_add, Option.bind_some, Option.map_some, Option.bind_none, Option.map_none, List.getElem?_cons_zero, List.getElem?_cons_succ, List.set_cons_zero, List.set_cons_succ, List.cons_append, List.nil_append, List.take_succ_cons, List.take_zero, List.length_cons, List.length_nil, Nat.zero_add, Nat.reduceAdd, Nat.reduceLT, if_true, if_false, Bool.false_eq_true, Bool.true_eq_false, decide_eq_true_eq, decide_true, decide_false, Bool.not_true, Bool.not_false, Option.isNone_none, Option.isNone_some, Option.isSome_none, Option.isSome_some, ite_true, ite_false, reduceIte, reduceCtorEq, and_true, true_and, eq_self, Option.some.injEq, Sum.inr.injEq, Sum.inl.injEq, Prod.mk.injEq, j_lt0, h_obj_eq h.1.2.1, j_gt, c]
      · simp (disch := omega) only [x_and, x_or, x_shl, x_shr, x_k, x_i, x_r, x_nil, x_add, x_sub, x_mul, x_div, x_rem, x_get, x_getR, x_ald, x_aldR, x_len, x_lenR, x_if, xa_nil, xa_ci, xa_cr, x_callI, x_callR, x_new, x_newa, x_newq, x_max, x_min, xc_cmp, xc_cmp0, xc_null, xc_nn, xc_not, xc_and, xc_or, xc_if, xs_skip, xs_seq, xs_decI, xs_decR, xs_setI, xs_inc, xs_if, xs_blk, xs_retI, xs_retB, xs_retR, xs_retD, xs_ret0, xs_putI, xs_putZ, xs_putR, xs_putop, xs_ast, xs_astop, xs_astR, xs_callV, xs_callP, xs_super, xs_sw, s_go_inl, s_go_inr, s_cut_inl, s_cut_inr, o_void_n, v_i_int, v_i_none, v_r_ref, v_r_null, v_r_rf, h_set_some, o_some_s, zB_ne0, zB_ite, zB_ite2, g_Vn, g_Pi, nI_add, Option.bind_some, Option.map_some, Option.bind_none, Option.map_none, List.getElem?_cons_zero, List.getElem?_cons_succ, List.set_cons_zero, List.set_cons_succ, List.cons_append, List.nil_append, List.take_succ_cons, List.take_zero, List.length_cons, List.length_nil, Nat.zero_add, Nat.reduceAdd, Nat.reduceLT, if_true, if_false, Bool.false_eq_true, Bool.true_eq_false, decide_eq_true_eq, decide_true, decide_false, Bool.not_true, Bool.not_false, Option.isNone_none, Option.isNone_some, Option.isSome_none, Option.isSome_some, ite_true, ite_false, reduceIte, reduceCtorEq, and_true, true_and, eq_self, Option.some.injEq, Sum.inr.injEq, Sum.inl.injEq, Prod.mk.injEq, j_lt0, h_obj_eq h.1.2.1, j_gt, c, num]
    · have e1 : inB (nI i) (nI 0) (nI S.1.length) = decide (i ≤ S.1.length) := by
        rw [inB_n hi (by omega) (by omega), decide_eq_true (Nat.zero_le i), Bool.true_and]
      have e2 : inB (nI k) (nI 1) (nI 9999) = (decide (1 ≤ k) && decide (k ≤ 9999)) := inB_n hk (by omega) (by omega)
      by_cases g : i ≤ S.1.length ∧ 1 ≤ k ∧ k ≤ 9999
      · have e3 : (inB (nI i) (nI 0) (nI S.1.length) && inB (nI k) (nI 1) (nI 9999)) = true := by
          rw [e1, e2, decide_eq_true g.1, decide_eq_true g.2.1, decide_eq_true g.2.2]
          rfl
        by_cases c12 : S.1.length = 12
        · have e4 : dAdd S (nI i) (nI k) = (-3, S) := by
            unfold dAdd
            rw [if_pos e3, if_pos c12]
          rw [e4]
          exact ⟨σ, p, c, f_putFull h.1 g.1 g.2 (by omega), h, h.eff⟩
        · have e4 : dAdd S (nI i) (nI k) = (nI (S.1.length + 1), S.1.insertIdx i k, S.2) := by
            unfold dAdd
            rw [if_pos e3, if_neg c12, nN_n hi, nN_n hk]
          rw [e4]
          exact f_putIn h g.1 g.2 (by omega)
      · refine no (f_putNo h.1 hi hk g) ?_
        rw [e1, e2, ← Bool.decide_and, ← Bool.decide_and]
        exact decide_eq_false g
theorem f_takeD (h : StAt σ a p c S) (x : Int32) : ∃ σ' p' c', M_X6_takeOff [.ref a, .int x] σ = some (some (.int (dTake S x).1), σ') ∧ StAt σ' a p' c' (dTake S x).2 ∧ EffS σ σ' a p c p' c' := by
  have hl := h.1.1.1
  have hb := f_hasB h.1 x
  unfold dTake
  cases d : stB S x with
  | false =>
    rw [d] at hb
    exact ⟨σ, p, c, f_takeOffOff h.1 hb, h, h.eff⟩
  | true =>
    obtain ⟨i, hi, rfl⟩ := stB_t h.1.1 d
    rw [if_pos rfl, nN_n (by omega)]
    exact f_takeOff h hi
theorem f_shareD (h : StAt σ a p c S) (x : Int32) : ∃ σ' p' c', M_X6_shareAt [.ref a, .int x] σ = some (some (.int (dShare S x).1), σ') ∧ StAt σ' a p' c' (dShare S x).2 ∧ EffS σ σ' a p c p' c' := by
  have hl := h.1.1.1
  have hb := f_hasB h.1 x
  unfold dShare
  cases e : s2B S x with
  | true =>
    obtain ⟨i, hi, rfl⟩ := s2B_t h.1.1 e
    rw [if_pos rfl, nN_n (by omega)]
    by_cases g : 9999 < lcm2 (sN S i) (sN S (i + 1))
    · rw [if_pos g]
      exact ⟨σ, p, c, f_shareBig h.1 hi g, h, h.eff⟩
    · rw [if_neg g]
      obtain ⟨σ', r, t, m, l, n⟩ := f_shareAt h hi (by omega)
      exact ⟨σ', p, c, r, t, h.eff1 (m.mono (fun _ _ z => Or.inr z)) l n⟩
  | false =>
    rw [if_neg Bool.false_ne_true]
    refine ⟨σ, p, c, ?_, h, h.eff⟩
    cases d : stB S x with
    | false =>
      rw [d] at hb
      exact f_shareOff h.1 hb
    | true =>
      obtain ⟨i, hi, rfl⟩ := stB_t h.1.1 d
      rw [s2B_n h.1.1 (by omega)] at e
      exact f_shareNo h.1 (by omega) (of_decide_eq_false e)
theorem f_divideD (h : StAt σ a p c S) (x : Int32) : ∃ σ' p' c', M_X6_divideAt [.ref a, .int x] σ = some (some (.int (dDivide S x).1), σ') ∧ StAt σ' a p' c' (dDivide S x).2 ∧ EffS σ σ' a p c p' c' := by
  have hl := h.1.1.1
  have hb := f_hasB h.1 x
  unfold dDivide
  cases e : s2B S x with
  | true =>
    obtain ⟨i, hi, rfl⟩ := s2B_t h.1.1 e
    rw [if_pos rfl, nN_n (by omega)]
    by_cases g : sN S (i + 1) % sN S i = 0
    · rw [if_pos g]
      exact f_divideAt h hi g
    · rw [if_neg g]
      exact ⟨σ, p, c, f_divideNot h.1 hi g, h, h.eff⟩
  | false =>
    rw [if_neg Bool.false_ne_true]
    refine ⟨σ, p, c, ?_, h, h.eff⟩
    cases d : stB S x with
    | false =>
      rw [d] at hb
      exact f_divideOff h.1 hb
    | true =>
      obtain ⟨i, hi, rfl⟩ := stB_t h.1.1 d
      rw [s2B_n h.1.1 (by omega)] at e
      exact f_divideNo h.1 (by omega) (of_decide_eq_false e)
theorem f_isPrimeB (x : Int32) : M_X7_isPrime [.int x] σ = some (some (.int (zB (prI x))), σ) := by
  rcases i_two x with hx | ⟨q, hq, rfl⟩
  · have hn := j_neg hx (n := 2) (by omega)
    have e : prI x = false := by
      unfold prI
      rw [show i_ge x (nI 0) = i_ge x 0 from rfl, hn.1]
      rfl
    rw [e]
    refine m_eq rfl rfl ?_
    unfold B_X7_isPrime
    simp only [x_and, x_or, x_shl, x_shr, x_k, x_i, x_r, x_nil, x_add, x_sub, x_mul, x_div, x_rem, x_get, x_getR, x_ald, x_aldR, x_len, x_lenR, x_if, xa_nil, xa_ci, xa_cr, x_callI, x_callR, x_new, x_newa, x_newq, x_max, x_min, xc_cmp, xc_cmp0, xc_null, xc_nn, xc_not, xc_and, xc_or, xc_if, xs_skip, xs_seq, xs_decI, xs_decR, xs_setI, xs_inc, xs_if, xs_blk, xs_retI, xs_retB, xs_retR, xs_retD, xs_ret0, xs_putI, xs_putZ, xs_putR, xs_putop, xs_ast, xs_astop, xs_astR, xs_callV, xs_callP, xs_super, xs_sw, s_go_inl, s_go_inr, s_cut_inl, s_cut_inr, o_void_n, v_i_int, v_i_none, v_r_ref, v_r_null, v_r_rf, h_set_some, o_some_s, zB_ne0, zB_ite, zB_ite2, g_Vn, g_Pi, nI_add, Option.bind_some, Option.map_some, Option.bind_none, Option.map_none, List.getElem?_cons_zero, List.getElem?_cons_succ, List.set_cons_zero, List.set_cons_succ, List.cons_append, List.nil_append, List.take_succ_cons, List.take_zero, List.length_cons, List.length_nil, Nat.zero_add, Nat.reduceAdd, Nat.reduceLT, if_true, if_false, Bool.false_eq_true, Bool.true_eq_false, decide_eq_true_eq, decide_true, decide_false, Bool.not_true, Bool.not_false, Option.isNone_none, Option.isNone_some, Option.isSome_none, Option.isSome_some, ite_true, ite_false, reduceIte, reduceCtorEq, and_true, true_and, eq_self, Option.some.injEq, Sum.inr.injEq, Sum.inl.injEq, Prod.mk.injEq, hn.2.2.2.1]
  · have e : prI (nI q) = decide (2 ≤ q ∧ q ≤ 9999 ∧ lp q = q) := by
      unfold prI
      rw [j_ge (a := q) (b := 0) hq (by omega), decide_eq_true (Nat.zero_le q), Bool.true_and, nN_n hq]
      rfl
    rw [e]
    exact f_isPrime hq
theorem f_strikeD (h : StAt σ a p c S) (x y : Int32) : ∃ σ' p' c', M_X6_strikeBy [.ref a, .int x, .int y] σ = some (some (.int (dStrike S x y).1), σ') ∧ StAt σ' a p' c' (dStrike S x y).2 ∧ EffS σ σ' a p c p' c' := by
  have hl := h.1.1.1
  have hb := f_hasB h.1 x
  have hp := f_isPrimeB (σ := σ) y
  unfold dStrike
  cases d : stB S x with
  | false =>
    rw [d] at hb
    rw [Bool.false_and, if_neg Bool.false_ne_true]
    exact ⟨σ, p, c, f_strikeOff h.1 hb, h, h.eff⟩
  | true =>
    rw [d] at hb
    rw [Bool.true_and]
    cases e : prI y with
    | false =>
      rw [e] at hp
      rw [if_neg Bool.false_ne_true]
      refine ⟨σ, p, c, mV_eq h.1.2.1 rfl rfl ?_, h, h.eff⟩
      unfold B_X6_strikeBy
      simp only [x_and, x_or, x_shl, x_shr, x_k, x_i, x_r, x_nil, x_add, x_sub, x_mul, x_div, x_rem, x_get, x_getR, x_ald, x_aldR, x_len, x_lenR, x_if, xa_nil, xa_ci, xa_cr, x_callI, x_callR, x_new, x_newa, x_newq, x_max, x_min, xc_cmp, xc_cmp0, xc_null, xc_nn, xc_not, xc_and, xc_or, xc_if, xs_skip, xs_seq, xs_decI, xs_decR, xs_setI, xs_inc, xs_if, xs_blk, xs_retI, xs_retB, xs_retR, xs_retD, xs_ret0, xs_putI, xs_putZ, xs_putR, xs_putop, xs_ast, xs_astop, xs_astR, xs_callV, xs_callP, xs_super, xs_sw, s_go_inl, s_go_inr, s_cut_inl, s_cut_inr, o_void_n, v_i_int, v_i_none, v_r_ref, v_r_null, v_r_rf, h_set_some, o_some_s, zB_ne0, zB_ite, zB_ite2, g_Vn, g_Pi, nI_add, Option.bind_some, Option.map_some, Option.bind_none, Option.map_none, List.getElem?_cons_zero, List.getElem?_cons_succ, List.set_cons_zero, List.set_cons_succ, List.cons_append, List.nil_append, List.take_succ_cons, List.take_zero, List.length_cons, List.length_nil, Nat.zero_add, Nat.reduceAdd, Nat.reduceLT, if_true, if_false, Bool.false_eq_true, Bool.true_eq_false, decide_eq_true_eq, decide_true, decide_false, Bool.not_true, Bool.not_false, Option.isNone_none, Option.isNone_some, Option.isSome_none, Option.isSome_some, ite_true, ite_false, reduceIte, reduceCtorEq, and_true, true_and, eq_self, Option.some.injEq, Sum.inr.injEq, Sum.inl.injEq, Prod.mk.injEq, not_true_eq_false, not_false_eq_true, Bool.decide_eq_true, n0_ne, n1_ne, xz_ret, zb_if, n1_if, n0_if, v_rf, h_ix_nI, nI_clamp, zB_t, zB_f, uN_uN, uN_ap, Nat.reduceEqDiff, Nat.reduceMul, Nat.reduceSub, hb, hp]
    | true =>
      obtain ⟨i, hi, rfl⟩ := stB_t h.1.1 d
      obtain ⟨q, hq, h9, rfl⟩ := prI_t e
      rw [if_pos rfl, nN_n (by omega), nN_n (by omega)]
      by_cases g : sN S i % q = 0
      · rw [if_pos g]
        exact f_strikeBy h hi (prB_t hq h9) g
      · rw [if_neg g]
        exact ⟨σ, p, c, f_strikeNot h.1 hi (prB_t hq h9) g, h, h.eff⟩
theorem f_setD (h : StAt σ a p c S) (x y : Int32) : ∃ σ' p' c', M_X6_changeSetting [.ref a, .int x, .int y] σ = some (some (.int (dSet S x y).1), σ') ∧ StAt σ' a p' c' (dSet S x y).2 ∧ EffS σ σ' a p c p' c' := by
  have hl := h.1.1.1
  unfold dSet
  by_cases x0 : x = nI 0
  · subst x0
    have e1 : i_eq (nI 0) (nI 0) = true := by decide
    have e1' : i_eq (nI 0) 0 = true := by decide
    have e2 : i_eq (nI 0) (nI 1) = false := by decide
    rw [e1, e2, Bool.true_and, Bool.false_and]
    cases d : inB y (nI 0) (nI 2) with
    | true =>
      obtain ⟨v, -, hv, rfl⟩ := inB_t (by omega) (by omega) d
      rw [if_pos rfl, nN_n (by omega)]
      obtain ⟨σ', r, t, m, l, n⟩ := f_setRule h hv
      exact ⟨σ', p, c, r, t, h.eff1 (m.mono (fun _ _ z => Or.inl z)) l n⟩
    | false =>
      rw [if_neg Bool.false_ne_true, if_neg Bool.false_ne_true]
      refine ⟨σ, p, c, mV_eq h.1.2.1 rfl rfl ?_, h, h.eff⟩
      unfold inB at d
      unfold B_X6_changeSetting
      cases g : i_ge y (nI 0) with
      | false =>
        have g' : i_ge y 0 = false := g
        simp only [x_and, x_or, x_shl, x_shr, x_k, x_i, x_r, x_nil, x_add, x_sub, x_mul, x_div, x_rem, x_get, x_getR, x_ald, x_aldR, x_len, x_lenR, x_if, xa_nil, xa_ci, xa_cr, x_callI, x_callR, x_new, x_newa, x_newq, x_max, x_min, xc_cmp, xc_cmp0, xc_null, xc_nn, xc_not, xc_and, xc_or, xc_if, xs_skip, xs_seq, xs_decI, xs_decR, xs_setI, xs_inc, xs_if, xs_blk, xs_retI, xs_retB, xs_retR, xs_retD, xs_ret0, xs_putI, xs_putZ, xs_putR, xs_putop, xs_ast, xs_astop, xs_astR, xs_callV, xs_callP, xs_super, xs_sw, s_go_inl, s_go_inr, s_cut_inl, s_cut_inr, o_void_n, v_i_int, v_i_none, v_r_ref, v_r_null, v_r_rf, h_set_some, o_some_s, zB_ne0, zB_ite, zB_ite2, g_Vn, g_Pi, nI_add, Option.bind_some, Option.map_some, Option.bind_none, Option.map_none, List.getElem?_cons_zero, List.getElem?_cons_succ, List.set_cons_zero, List.set_cons_succ, List.cons_append, List.nil_append, List.take_succ_cons, List.take_zero, List.length_cons, List.length_nil, Nat.zero_add, Nat.reduceAdd, Nat.reduceLT, if_true, if_false, Bool.false_eq_true, Bool.true_eq_false, decide_eq_true_eq, decide_true, decide_false, Bool.not_true, Bool.not_false, Option.isNone_none, Option.isNone_some, Option.isSome_none, Option.isSome_some, ite_true, ite_false, reduceIte, reduceCtorEq, and_true, true_and, eq_self, Option.some.injEq, Sum.inr.injEq, Sum.inl.injEq, Prod.mk.injEq, e1', e2, g']
      | true =>
        rw [g, Bool.true_and] at d
        have g' : i_ge y 0 = true := g
        simp only [x_and, x_or, x_shl, x_shr, x_k, x_i, x_r, x_nil, x_add, x_sub, x_mul, x_div, x_rem, x_get, x_getR, x_ald, x_aldR, x_len, x_lenR, x_if, xa_nil, xa_ci, xa_cr, x_callI, x_callR, x_new, x_newa, x_newq, x_max, x_min, xc_cmp, xc_cmp0, xc_null, xc_nn, xc_not, xc_and, xc_or, xc_if, xs_skip, xs_seq, xs_decI, xs_decR, xs_setI, xs_inc, xs_if, xs_blk, xs_retI, xs_retB, xs_retR, xs_retD, xs_ret0, xs_putI, xs_putZ, xs_putR, xs_putop, xs_ast, xs_astop, xs_astR, xs_callV, xs_callP, xs_super, xs_sw, s_go_inl, s_go_inr, s_cut_inl, s_cut_inr, o_void_n, v_i_int, v_i_none, v_r_ref, v_r_null, v_r_rf, h_set_some, o_some_s, zB_ne0, zB_ite, zB_ite2, g_Vn, g_Pi, nI_add, Option.bind_some, Option.map_some, Option.bind_none, Option.map_none, List.getElem?_cons_zero, List.getElem?_cons_succ, List.set_cons_zero, List.set_cons_succ, List.cons_append, List.nil_append, List.take_succ_cons, List.take_zero, List.length_cons, List.length_nil, Nat.zero_add, Nat.reduceAdd, Nat.reduceLT, if_true, if_false, Bool.false_eq_true, Bool.true_eq_false, decide_eq_true_eq, decide_true, decide_false, Bool.not_true, Bool.not_false, Option.isNone_none, Option.isNone_some, Option.isSome_none, Option.isSome_some, ite_true, ite_false, reduceIte, reduceCtorEq, and_true, true_and, eq_self, Option.some.injEq, Sum.inr.injEq, Sum.inl.injEq, Prod.mk.injEq, e1', e2, g', d]
  · have e1 : i_eq x (nI 0) = false := decide_eq_false x0
    have e1' : i_eq x 0 = false := e1
    rw [e1, Bool.false_and, if_neg Bool.false_ne_true]
    by_cases x1 : x = nI 1
    · subst x1
      have e2 : i_eq (nI 1) (nI 1) = true := by decide
      rw [e2, Bool.true_and]
      cases d : inB y (nI 1) (nI 4) with
      | true =>
        obtain ⟨v, hv1, hv, rfl⟩ := inB_t (by omega) (by omega) d
        rw [if_pos rfl, nN_n (by omega)]
        obtain ⟨σ', r, t, m, l, n⟩ := f_setStride h ⟨hv1, hv⟩
        exact ⟨σ', p, c, r, t, h.eff1 (m.mono (fun _ _ z => Or.inl z)) l n⟩
      | false =>
        rw [if_neg Bool.false_ne_true]
        refine ⟨σ, p, c, mV_eq h.1.2.1 rfl rfl ?_, h, h.eff⟩
        unfold inB at d
        unfold B_X6_changeSetting
        cases g : i_ge y (nI 1) with
        | false => simp only [x_and, x_or, x_shl, x_shr, x_k, x_i, x_r, x_nil, x_add, x_sub, x_mul, x_div, x_rem, x_get, x_getR, x_ald, x_aldR, x_len, x_lenR, x_if, xa_nil, xa_ci, xa_cr, x_callI, x_callR, x_new, x_newa, x_newq, x_max, x_min, xc_cmp, xc_cmp0, xc_null, xc_nn, xc_not, xc_and, xc_or, xc_if, xs_skip, xs_seq, xs_decI, xs_decR, xs_setI, xs_inc, xs_if, xs_blk, xs_retI, xs_retB, xs_retR, xs_retD, xs_ret0, xs_putI, xs_putZ, xs_putR, xs_putop, xs_ast, xs_astop, xs_astR, xs_callV, xs_callP, xs_super, xs_sw, s_go_inl, s_go_inr, s_cut_inl, s_cut_inr, o_void_n, v_i_int, v_i_none, v_r_ref, v_r_null, v_r_rf, h_set_some, o_some_s, zB_ne0, zB_ite, zB_ite2, g_Vn, g_Pi, nI_add, Option.bind_some, Option.map_some, Option.bind_none, Option.map_none, List.getElem?_cons_zero, List.getElem?_cons_succ, List.set_cons_zero, List.set_cons_succ, List.cons_append, List.nil_append, List.take_succ_cons, List.take_zero, List.length_cons, List.length_nil, Nat.zero_add, Nat.reduceAdd, Nat.reduceLT, if_true, if_false, Bool.false_eq_true, Bool.true_eq_false, decide_eq_true_eq, decide_true, decide_false, Bool.not_true, Bool.not_false, Option.isNone_none, Option.isNone_some, Option.isSome_none, Option.isSome_some, ite_true, ite_false, reduceIte, reduceCtorEq, and_true, true_and, eq_self, Option.some.injEq, Sum.inr.injEq, Sum.inl.injEq, Prod.mk.injEq, e1', e2, g]
        | true =>
          rw [g, Bool.true_and] at d
          simp only [x_and, x_or, x_shl, x_shr, x_k, x_i, x_r, x_nil, x_add, x_sub, x_mul, x_div, x_rem, x_get, x_getR, x_ald, x_aldR, x_len, x_lenR, x_if, xa_nil, xa_ci, xa_cr, x_callI, x_callR, x_new, x_newa, x_newq, x_max, x_min, xc_cmp, xc_cmp0, xc_null, xc_nn, xc_not, xc_and, xc_or, xc_if, xs_skip, xs_seq, xs_decI, xs_decR, xs_setI, xs_inc, xs_if, xs_blk, xs_retI, xs_retB, xs_retR, xs_retD, xs_ret0, xs_putI, xs_putZ, xs_putR, xs_putop, xs_ast, xs_astop, xs_astR, xs_callV, xs_callP, xs_super, xs_sw, s_go_inl, s_go_inr, s_cut_inl, s_cut_inr, o_void_n, v_i_int, v_i_none, v_r_ref, v_r_null, v_r_rf, h_set_some, o_some_s, zB_ne0, zB_ite, zB_ite2, g_Vn, g_Pi, nI_add, Option.bind_some, Option.map_some, Option.bind_none, Option.map_none, List.getElem?_cons_zero, List.getElem?_cons_succ, List.set_cons_zero, List.set_cons_succ, List.cons_append, List.nil_append, List.take_succ_cons, List.take_zero, List.length_cons, List.length_nil, Nat.zero_add, Nat.reduceAdd, Nat.reduceLT, if_true, if_false, Bool.false_eq_true, Bool.true_eq_false, decide_eq_true_eq, decide_true, decide_false, Bool.not_true, Bool.not_false, Option.isNone_none, Option.isNone_some, Option.isSome_none, Option.isSome_some, ite_true, ite_false, reduceIte, reduceCtorEq, and_true, true_and, eq_self, Option.some.injEq, Sum.inr.injEq, Sum.inl.injEq, Prod.mk.injEq, e1', e2, g, d]
    · have e2 : i_eq x (nI 1) = false := decide_eq_false x1
      rw [e2, Bool.false_and, if_neg Bool.false_ne_true]
      refine ⟨σ, p, c, mV_eq h.1.2.1 rfl rfl ?_, h, h.eff⟩
      unfold B_X6_changeSetting
      simp only [x_and, x_or, x_shl, x_shr, x_k, x_i, x_r, x_nil, x_add, x_sub, x_mul, x_div, x_rem, x_get, x_getR, x_ald, x_aldR, x_len, x_lenR, x_if, xa_nil, xa_ci, xa_cr, x_callI, x_callR, x_new, x_newa, x_newq, x_max, x_min, xc_cmp, xc_cmp0, xc_null, xc_nn, xc_not, xc_and, xc_or, xc_if, xs_skip, xs_seq, xs_decI, xs_decR, xs_setI, xs_inc, xs_if, xs_blk, xs_retI, xs_retB, xs_retR, xs_retD, xs_ret0, xs_putI, xs_putZ, xs_putR, xs_putop, xs_ast, xs_astop, xs_astR, xs_callV, xs_callP, xs_super, xs_sw, s_go_inl, s_go_inr, s_cut_inl, s_cut_inr, o_void_n, v_i_int, v_i_none, v_r_ref, v_r_null, v_r_rf, h_set_some, o_some_s, zB_ne0, zB_ite, zB_ite2, g_Vn, g_Pi, nI_add, Option.bind_some, Option.map_some, Option.bind_none, Option.map_none, List.getElem?_cons_zero, List.getElem?_cons_succ, List.set_cons_zero, List.set_cons_succ, List.cons_append, List.nil_append, List.take_succ_cons, List.take_zero, List.length_cons, List.length_nil, Nat.zero_add, Nat.reduceAdd, Nat.reduceLT, if_true, if_false, Bool.false_eq_true, Bool.true_eq_false, decide_eq_true_eq, decide_true, decide_false, Bool.not_true, Bool.not_false, Option.isNone_none, Option.isNone_some, Option.isSome_none, Option.isSome_some, ite_true, ite_false, reduceIte, reduceCtorEq, and_true, true_and, eq_self, Option.some.injEq, Sum.inr.injEq, Sum.inl.injEq, Prod.mk.injEq, e1', e2]
end
/-! THE WORLD OF StairKin (own work) -/
def ad (k : Nat) : Nat := if k < 3 then 1 + 6 * k else 3 + 6 * k
/-- the eight stairs: where their accounts' rows lie, how long these are, what they bear -/
def WS (g : Nat) (σ : sSt) (P C : Nat → Nat) (T : Nat → tS) : Prop := 65 ≤ σ.1.length ∧ (∀ k, k < 8 → StAt σ (ad k) (P k) (C k) (T k)) ∧ (∀ k, k < 8 → P k = ad k + 3 ∨ 65 ≤ P k) ∧ (∀ j k, j < 8 → k < 8 → j ≠ k → P j + 3 ≤ P k ∨ P k + 3 ≤ P j) ∧ σ.1.length + 319 ≤ 3 * sumN C 8 + g ∧ σ.2 ≤ 50000 + 12 * g + 3 * sumN (fun k => Gam (C k)) 8
def isFx (x : Nat) : Prop := x = 0 ∨ x = 19 ∨ x = 20 ∨ (51 ≤ x ∧ x < 65)
theorem ad_cases {k : Nat} (h : k < 8) : (k = 0 ∧ ad k = 1) ∨ (k = 1 ∧ ad k = 7) ∨ (k = 2 ∧ ad k = 13) ∨ (k = 3 ∧ ad k = 21) ∨ (k = 4 ∧ ad k = 27) ∨ (k = 5 ∧ ad k = 33) ∨ (k = 6 ∧ ad k = 39) ∨ (k = 7 ∧ ad k = 45) := by
  unfold ad
  split <;> omega
theorem ad_apart {j k : Nat} (hj : j < 8) (hk : k < 8) (h : j ≠ k) : ad j + 6 ≤ ad k ∨ ad k + 6 ≤ ad j := by
  unfold ad
  split <;> split <;> omega
theorem ad_le {k : Nat} (hk : k < 8) : 1 ≤ ad k ∧ ad k ≤ 45 := by
  unfold ad
  split <;> omega
theorem ad_fx {k x : Nat} (hk : k < 8) (h : isFx x) : x < ad k ∨ ad k + 6 ≤ x := by
  unfold isFx at h
  have := ad_cases hk
  omega
theorem StAt.keep {σ σ' : sSt} {F : Nat → Prop} {a p c : Nat} {S : tS} (h : StAt σ a p c S) (m : Keep σ σ' F) (hF : ¬ F a ∧ ¬ F (a + 1) ∧ ¬ F (a + 2) ∧ ¬ F p ∧ ¬ F (p + 1) ∧ ¬ F (p + 2)) : StAt σ' a p c S := by
  obtain ⟨h1, ⟨ps, h2, h3⟩, h4⟩ := h
  exact ⟨h1.keep m ⟨hF.1, hF.2.1⟩, ⟨ps, h2.keep m ⟨hF.2.2.1, hF.2.2.2.1, hF.2.2.2.2.1, hF.2.2.2.2.2⟩, h3⟩, h4⟩
theorem StAt.len {σ : sSt} {a p c : Nat} {S : tS} (h : StAt σ a p c S) : p + 3 ≤ σ.1.length ∧ 16 ≤ c ∧ c ≤ 1229 := by
  obtain ⟨-, ⟨ps, hA, -⟩, -⟩ := h
  obtain ⟨-, -, h3, h4, -, fp, fc, fm, -, -, e3, -⟩ := hA
  exact ⟨(List.getElem?_eq_some_iff.mp e3).1, h3, h4⟩
theorem sumN_uN {f : Nat → Nat} {i v : Nat} : ∀ n, (n ≤ i → sumN (uN f i v) n = sumN f n) ∧ (i < n → sumN (uN f i v) n + f i = sumN f n + v)
  | 0 => ⟨fun _ => rfl, fun h => absurd h (Nat.not_lt_zero i)⟩
  | n + 1 => by
    obtain ⟨h1, h2⟩ := sumN_uN (f := f) (i := i) (v := v) n
    refine ⟨fun h => ?_, fun h => ?_⟩
    · show sumN (uN f i v) n + (if n = i then v else f n) = sumN f n + f n
      rw [h1 (by omega), if_neg (by omega)]
    · show sumN (uN f i v) n + (if n = i then v else f n) + f i = sumN f n + f n + v
      by_cases e : n = i
      · rw [if_pos e, h1 (by omega), e]; omega
      · rw [if_neg e]
        have := h2 (by omega)
        omega
theorem WS.eff {g : Nat} {σ σ' : sSt} {P C : Nat → Nat} {T : Nat → tS} (h : WS g σ P C T) {i : Nat} (hi : i < 8) {p' c' : Nat} {S' : tS} (he : EffS σ σ' (ad i) (P i) (C i) p' c') (hs : StAt σ' (ad i) p' c' S') : WS g σ' (uN P i p') (uN C i c') (uN T i S') ∧ ∀ x, isFx x → σ'.1[x]? = σ.1[x]? := by
  obtain ⟨h1, h2, h3, h4, h5, h6⟩ := h
  obtain ⟨k1, k2, k3, k4, k5, k6⟩ := he
  have hlen := k1.1
  have li := (h2 i hi).len
  have ai := ad_le hi
  refine ⟨⟨by omega, fun k hk => ?_, fun k hk => ?_, fun j k hj hk hjk => ?_, ?_, ?_⟩, fun x hx => ?_⟩
  · by_cases e : k = i
    · subst e
      show StAt σ' (ad k) (if k = k then p' else P k) (if k = k then c' else C k) (if k = k then S' else T k)
      rw [if_pos rfl, if_pos rfl, if_pos rfl]
      exact hs
    · show StAt σ' (ad k) (if k = i then p' else P k) (if k = i then c' else C k) (if k = i then S' else T k)
      rw [if_neg e, if_neg e, if_neg e]
      have a1 := ad_apart hk hi e
      have a2 := h3 k hk
      have a3 := h3 i hi
      have a4 := h4 k i hk hi e
      have a5 := ad_le hk
      exact (h2 k hk).keep k1 ⟨by omega, by omega, by omega, by omega, by omega, by omega⟩
  · show (if k = i then p' else P k) = ad k + 3 ∨ 65 ≤ (if k = i then p' else P k)
    by_cases e : k = i
    · rw [if_pos e]
      subst e
      have := h3 k hk
      omega
    · rw [if_neg e]
      exact h3 k hk
  · show (if j = i then p' else P j) + 3 ≤ (if k = i then p' else P k) ∨ (if k = i then p' else P k) + 3 ≤ (if j = i then p' else P j)
    by_cases e1 : j = i
    · rw [if_pos e1, if_neg (by omega)]
      have a4 := h4 i k hi hk (by omega)
      have lk := (h2 k hk).len
      omega
    · rw [if_neg e1]
      by_cases e2 : k = i
      · rw [if_pos e2]
        have a4 := h4 j i hj hi e1
        have lk := (h2 j hj).len
        omega
      · rw [if_neg e2]
        exact h4 j k hj hk hjk
  · have := (sumN_uN (f := C) (i := i) (v := c') 8).2 hi
    omega
  · have := (sumN_uN (f := fun k => Gam (C k)) (i := i) (v := Gam c') 8).2 hi
    have e : sumN (fun k => Gam (uN C i c' k)) 8 = sumN (uN (fun k => Gam (C k)) i (Gam c')) 8 := sumN_congr 8 (fun k _ => by
      show Gam (if k = i then c' else C k) = if k = i then Gam c' else Gam (C k)
      split <;> rfl)
    rw [e]
    have this : sumN (uN (fun k => Gam (C k)) i (Gam c')) 8 + Gam (C i) = sumN (fun k => Gam (C k)) 8 + Gam c' := this
    omega
  · have a1 := ad_fx hi hx
    have a2 := h3 i hi
    have hx2 : x < 65 := by unfold isFx at hx; omega
    refine k1.2 x (by omega) (fun z => ?_)
    omega
theorem WS.keep {g : Nat} {σ σ' : sSt} {P C : Nat → Nat} {T : Nat → tS} (h : WS g σ P C T) {F : Nat → Prop} (m : Keep σ σ' F) (hF : ∀ x, F x → isFx x) (l : σ'.1.length = σ.1.length) (n : σ'.2 = σ.2) : WS g σ' P C T := by
  obtain ⟨h1, h2, h3, h4, h5, h6⟩ := h
  refine ⟨by omega, fun k hk => (h2 k hk).keep m ?_, h3, h4, by omega, by omega⟩
  have no : ∀ x, (ad k ≤ x ∧ x < ad k + 6) ∨ 65 ≤ x → ¬ F x := fun x hx z => by
    have a := hF x z
    have b := ad_fx hk a
    unfold isFx at a
    omega
  have a2 := h3 k hk
  exact ⟨no _ (by omega), no _ (by omega), no _ (by omega), no _ (by omega), no _ (by omega), no _ (by omega)⟩
