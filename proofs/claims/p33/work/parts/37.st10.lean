/-! Stairs' deeds (own work): a round of sharing -/
def rndF : Nat → Nat → tS → Option tS
  | 0, _, S => some S
  | d + 1, k, S => if lcm2 (sN S k) (sN S (k + 1)) ≤ 9999 then rndF d (k + 1) (shr S k) else none
theorem shr_len {S : tS} {i : Nat} : (shr S i).1.length = S.1.length := by
  show ((S.1.set _ _).set _ _).length = _
  rw [List.length_set, List.length_set]
section
variable {a p c : Nat}
theorem f_round : ∀ (d k : Nat) (x : Int32) (σ : sSt) (S : tS), StAt σ a p c S → k + d + 1 = S.1.length → ∀ F, d < F → ∃ σ', Keep σ σ' (fun i => i = a + 1) ∧ σ'.1.length = σ.1.length ∧ σ'.2 = σ.2 ∧
    (∀ T, rndF d k S = some T → s_wh C_X6_shareInRounds_1 W_X6_shareInRounds_1 F [.ref a, .int x, .int (nI k)] σ = some (.inr ([.ref a, .int x, .int (nI (k + d))], σ')) ∧ StAt σ' a p c T ∧ T.1.length = S.1.length) ∧
    (rndF d k S = none → s_wh C_X6_shareInRounds_1 W_X6_shareInRounds_1 F [.ref a, .int x, .int (nI k)] σ = some (.inl (some (.int (-3)), σ')) ∧ ∃ T, StAt σ' a p c T) := by
  intro d
  induction d with
  | zero =>
    intro k x σ S h hl F hF
    obtain ⟨F, rfl⟩ : ∃ F', F = F' + 1 := ⟨F - 1, by omega⟩
    have h12 := h.1.1.1
    refine ⟨σ, Keep.rf, rfl, rfl, fun T hT => ?_, fun hT => by cases hT⟩
    cases hT
    refine ⟨wh_F ?_, h, rfl⟩
    simp only [x_and, x_or, x_shl, x_shr, x_k, x_i, x_r, x_nil, x_add, x_sub, x_mul, x_div, x_rem, x_get, x_getR, x_ald, x_aldR, x_len, x_lenR, x_if, xa_nil, xa_ci, xa_cr, x_callI, x_callR, x_new, x_newa, x_newq, x_max, x_min, xc_cmp, xc_cmp0, xc_null, xc_nn, xc_not, xc_and, xc_or, xc_if, xs_skip, xs_seq, xs_decI, xs_decR, xs_setI, xs_inc, xs_if, xs_blk, xs_retI, xs_retB, xs_retR, xs_retD, xs_ret0, xs_putI, xs_putZ, xs_putR, xs_putop, xs_ast, xs_astop, xs_astR, xs_callV, xs_callP, xs_super, xs_sw, s_go_inl, s_go_inr, s_cut_inl, s_cut_inr, o_void_n, v_i_int, v_i_none, v_r_ref, v_r_null, v_r_rf, h_set_some, o_some_s, zB_ne0, zB_ite, zB_ite2, g_Vn, g_Pi, nI_add, Option.bind_some, Option.map_some, Option.bind_none, Option.map_none, List.getElem?_cons_zero, List.getElem?_cons_succ, List.set_cons_zero, List.set_cons_succ, List.cons_append, List.nil_append, List.take_succ_cons, List.take_zero, List.length_cons, List.length_nil, Nat.zero_add, Nat.reduceAdd, Nat.reduceLT, if_true, if_false, Bool.false_eq_true, Bool.true_eq_false, decide_eq_true_eq, decide_true, decide_false, Bool.not_true, Bool.not_false, Option.isNone_none, Option.isNone_some, Option.isSome_none, Option.isSome_some, ite_true, ite_false, reduceIte, reduceCtorEq, and_true, true_and, eq_self, Option.some.injEq, Sum.inr.injEq, Sum.inl.injEq, Prod.mk.injEq, h_obj_eq h.1.2.1, pk_sub (show 1 ≤ S.1.length by omega), j_lt (show k < 2 ^ 31 by omega) (show S.1.length - 1 < 2 ^ 31 by omega), show ¬ k < S.1.length - 1 by omega]
  | succ d ih =>
    intro k x σ S h hl F hF
    obtain ⟨F, rfl⟩ : ∃ F', F = F' + 1 := ⟨F - 1, by omega⟩
    have h12 := h.1.1.1
    have hn : k + 1 < S.1.length := by omega
    have b1 := sN_ok h.1.1 k
    have hC : C_X6_shareInRounds_1 [.ref a, .int x, .int (nI k)] σ = some (true, σ) := by
      simp only [x_and, x_or, x_shl, x_shr, x_k, x_i, x_r, x_nil, x_add, x_sub, x_mul, x_div, x_rem, x_get, x_getR, x_ald, x_aldR, x_len, x_lenR, x_if, xa_nil, xa_ci, xa_cr, x_callI, x_callR, x_new, x_newa, x_newq, x_max, x_min, xc_cmp, xc_cmp0, xc_null, xc_nn, xc_not, xc_and, xc_or, xc_if, xs_skip, xs_seq, xs_decI, xs_decR, xs_setI, xs_inc, xs_if, xs_blk, xs_retI, xs_retB, xs_retR, xs_retD, xs_ret0, xs_putI, xs_putZ, xs_putR, xs_putop, xs_ast, xs_astop, xs_astR, xs_callV, xs_callP, xs_super, xs_sw, s_go_inl, s_go_inr, s_cut_inl, s_cut_inr, o_void_n, v_i_int, v_i_none, v_r_ref, v_r_null, v_r_rf, h_set_some, o_some_s, zB_ne0, zB_ite, zB_ite2, g_Vn, g_Pi, nI_add, Option.bind_some, Option.map_some, Option.bind_none, Option.map_none, List.getElem?_cons_zero, List.getElem?_cons_succ, List.set_cons_zero, List.set_cons_succ, List.cons_append, List.nil_append, List.take_succ_cons, List.take_zero, List.length_cons, List.length_nil, Nat.zero_add, Nat.reduceAdd, Nat.reduceLT, if_true, if_false, Bool.false_eq_true, Bool.true_eq_false, decide_eq_true_eq, decide_true, decide_false, Bool.not_true, Bool.not_false, Option.isNone_none, Option.isNone_some, Option.isSome_none, Option.isSome_some, ite_true, ite_false, reduceIte, reduceCtorEq, and_true, true_and, eq_self, Option.some.injEq, Sum.inr.injEq, Sum.inl.injEq, Prod.mk.injEq, h_obj_eq h.1.2.1, pk_sub (show 1 ≤ S.1.length by omega), j_lt (show k < 2 ^ 31 by omega) (show S.1.length - 1 < 2 ^ 31 by omega), show k < S.1.length - 1 by omega]
    by_cases hb : lcm2 (sN S k) (sN S (k + 1)) ≤ 9999
    · obtain ⟨σ1, r1, k1, m1, l1, n1⟩ := f_shareAt h hn hb
      have hg : Nat.gcd (sN S k) (sN S (k + 1)) ≤ sN S k := gcd_le b1.1
      have hS : W_X6_shareInRounds_1 [.ref a, .int x, .int (nI k)] σ = some (.inr ([.ref a, .int x, .int (nI (k + 1))], σ1)) := by
        simp only [x_and, x_or, x_shl, x_shr, x_k, x_i, x_r, x_nil, x_add, x_sub, x_mul, x_div, x_rem, x_get, x_getR, x_ald, x_aldR, x_len, x_lenR, x_if, xa_nil, xa_ci, xa_cr, x_callI, x_callR, x_new, x_newa, x_newq, x_max, x_min, xc_cmp, xc_cmp0, xc_null, xc_nn, xc_not, xc_and, xc_or, xc_if, xs_skip, xs_seq, xs_decI, xs_decR, xs_setI, xs_inc, xs_if, xs_blk, xs_retI, xs_retB, xs_retR, xs_retD, xs_ret0, xs_putI, xs_putZ, xs_putR, xs_putop, xs_ast, xs_astop, xs_astR, xs_callV, xs_callP, xs_super, xs_sw, s_go_inl, s_go_inr, s_cut_inl, s_cut_inr, o_void_n, v_i_int, v_i_none, v_r_ref, v_r_null, v_r_rf, h_set_some, o_some_s, zB_ne0, zB_ite, zB_ite2, g_Vn, g_Pi, nI_add, Option.bind_some, Option.map_some, Option.bind_none, Option.map_none, List.getElem?_cons_zero, List.getElem?_cons_succ, List.set_cons_zero, List.set_cons_succ, List.cons_append, List.nil_append, List.take_succ_cons, List.take_zero, List.length_cons, List.length_nil, Nat.zero_add, Nat.reduceAdd, Nat.reduceLT, if_true, if_false, Bool.false_eq_true, Bool.true_eq_false, decide_eq_true_eq, decide_true, decide_false, Bool.not_true, Bool.not_false, Option.isNone_none, Option.isNone_some, Option.isSome_none, Option.isSome_some, ite_true, ite_false, reduceIte, reduceCtorEq, and_true, true_and, eq_self, Option.some.injEq, Sum.inr.injEq, Sum.inl.injEq, Prod.mk.injEq, v_rf, r1, j_lt0 (show Nat.gcd (sN S k) (sN S (k + 1)) < 2 ^ 31 by omega)]
      obtain ⟨σ', m, l, n, g1, g2⟩ := ih (k + 1) x σ1 (shr S k) k1 (by rw [shr_len]; omega) F (by omega)
      have e : rndF (d + 1) k S = rndF d (k + 1) (shr S k) := if_pos hb
      refine ⟨σ', m1.tr m (fun _ _ z => z), by omega, n.trans n1, fun T hT => ?_, fun hT => ?_⟩
      · obtain ⟨w1, w2, w3⟩ := g1 T (e.symm.trans hT)
        refine ⟨?_, w2, by rw [w3, shr_len]⟩
        rw [wh_T hC hS, w1, show k + 1 + d = k + (d + 1) by omega]
      · obtain ⟨w1, w2⟩ := g2 (e.symm.trans hT)
        exact ⟨(wh_T hC hS).trans w1, w2⟩
    · have hS : W_X6_shareInRounds_1 [.ref a, .int x, .int (nI k)] σ = some (.inl (some (.int (-3)), σ)) := by
        simp only [x_and, x_or, x_shl, x_shr, x_k, x_i, x_r, x_nil, x_add, x_sub, x_mul, x_div, x_rem, x_get, x_getR, x_ald, x_aldR, x_len, x_lenR, x_if, xa_nil, xa_ci, xa_cr, x_callI, x_callR, x_new, x_newa, x_newq, x_max, x_min, xc_cmp, xc_cmp0, xc_null, xc_nn, xc_not, xc_and, xc_or, xc_if, xs_skip, xs_seq, xs_decI, xs_decR, xs_setI, xs_inc, xs_if, xs_blk, xs_retI, xs_retB, xs_retR, xs_retD, xs_ret0, xs_putI, xs_putZ, xs_putR, xs_putop, xs_ast, xs_astop, xs_astR, xs_callV, xs_callP, xs_super, xs_sw, s_go_inl, s_go_inr, s_cut_inl, s_cut_inr, o_void_n, v_i_int, v_i_none, v_r_ref, v_r_null, v_r_rf, h_set_some, o_some_s, zB_ne0, zB_ite, zB_ite2, g_Vn, g_Pi, nI_add, Option.bind_some, Option.map_some, Option.bind_none, Option.map_none, List.getElem?_cons_zero, List.getElem?_cons_succ, List.set_cons_zero, List.set_cons_succ, List.cons_append, List.nil_append, List.take_succ_cons, List.take_zero, List.length_cons, List.length_nil, Nat.zero_add, Nat.reduceAdd, Nat.reduceLT, if_true, if_false, Bool.false_eq_true, Bool.true_eq_false, decide_eq_true_eq, decide_true, decide_false, Bool.not_true, Bool.not_false, Option.isNone_none, Option.isNone_some, Option.isSome_none, Option.isSome_some, ite_true, ite_false, reduceIte, reduceCtorEq, and_true, true_and, eq_self, Option.some.injEq, Sum.inr.injEq, Sum.inl.injEq, Prod.mk.injEq, v_rf, f_shareBig h.1 hn (by omega), show i_lt (-3) 0 = true by decide]
      have e : rndF (d + 1) k S = none := if_neg hb
      refine ⟨σ, Keep.rf, rfl, rfl, fun T hT => (by rw [e] at hT; cases hT), fun _ => ⟨wh_R hC hS, S, h⟩⟩
/-- rounds until it is settled, at most so many looks -/
def sirF : Nat → tS → Option (Nat × tS)
  | 0, _ => none
  | d + 1, S => if stl S = true then some (0, S) else (rndF (S.1.length - 1) 0 S).bind fun T => (sirF d T).map fun r => (r.1 + 1, r.2)
theorem stl_len {S : tS} (h : ¬ stl S = true) : 2 ≤ S.1.length := by
  rcases Nat.lt_or_ge S.1.length 2 with q | q
  · exact absurd (decide_eq_true (fun i hi => by omega)) h
  · exact q
theorem f_roundsF : ∀ (d n : Nat) (σ : sSt) (S : tS), StAt σ a p c S → n + d = 13 → ∀ F, d < F → ∃ σ', Keep σ σ' (fun i => i = a + 1) ∧ σ'.1.length = σ.1.length ∧ σ'.2 = σ.2 ∧
    (∀ m T, sirF d S = some (m, T) → s_wh C_X6_shareInRounds_2 W_X6_shareInRounds_2 F [.ref a, .int (nI n)] σ = some (.inl (some (.int (nI (n + m))), σ')) ∧ StAt σ' a p c T) ∧
    (sirF d S = none → (s_wh C_X6_shareInRounds_2 W_X6_shareInRounds_2 F [.ref a, .int (nI n)] σ = some (.inl (some (.int (-3)), σ')) ∨ s_wh C_X6_shareInRounds_2 W_X6_shareInRounds_2 F [.ref a, .int (nI n)] σ = some (.inr ([.ref a, .int (nI 13)], σ'))) ∧ ∃ T, StAt σ' a p c T) := by
  intro d
  induction d with
  | zero =>
    intro n σ S h hn F hF
    obtain ⟨F, rfl⟩ : ∃ F', F = F' + 1 := ⟨F - 1, by omega⟩
    have e : n = 13 := by omega
    subst e
    refine ⟨σ, Keep.rf, rfl, rfl, fun m T hT => (by cases hT), fun _ => ⟨Or.inr (wh_F ?_), S, h⟩⟩
    simp only [x_and, x_or, x_shl, x_shr, x_k, x_i, x_r, x_nil, x_add, x_sub, x_mul, x_div, x_rem, x_get, x_getR, x_ald, x_aldR, x_len, x_lenR, x_if, xa_nil, xa_ci, xa_cr, x_callI, x_callR, x_new, x_newa, x_newq, x_max, x_min, xc_cmp, xc_cmp0, xc_null, xc_nn, xc_not, xc_and, xc_or, xc_if, xs_skip, xs_seq, xs_decI, xs_decR, xs_setI, xs_inc, xs_if, xs_blk, xs_retI, xs_retB, xs_retR, xs_retD, xs_ret0, xs_putI, xs_putZ, xs_putR, xs_putop, xs_ast, xs_astop, xs_astR, xs_callV, xs_callP, xs_super, xs_sw, s_go_inl, s_go_inr, s_cut_inl, s_cut_inr, o_void_n, v_i_int, v_i_none, v_r_ref, v_r_null, v_r_rf, h_set_some, o_some_s, zB_ne0, zB_ite, zB_ite2, g_Vn, g_Pi, nI_add, Option.bind_some, Option.map_some, Option.bind_none, Option.map_none, List.getElem?_cons_zero, List.getElem?_cons_succ, List.set_cons_zero, List.set_cons_succ, List.cons_append, List.nil_append, List.take_succ_cons, List.take_zero, List.length_cons, List.length_nil, Nat.zero_add, Nat.reduceAdd, Nat.reduceLT, if_true, if_false, Bool.false_eq_true, Bool.true_eq_false, decide_eq_true_eq, decide_true, decide_false, Bool.not_true, Bool.not_false, Option.isNone_none, Option.isNone_some, Option.isSome_none, Option.isSome_some, ite_true, ite_false, reduceIte, reduceCtorEq, and_true, true_and, eq_self, Option.some.injEq, Sum.inr.injEq, Sum.inl.injEq, Prod.mk.injEq, j_le (show 13 < 2 ^ 31 by omega) (show 12 < 2 ^ 31 by omega), show ¬ 13 ≤ 12 by omega]
  | succ d ih =>
    intro n σ S h hn F hF
    obtain ⟨F, rfl⟩ : ∃ F', F = F' + 1 := ⟨F - 1, by omega⟩
    have hC : C_X6_shareInRounds_2 [.ref a, .int (nI n)] σ = some (true, σ) := by
      simp only [x_and, x_or, x_shl, x_shr, x_k, x_i, x_r, x_nil, x_add, x_sub, x_mul, x_div, x_rem, x_get, x_getR, x_ald, x_aldR, x_len, x_lenR, x_if, xa_nil, xa_ci, xa_cr, x_callI, x_callR, x_new, x_newa, x_newq, x_max, x_min, xc_cmp, xc_cmp0, xc_null, xc_nn, xc_not, xc_and, xc_or, xc_if, xs_skip, xs_seq, xs_decI, xs_decR, xs_setI, xs_inc, xs_if, xs_blk, xs_retI, xs_retB, xs_retR, xs_retD, xs_ret0, xs_putI, xs_putZ, xs_putR, xs_putop, xs_ast, xs_astop, xs_astR, xs_callV, xs_callP, xs_super, xs_sw, s_go_inl, s_go_inr, s_cut_inl, s_cut_inr, o_void_n, v_i_int, v_i_none, v_r_ref, v_r_null, v_r_rf, h_set_some, o_some_s, zB_ne0, zB_ite, zB_ite2, g_Vn, g_Pi, nI_add, Option.bind_some, Option.map_some, Option.bind_none, Option.map_none, List.getElem?_cons_zero, List.getElem?_cons_succ, List.set_cons_zero, List.set_cons_succ, List.cons_append, List.nil_append, List.take_succ_cons, List.take_zero, List.length_cons, List.length_nil, Nat.zero_add, Nat.reduceAdd, Nat.reduceLT, if_true, if_false, Bool.false_eq_true, Bool.true_eq_false, decide_eq_true_eq, decide_true, decide_false, Bool.not_true, Bool.not_false, Option.isNone_none, Option.isNone_some, Option.isSome_none, Option.isSome_some, ite_true, ite_false, reduceIte, reduceCtorEq, and_true, true_and, eq_self, Option.some.injEq, Sum.inr.injEq, Sum.inl.injEq, Prod.mk.injEq, j_le (show n < 2 ^ 31 by omega) (show 12 < 2 ^ 31 by omega), show n ≤ 12 by omega]
    by_cases hs : stl S = true
    · have e : sirF (d + 1) S = some (0, S) := if_pos hs
      have hS : W_X6_shareInRounds_2 [.ref a, .int (nI n)] σ = some (.inl (some (.int (nI n)), σ)) := by
        simp only [x_and, x_or, x_shl, x_shr, x_k, x_i, x_r, x_nil, x_add, x_sub, x_mul, x_div, x_rem, x_get, x_getR, x_ald, x_aldR, x_len, x_lenR, x_if, xa_nil, xa_ci, xa_cr, x_callI, x_callR, x_new, x_newa, x_newq, x_max, x_min, xc_cmp, xc_cmp0, xc_null, xc_nn, xc_not, xc_and, xc_or, xc_if, xs_skip, xs_seq, xs_decI, xs_decR, xs_setI, xs_inc, xs_if, xs_blk, xs_retI, xs_retB, xs_retR, xs_retD, xs_ret0, xs_putI, xs_putZ, xs_putR, xs_putop, xs_ast, xs_astop, xs_astR, xs_callV, xs_callP, xs_super, xs_sw, s_go_inl, s_go_inr, s_cut_inl, s_cut_inr, o_void_n, v_i_int, v_i_none, v_r_ref, v_r_null, v_r_rf, h_set_some, o_some_s, zB_ne0, zB_ite, zB_ite2, g_Vn, g_Pi, nI_add, Option.bind_some, Option.map_some, Option.bind_none, Option.map_none, List.getElem?_cons_zero, List.getElem?_cons_succ, List.set_cons_zero, List.set_cons_succ, List.cons_append, List.nil_append, List.take_succ_cons, List.take_zero, List.length_cons, List.length_nil, Nat.zero_add, Nat.reduceAdd, Nat.reduceLT, if_true, if_false, Bool.false_eq_true, Bool.true_eq_false, decide_eq_true_eq, decide_true, decide_false, Bool.not_true, Bool.not_false, Option.isNone_none, Option.isNone_some, Option.isSome_none, Option.isSome_some, ite_true, ite_false, reduceIte, reduceCtorEq, and_true, true_and, eq_self, Option.some.injEq, Sum.inr.injEq, Sum.inl.injEq, Prod.mk.injEq, v_rf, f_isSettled h.1, hs]
      refine ⟨σ, Keep.rf, rfl, rfl, fun m T hT => ?_, fun hT => (by rw [e] at hT; cases hT)⟩
      rw [e] at hT
      cases hT
      exact ⟨wh_R hC hS, h⟩
    · have hl := stl_len hs
      have h12 := h.1.1.1
      have hs' : stl S = false := by simpa using hs
      have e : sirF (d + 1) S = (rndF (S.1.length - 1) 0 S).bind fun T => (sirF d T).map fun r => (r.1 + 1, r.2) := if_neg hs
      obtain ⟨σ1, m1, l1, n1, g1, g2⟩ := f_round (S.1.length - 1) 0 (nI n) σ S h (by omega) s_FUEL (by unfold s_FUEL; omega)
      cases hr : rndF (S.1.length - 1) 0 S with
      | none =>
        obtain ⟨w1, w2⟩ := g2 hr
        have w1 : s_while C_X6_shareInRounds_1 W_X6_shareInRounds_1 [.ref a, .int (nI n), .int (nI 0)] σ = _ := w1
        have hS : W_X6_shareInRounds_2 [.ref a, .int (nI n)] σ = some (.inl (some (.int (-3)), σ1)) := by
          simp only [x_and, x_or, x_shl, x_shr, x_k, x_i, x_r, x_nil, x_add, x_sub, x_mul, x_div, x_rem, x_get, x_getR, x_ald, x_aldR, x_len, x_lenR, x_if, xa_nil, xa_ci, xa_cr, x_callI, x_callR, x_new, x_newa, x_newq, x_max, x_min, xc_cmp, xc_cmp0, xc_null, xc_nn, xc_not, xc_and, xc_or, xc_if, xs_skip, xs_seq, xs_decI, xs_decR, xs_setI, xs_inc, xs_if, xs_blk, xs_retI, xs_retB, xs_retR, xs_retD, xs_ret0, xs_putI, xs_putZ, xs_putR, xs_putop, xs_ast, xs_astop, xs_astR, xs_callV, xs_callP, xs_super, xs_sw, s_go_inl, s_go_inr, s_cut_inl, s_cut_inr, o_void_n, v_i_int, v_i_none, v_r_ref, v_r_null, v_r_rf, h_set_some, o_some_s, zB_ne0, zB_ite, zB_ite2, g_Vn, g_Pi, nI_add, Option.bind_some, Option.map_some, Option.bind_none, Option.map_none, List.getElem?_cons_zero, List.getElem?_cons_succ, List.set_cons_zero, List.set_cons_succ, List.cons_append, List.nil_append, List.take_succ_cons, List.take_zero, List.length_cons, List.length_nil, Nat.zero_add, Nat.reduceAdd, Nat.reduceLT, if_true, if_false, Bool.false_eq_true, Bool.true_eq_false, decide_eq_true_eq, decide_true, decide_false, Bool.not_true, Bool.not_false, Option.isNone_none, Option.isNone_some, Option.isSome_none, Option.isSome_some, ite_true, ite_false, reduceIte, reduceCtorEq, and_true, true_and, eq_self, Option.some.injEq, Sum.inr.injEq, Sum.inl.injEq, Prod.mk.injEq, v_rf, f_isSettled h.1, hs', w1]
        rw [hr] at e
        refine ⟨σ1, m1, l1, n1, fun m T hT => (by rw [e] at hT; cases hT), fun _ => ⟨Or.inl (wh_R hC hS), w2⟩⟩
      | some T1 =>
        obtain ⟨w1, w2, w3⟩ := g1 T1 hr
        have w1 : s_while C_X6_shareInRounds_1 W_X6_shareInRounds_1 [.ref a, .int (nI n), .int (nI 0)] σ = _ := w1
        have hS : W_X6_shareInRounds_2 [.ref a, .int (nI n)] σ = some (.inr ([.ref a, .int (nI (n + 1))], σ1)) := by
          simp only [x_and, x_or, x_shl, x_shr, x_k, x_i, x_r, x_nil, x_add, x_sub, x_mul, x_div, x_rem, x_get, x_getR, x_ald, x_aldR, x_len, x_lenR, x_if, xa_nil, xa_ci, xa_cr, x_callI, x_callR, x_new, x_newa, x_newq, x_max, x_min, xc_cmp, xc_cmp0, xc_null, xc_nn, xc_not, xc_and, xc_or, xc_if, xs_skip, xs_seq, xs_decI, xs_decR, xs_setI, xs_inc, xs_if, xs_blk, xs_retI, xs_retB, xs_retR, xs_retD, xs_ret0, xs_putI, xs_putZ, xs_putR, xs_putop, xs_ast, xs_astop, xs_astR, xs_callV, xs_callP, xs_super, xs_sw, s_go_inl, s_go_inr, s_cut_inl, s_cut_inr, o_void_n, v_i_int, v_i_none, v_r_ref, v_r_null, v_r_rf, h_set_some, o_some_s, zB_ne0, zB_ite, zB_ite2, g_Vn, g_Pi, nI_add, Option.bind_some, Option.map_some, Option.bind_none, Option.map_none, List.getElem?_cons_zero, List.getElem?_cons_succ, List.set_cons_zero, List.set_cons_succ, List.cons_append, List.nil_append, List.take_succ_cons, List.take_zero, List.length_cons, List.length_nil, Nat.zero_add, Nat.reduceAdd, Nat.reduceLT, if_true, if_false, Bool.false_eq_true, Bool.true_eq_false, decide_eq_true_eq, decide_true, decide_false, Bool.not_true, Bool.not_false, Option.isNone_none, Option.isNone_some, Option.isSome_none, Option.isSome_some, ite_true, ite_false, reduceIte, reduceCtorEq, and_true, true_and, eq_self, Option.some.injEq, Sum.inr.injEq, Sum.inl.injEq, Prod.mk.injEq, v_rf, f_isSettled h.1, hs', w1]
        obtain ⟨σ', m', l', n', q1, q2⟩ := ih (n + 1) σ1 T1 w2 (by omega) F (by omega)
        rw [hr] at e
        have e : sirF (d + 1) S = (sirF d T1).map fun r => (r.1 + 1, r.2) := e
        refine ⟨σ', m1.tr m' (fun _ _ z => z), by omega, n'.trans n1, fun m T hT => ?_, fun hT => ?_⟩
        · cases h2 : sirF d T1 with
          | none => rw [e, h2] at hT; cases hT
          | some r =>
            rw [e, h2] at hT
            cases hT
            obtain ⟨v1, v2⟩ := q1 r.1 r.2 h2
            refine ⟨?_, v2⟩
            rw [wh_T hC hS, v1, show n + 1 + r.1 = n + (r.1 + 1) by omega]
        · cases h2 : sirF d T1 with
          | none =>
            obtain ⟨v1, v2⟩ := q2 h2
            exact ⟨v1.imp (fun z => (wh_T hC hS).trans z) (fun z => (wh_T hC hS).trans z), v2⟩
          | some r => rw [e, h2] at hT; cases hT
end
