/-! Stairs' writers, on its numbers (own work): to close a gap, to share -/
theorem StO.row {σ : sSt} {a : Nat} {S S' : tS} (h : StO σ a S) (hk : okS S') (e1 : S'.1.length = S.1.length) (e2 : S'.2 = S.2) {g : Nat → Int32} (hg : ∀ (i x : Nat), S'.1[i]? = some x → g i = nI x) : StO (σ.1.set (a + 1) (.inr (.inl (12, g))), σ.2) a S' := by
  obtain ⟨_, h1, f, h2, _⟩ := h
  refine ⟨hk, ?_, g, List.getElem?_set_self (List.getElem?_eq_some_iff.mp h2).1, hg⟩
  rw [e1, e2]
  exact (List.getElem?_set_ne (by omega)).trans h1
theorem okS.set {S : tS} (h : okS S) {i x : Nat} (h1 : 1 ≤ x) (h2 : x ≤ 9999) : okS (S.1.set i x, S.2) := by
  refine ⟨by show (S.1.set i x).length ≤ 12; rw [List.length_set]; exact h.1, fun y hy => ?_, h.2.2⟩
  rcases List.mem_or_eq_of_mem_set hy with q | q
  · exact h.2.1 y q
  · rw [q]; exact ⟨h1, h2⟩
theorem okS.erase {S : tS} (h : okS S) {i : Nat} (hi : i < S.1.length) : okS (S.1.eraseIdx i, S.2) := by
  refine ⟨by show (S.1.eraseIdx i).length ≤ 12; rw [List.length_eraseIdx, if_pos hi]; have := h.1; omega, fun y hy => h.2.1 y (List.mem_of_mem_eraseIdx hy), h.2.2⟩
/-- one number is written -/
theorem put_num {σ : sSt} {a : Nat} {S : tS} (h : StO σ a S) {i x : Nat} (hi : i < S.1.length) (h1 : 1 ≤ x) (h2 : x ≤ 9999) :
    ∃ σ', M_X5_put [.ref (a + 1), .int (nI i), .int (nI x)] σ = some (none, σ') ∧ StO σ' a (S.1.set i x, S.2) ∧ Keep σ σ' (fun k => k = a + 1) ∧ σ'.1.length = σ.1.length ∧ σ'.2 = σ.2 := by
  have h' := h
  obtain ⟨h0, o1, f, o2, o3⟩ := h
  have hl := h0.1
  refine ⟨_, f_put o2 (by omega) (show i < 12 by omega) (nI x), h'.row (h0.set h1 h2) (by show (S.1.set i x).length = _; rw [List.length_set]) rfl ?_, Keep.set rfl, by show (σ.1.set _ _).length = _; rw [List.length_set], rfl⟩
  intro k y hy
  have hy : (S.1.set i x)[k]? = some y := hy
  by_cases e : k = i
  · subst e
    rw [List.getElem?_set_self hi] at hy
    cases hy
    simp only [upd, if_true]
  · rw [List.getElem?_set_ne (Ne.symm e)] at hy
    simp only [upd, e, if_false]
    exact o3 k y hy
/-- two neighbours share -/
def shr (S : tS) (i : Nat) : tS := ((S.1.set i (Nat.gcd (sN S i) (sN S (i + 1)))).set (i + 1) (lcm2 (sN S i) (sN S (i + 1))), S.2)
theorem lcm2_pos {a b : Nat} (ha : 1 ≤ a) (hb : 1 ≤ b) : 1 ≤ lcm2 a b := by
  have h1 : 1 ≤ a / Nat.gcd a b := Nat.div_pos (gcd_le ha) (gcd_pos ha)
  exact Nat.mul_pos h1 hb
theorem lcm2_lt {a b : Nat} (ha : a ≤ 9999) (hb : b ≤ 9999) : lcm2 a b < 2 ^ 31 := by
  have h1 : a / Nat.gcd a b ≤ 9999 := Nat.le_trans (Nat.div_le_self a _) ha
  have : lcm2 a b ≤ 9999 * 9999 := Nat.mul_le_mul h1 hb
  omega
section
variable {σ : sSt} {a : Nat} {S : tS}
theorem f_shareNo (h : StO σ a S) {i : Nat} (hi : i < 2 ^ 31 - 1) (hn : ¬ i + 1 < S.1.length) : M_X6_shareAt [.ref a, .int (nI i)] σ = some (some (.int (-1)), σ) := by
  refine mV_eq h.2.1 rfl rfl ?_
  unfold B_X6_shareAt
  by_cases c : i < S.1.length
  · simp only [x_and, x_or, x_shl, x_shr, x_k, x_i, x_r, x_nil, x_add, x_sub, x_mul, x_div, x_rem, x_get, x_getR, x_ald, x_aldR, x_len, x_lenR, x_if, xa_nil, xa_ci, xa_cr, x_callI, x_callR, x_new, x_newa, x_newq, x_max, x_min, xc_cmp, xc_cmp0, xc_null, xc_nn, xc_not, xc_and, xc_or, xc_if, xs_skip, xs_seq, xs_decI, xs_decR, xs_setI, xs_inc, xs_if, xs_blk, xs_retI, xs_retB, xs_retR, xs_retD, xs_ret0, xs_putI, xs_putZ, xs_putR, xs_putop, xs_ast, xs_astop, xs_astR, xs_callV, xs_callP, xs_super, xs_sw, s_go_inl, s_go_inr, s_cut_inl, s_cut_inr, o_void_n, v_i_int, v_i_none, v_r_ref, v_r_null, v_r_rf, h_set_some, o_some_s, zB_ne0, zB_ite, zB_ite2, g_Vn, g_Pi, nI_add, Option.bind_some, Option.map_some, Option.bind_none, Option.map_none, List.getElem?_cons_zero, List.getElem?_cons_succ, List.set_cons_zero, List.set_cons_succ, List.cons_append, List.nil_append, List.take_succ_cons, List.take_zero, List.length_cons, List.length_nil, Nat.zero_add, Nat.reduceAdd, Nat.reduceLT, if_true, if_false, Bool.false_eq_true, Bool.true_eq_false, decide_eq_true_eq, decide_true, decide_false, Bool.not_true, Bool.not_false, Option.isNone_none, Option.isNone_some, Option.isSome_none, Option.isSome_some, ite_true, ite_false, reduceIte, reduceCtorEq, and_true, true_and, eq_self, Option.some.injEq, Sum.inr.injEq, Sum.inl.injEq, Prod.mk.injEq, v_rf, f_has h (show i < 2 ^ 31 by omega), f_has h (show i + 1 < 2 ^ 31 by omega), hn, c]
  · simp only [x_and, x_or, x_shl, x_shr, x_k, x_i, x_r, x_nil, x_add, x_sub, x_mul, x_div, x_rem, x_get, x_getR, x_ald, x_aldR, x_len, x_lenR, x_if, xa_nil, xa_ci, xa_cr, x_callI, x_callR, x_new, x_newa, x_newq, x_max, x_min, xc_cmp, xc_cmp0, xc_null, xc_nn, xc_not, xc_and, xc_or, xc_if, xs_skip, xs_seq, xs_decI, xs_decR, xs_setI, xs_inc, xs_if, xs_blk, xs_retI, xs_retB, xs_retR, xs_retD, xs_ret0, xs_putI, xs_putZ, xs_putR, xs_putop, xs_ast, xs_astop, xs_astR, xs_callV, xs_callP, xs_super, xs_sw, s_go_inl, s_go_inr, s_cut_inl, s_cut_inr, o_void_n, v_i_int, v_i_none, v_r_ref, v_r_null, v_r_rf, h_set_some, o_some_s, zB_ne0, zB_ite, zB_ite2, g_Vn, g_Pi, nI_add, Option.bind_some, Option.map_some, Option.bind_none, Option.map_none, List.getElem?_cons_zero, List.getElem?_cons_succ, List.set_cons_zero, List.set_cons_succ, List.cons_append, List.nil_append, List.take_succ_cons, List.take_zero, List.length_cons, List.length_nil, Nat.zero_add, Nat.reduceAdd, Nat.reduceLT, if_true, if_false, Bool.false_eq_true, Bool.true_eq_false, decide_eq_true_eq, decide_true, decide_false, Bool.not_true, Bool.not_false, Option.isNone_none, Option.isNone_some, Option.isSome_none, Option.isSome_some, ite_true, ite_false, reduceIte, reduceCtorEq, and_true, true_and, eq_self, Option.some.injEq, Sum.inr.injEq, Sum.inl.injEq, Prod.mk.injEq, v_rf, f_has h (show i < 2 ^ 31 by omega), hn, c]
theorem f_shareBig (h : StO σ a S) {i : Nat} (hn : i + 1 < S.1.length) (hb : 9999 < lcm2 (sN S i) (sN S (i + 1))) : M_X6_shareAt [.ref a, .int (nI i)] σ = some (some (.int (-3)), σ) := by
  have hl := h.1.1
  have b1 := sN_ok h.1 i
  have b2 := sN_ok h.1 (i + 1)
  refine mV_eq h.2.1 rfl rfl ?_
  unfold B_X6_shareAt
  simp only [x_and, x_or, x_shl, x_shr, x_k, x_i, x_r, x_nil, x_add, x_sub, x_mul, x_div, x_rem, x_get, x_getR, x_ald, x_aldR, x_len, x_lenR, x_if, xa_nil, xa_ci, xa_cr, x_callI, x_callR, x_new, x_newa, x_newq, x_max, x_min, xc_cmp, xc_cmp0, xc_null, xc_nn, xc_not, xc_and, xc_or, xc_if, xs_skip, xs_seq, xs_decI, xs_decR, xs_setI, xs_inc, xs_if, xs_blk, xs_retI, xs_retB, xs_retR, xs_retD, xs_ret0, xs_putI, xs_putZ, xs_putR, xs_putop, xs_ast, xs_astop, xs_astR, xs_callV, xs_callP, xs_super, xs_sw, s_go_inl, s_go_inr, s_cut_inl, s_cut_inr, o_void_n, v_i_int, v_i_none, v_r_ref, v_r_null, v_r_rf, h_set_some, o_some_s, zB_ne0, zB_ite, zB_ite2, g_Vn, g_Pi, nI_add, Option.bind_some, Option.map_some, Option.bind_none, Option.map_none, List.getElem?_cons_zero, List.getElem?_cons_succ, List.set_cons_zero, List.set_cons_succ, List.cons_append, List.nil_append, List.take_succ_cons, List.take_zero, List.length_cons, List.length_nil, Nat.zero_add, Nat.reduceAdd, Nat.reduceLT, if_true, if_false, Bool.false_eq_true, Bool.true_eq_false, decide_eq_true_eq, decide_true, decide_false, Bool.not_true, Bool.not_false, Option.isNone_none, Option.isNone_some, Option.isSome_none, Option.isSome_some, ite_true, ite_false, reduceIte, reduceCtorEq, and_true, true_and, eq_self, Option.some.injEq, Sum.inr.injEq, Sum.inl.injEq, Prod.mk.injEq, v_rf, f_has h (show i < 2 ^ 31 by omega), f_has h (show i + 1 < 2 ^ 31 by omega), hn, show i < S.1.length by omega, f_numberOf h (show i < 2 ^ 31 by omega), f_numberOf h (show i + 1 < 2 ^ 31 by omega), f_multiple b1.1 b1.2 b2.2, j_gt (lcm2_lt b1.2 b2.2) (show 9999 < 2 ^ 31 by omega), hb]
theorem f_share (h : StO σ a S) {i : Nat} (hn : i + 1 < S.1.length) (hb : lcm2 (sN S i) (sN S (i + 1)) ≤ 9999) : ∃ σ', M_X6_shareAt [.ref a, .int (nI i)] σ = some (some (.int (nI (Nat.gcd (sN S i) (sN S (i + 1))))), σ') ∧ StO σ' a (shr S i) ∧ Keep σ σ' (fun k => k = a + 1) ∧ σ'.1.length = σ.1.length ∧ σ'.2 = σ.2 := by
  have hl := h.1.1
  have b1 := sN_ok h.1 i
  have b2 := sN_ok h.1 (i + 1)
  have hg1 : 1 ≤ Nat.gcd (sN S i) (sN S (i + 1)) := gcd_pos b1.1
  have hg2 : Nat.gcd (sN S i) (sN S (i + 1)) ≤ 9999 := Nat.le_trans (gcd_le b1.1) b1.2
  obtain ⟨σ1, r1, k1, m1, l1, n1⟩ := put_num h (show i < S.1.length by omega) hg1 hg2
  obtain ⟨σ2, r2, k2, m2, l2, n2⟩ := put_num k1 (i := i + 1) (by show i + 1 < (S.1.set i _).length; rw [List.length_set]; exact hn) (lcm2_pos b1.1 b2.1) hb
  refine ⟨σ2, mV_eq h.2.1 rfl rfl ?_, k2, m1.tr m2 (fun _ _ q => q), by omega, n2.trans n1⟩
  unfold B_X6_shareAt
  simp only [x_and, x_or, x_shl, x_shr, x_k, x_i, x_r, x_nil, x_add, x_sub, x_mul, x_div, x_rem, x_get, x_getR, x_ald, x_aldR, x_len, x_lenR, x_if, xa_nil, xa_ci, xa_cr, x_callI, x_callR, x_new, x_newa, x_newq, x_max, x_min, xc_cmp, xc_cmp0, xc_null, xc_nn, xc_not, xc_and, xc_or, xc_if, xs_skip, xs_seq, xs_decI, xs_decR, xs_setI, xs_inc, xs_if, xs_blk, xs_retI, xs_retB, xs_retR, xs_retD, xs_ret0, xs_putI, xs_putZ, xs_putR, xs_putop, xs_ast, xs_astop, xs_astR, xs_callV, xs_callP, xs_super, xs_sw, s_go_inl, s_go_inr, s_cut_inl, s_cut_inr, o_void_n, v_i_int, v_i_none, v_r_ref, v_r_null, v_r_rf, h_set_some, o_some_s, zB_ne0, zB_ite, zB_ite2, g_Vn, g_Pi, nI_add, Option.bind_some, Option.map_some, Option.bind_none, Option.map_none, List.getElem?_cons_zero, List.getElem?_cons_succ, List.set_cons_zero, List.set_cons_succ, List.cons_append, List.nil_append, List.take_succ_cons, List.take_zero, List.length_cons, List.length_nil, Nat.zero_add, Nat.reduceAdd, Nat.reduceLT, if_true, if_false, Bool.false_eq_true, Bool.true_eq_false, decide_eq_true_eq, decide_true, decide_false, Bool.not_true, Bool.not_false, Option.isNone_none, Option.isNone_some, Option.isSome_none, Option.isSome_some, ite_true, ite_false, reduceIte, reduceCtorEq, and_true, true_and, eq_self, Option.some.injEq, Sum.inr.injEq, Sum.inl.injEq, Prod.mk.injEq, v_rf, f_has h (show i < 2 ^ 31 by omega), f_has h (show i + 1 < 2 ^ 31 by omega), hn, show i < S.1.length by omega, f_numberOf h (show i < 2 ^ 31 by omega), f_numberOf h (show i + 1 < 2 ^ 31 by omega), f_multiple b1.1 b1.2 b2.2, j_gt (lcm2_lt b1.2 b2.2) (show 9999 < 2 ^ 31 by omega), Nat.not_lt.mpr hb, f_gcd (show sN S i < 2 ^ 31 by omega) b2.2, h_obj_eq h.2.1, r1, h_obj_eq k1.2.1, r2]
theorem f_closeUp (h : StO σ a S) {i : Nat} (hi : i < S.1.length) : ∃ σ', M_X6_closeUp [.ref a, .int (nI i)] σ = some (none, σ') ∧ StO σ' a (S.1.eraseIdx i, S.2) ∧ Keep σ σ' (fun k => k = a ∨ k = a + 1) ∧ σ'.1.length = σ.1.length ∧ σ'.2 = σ.2 := by
  have h' := h
  obtain ⟨h0, o1, f, o2, o3⟩ := h
  have hl := h0.1
  have la : a < σ.1.length := (List.getElem?_eq_some_iff.mp o1).1
  have la1 : a + 1 < σ.1.length := (List.getElem?_eq_some_iff.mp o2).1
  let F : Nat → Nat → Int32 := fun j z => if i ≤ z ∧ z + 1 < j then f (z + 1) else f z
  have F0 : F (i + 1) = f := by
    funext z
    show (if _ then _ else _) = _
    rw [if_neg (by omega)]
  let τ : Nat → sSt := fun j => (σ.1.set (a + 1) (.inr (.inl (12, F j))), σ.2)
  have τ0 : τ (i + 1) = σ := by
    show (σ.1.set (a + 1) (.inr (.inl (12, F (i + 1)))), σ.2) = σ
    rw [F0, set_same o2]
  have τo : ∀ j, (τ j).1[a]? = _ := fun j => (List.getElem?_set_ne (show a + 1 ≠ a by omega)).trans o1
  have τr : ∀ j, (τ j).1[a + 1]? = some (.inr (.inl (12, F j))) := fun j => List.getElem?_set_self la1
  have hw := wh_up (C := C_X6_closeUp_1) (S := W_X6_closeUp_1) (L := [.ref a, .int (nI i), .int (nI (i + 1))]) (σ := σ) (fun j => ([.ref a, .int (nI i), .int (nI j)], τ j)) (i + 1) S.1.length (by show _ = (_, τ (i + 1)); rw [τ0]) hi (by omega) (fun j h1 h2 => ⟨by
      show C_X6_closeUp_1 [.ref a, .int (nI i), .int (nI j)] (τ j) = some (true, τ j)
      simp only [x_and, x_or, x_shl, x_shr, x_k, x_i, x_r, x_nil, x_add, x_sub, x_mul, x_div, x_rem, x_get, x_getR, x_ald, x_aldR, x_len, x_lenR, x_if, xa_nil, xa_ci, xa_cr, x_callI, x_callR, x_new, x_newa, x_newq, x_max, x_min, xc_cmp, xc_cmp0, xc_null, xc_nn, xc_not, xc_and, xc_or, xc_if, xs_skip, xs_seq, xs_decI, xs_decR, xs_setI, xs_inc, xs_if, xs_blk, xs_retI, xs_retB, xs_retR, xs_retD, xs_ret0, xs_putI, xs_putZ, xs_putR, xs_putop, xs_ast, xs_astop, xs_astR, xs_callV, xs_callP, xs_super, xs_sw, s_go_inl, s_go_inr, s_cut_inl, s_cut_inr, o_void_n, v_i_int, v_i_none, v_r_ref, v_r_null, v_r_rf, h_set_some, o_some_s, zB_ne0, zB_ite, zB_ite2, g_Vn, g_Pi, nI_add, Option.bind_some, Option.map_some, Option.bind_none, Option.map_none, List.getElem?_cons_zero, List.getElem?_cons_succ, List.set_cons_zero, List.set_cons_succ, List.cons_append, List.nil_append, List.take_succ_cons, List.take_zero, List.length_cons, List.length_nil, Nat.zero_add, Nat.reduceAdd, Nat.reduceLT, if_true, if_false, Bool.false_eq_true, Bool.true_eq_false, decide_eq_true_eq, decide_true, decide_false, Bool.not_true, Bool.not_false, Option.isNone_none, Option.isNone_some, Option.isSome_none, Option.isSome_some, ite_true, ite_false, reduceIte, reduceCtorEq, and_true, true_and, eq_self, Option.some.injEq, Sum.inr.injEq, Sum.inl.injEq, Prod.mk.injEq, h_obj_eq (τo j), j_lt (show j < 2 ^ 31 by omega) (show S.1.length < 2 ^ 31 by omega), h2], by
      show W_X6_closeUp_1 [.ref a, .int (nI i), .int (nI j)] (τ j) = some (.inr ([.ref a, .int (nI i), .int (nI (j + 1))], τ (j + 1)))
      have q1 := f_at (τr j) (show 12 < 2 ^ 31 by omega) (show j < 2 ^ 31 by omega)
      rw [if_pos (by omega)] at q1
      have q2 := f_put (τr j) (show 12 < 2 ^ 31 by omega) (show j - 1 < 12 by omega) (F j j)
      have q3 : (((τ j).1.set (a + 1) (.inr (.inl (12, upd (F j) (j - 1) (F j j)))), (τ j).2) : sSt) = τ (j + 1) := by
        show ((σ.1.set (a + 1) _).set (a + 1) _, σ.2) = (σ.1.set (a + 1) _, σ.2)
        rw [List.set_set]
        congr 5
        funext z
        show upd (F j) (j - 1) (F j j) z = F (j + 1) z
        by_cases e : z = j - 1
        · simp only [upd, e, if_true]
          show (if _ then _ else _) = (if _ then _ else _)
          rw [if_neg (by omega), if_pos (by omega), show j - 1 + 1 = j by omega]
        · simp only [upd, e, if_false]
          show (if _ then _ else _) = (if _ then _ else _)
          by_cases g : i ≤ z ∧ z + 1 < j
          · rw [if_pos g, if_pos (by omega)]
          · rw [if_neg g, if_neg (by omega)]
      rw [q3] at q2
      simp only [x_and, x_or, x_shl, x_shr, x_k, x_i, x_r, x_nil, x_add, x_sub, x_mul, x_div, x_rem, x_get, x_getR, x_ald, x_aldR, x_len, x_lenR, x_if, xa_nil, xa_ci, xa_cr, x_callI, x_callR, x_new, x_newa, x_newq, x_max, x_min, xc_cmp, xc_cmp0, xc_null, xc_nn, xc_not, xc_and, xc_or, xc_if, xs_skip, xs_seq, xs_decI, xs_decR, xs_setI, xs_inc, xs_if, xs_blk, xs_retI, xs_retB, xs_retR, xs_retD, xs_ret0, xs_putI, xs_putZ, xs_putR, xs_putop, xs_ast, xs_astop, xs_astR, xs_callV, xs_callP, xs_super, xs_sw, s_go_inl, s_go_inr, s_cut_inl, s_cut_inr, o_void_n, v_i_int, v_i_none, v_r_ref, v_r_null, v_r_rf, h_set_some, o_some_s, zB_ne0, zB_ite, zB_ite2, g_Vn, g_Pi, nI_add, Option.bind_some, Option.map_some, Option.bind_none, Option.map_none, List.getElem?_cons_zero, List.getElem?_cons_succ, List.set_cons_zero, List.set_cons_succ, List.cons_append, List.nil_append, List.take_succ_cons, List.take_zero, List.length_cons, List.length_nil, Nat.zero_add, Nat.reduceAdd, Nat.reduceLT, if_true, if_false, Bool.false_eq_true, Bool.true_eq_false, decide_eq_true_eq, decide_true, decide_false, Bool.not_true, Bool.not_false, Option.isNone_none, Option.isNone_some, Option.isSome_none, Option.isSome_some, ite_true, ite_false, reduceIte, reduceCtorEq, and_true, true_and, eq_self, Option.some.injEq, Sum.inr.injEq, Sum.inl.injEq, Prod.mk.injEq, h_obj_eq (τo j), v_rf, q1, pk_sub (show 1 ≤ j by omega), q2]⟩) (by
      show C_X6_closeUp_1 [.ref a, .int (nI i), .int (nI S.1.length)] (τ S.1.length) = some (false, τ S.1.length)
      simp only [x_and, x_or, x_shl, x_shr, x_k, x_i, x_r, x_nil, x_add, x_sub, x_mul, x_div, x_rem, x_get, x_getR, x_ald, x_aldR, x_len, x_lenR, x_if, xa_nil, xa_ci, xa_cr, x_callI, x_callR, x_new, x_newa, x_newq, x_max, x_min, xc_cmp, xc_cmp0, xc_null, xc_nn, xc_not, xc_and, xc_or, xc_if, xs_skip, xs_seq, xs_decI, xs_decR, xs_setI, xs_inc, xs_if, xs_blk, xs_retI, xs_retB, xs_retR, xs_retD, xs_ret0, xs_putI, xs_putZ, xs_putR, xs_putop, xs_ast, xs_astop, xs_astR, xs_callV, xs_callP, xs_super, xs_sw, s_go_inl, s_go_inr, s_cut_inl, s_cut_inr, o_void_n, v_i_int, v_i_none, v_r_ref, v_r_null, v_r_rf, h_set_some, o_some_s, zB_ne0, zB_ite, zB_ite2, g_Vn, g_Pi, nI_add, Option.bind_some, Option.map_some, Option.bind_none, Option.map_none, List.getElem?_cons_zero, List.getElem?_cons_succ, List.set_cons_zero, List.set_cons_succ, List.cons_append, List.nil_append, List.take_succ_cons, List.take_zero, List.length_cons, List.length_nil, Nat.zero_add, Nat.reduceAdd, Nat.reduceLT, if_true, if_false, Bool.false_eq_true, Bool.true_eq_false, decide_eq_true_eq, decide_true, decide_false, Bool.not_true, Bool.not_false, Option.isNone_none, Option.isNone_some, Option.isSome_none, Option.isSome_some, ite_true, ite_false, reduceIte, reduceCtorEq, and_true, true_and, eq_self, Option.some.injEq, Sum.inr.injEq, Sum.inl.injEq, Prod.mk.injEq, h_obj_eq (τo S.1.length), j_lt (show S.1.length < 2 ^ 31 by omega) (show S.1.length < 2 ^ 31 by omega), Nat.lt_irrefl])
  let τ2 : sSt := ((τ S.1.length).1.set a (.inl (5, [.ref (a + 1), .ref (a + 2), .int (nI (S.1.length - 1)), .int (nI S.2.1), .int (nI S.2.2.1), .int S.2.2.2.1])), σ.2)
  have l1 : (τ S.1.length).1.length = σ.1.length := by show (σ.1.set _ _).length = _; rw [List.length_set]
  have le : (S.1.eraseIdx i).length = S.1.length - 1 := by rw [List.length_eraseIdx, if_pos hi]
  refine ⟨τ2, mV_eq o1 rfl rfl ?_, ⟨h0.erase hi, ?_, F S.1.length, (List.getElem?_set_ne (by omega)).trans (τr _), ?_⟩, ⟨by show _ ≤ ((σ.1.set _ _).set _ _).length; rw [List.length_set, List.length_set]; exact Nat.le_refl _, fun k hk hF => ?_⟩, by show ((σ.1.set _ _).set _ _).length = _; rw [List.length_set, List.length_set], rfl⟩
  · unfold B_X6_closeUp
    simp only [x_and, x_or, x_shl, x_shr, x_k, x_i, x_r, x_nil, x_add, x_sub, x_mul, x_div, x_rem, x_get, x_getR, x_ald, x_aldR, x_len, x_lenR, x_if, xa_nil, xa_ci, xa_cr, x_callI, x_callR, x_new, x_newa, x_newq, x_max, x_min, xc_cmp, xc_cmp0, xc_null, xc_nn, xc_not, xc_and, xc_or, xc_if, xs_skip, xs_seq, xs_decI, xs_decR, xs_setI, xs_inc, xs_if, xs_blk, xs_retI, xs_retB, xs_retR, xs_retD, xs_ret0, xs_putI, xs_putZ, xs_putR, xs_putop, xs_ast, xs_astop, xs_astR, xs_callV, xs_callP, xs_super, xs_sw, s_go_inl, s_go_inr, s_cut_inl, s_cut_inr, o_void_n, v_i_int, v_i_none, v_r_ref, v_r_null, v_r_rf, h_set_some, o_some_s, zB_ne0, zB_ite, zB_ite2, g_Vn, g_Pi, nI_add, Option.bind_some, Option.map_some, Option.bind_none, Option.map_none, List.getElem?_cons_zero, List.getElem?_cons_succ, List.set_cons_zero, List.set_cons_succ, List.cons_append, List.nil_append, List.take_succ_cons, List.take_zero, List.length_cons, List.length_nil, Nat.zero_add, Nat.reduceAdd, Nat.reduceLT, if_true, if_false, Bool.false_eq_true, Bool.true_eq_false, decide_eq_true_eq, decide_true, decide_false, Bool.not_true, Bool.not_false, Option.isNone_none, Option.isNone_some, Option.isSome_none, Option.isSome_some, ite_true, ite_false, reduceIte, reduceCtorEq, and_true, true_and, eq_self, Option.some.injEq, Sum.inr.injEq, Sum.inl.injEq, Prod.mk.injEq, hw, h_obj_eq (τo S.1.length), pk_sub (show 1 ≤ S.1.length by omega)]
    rfl
  · show τ2.1[a]? = some (.inl (5, [.ref (a + 1), .ref (a + 2), .int (nI (S.1.eraseIdx i).length), .int (nI S.2.1), .int (nI S.2.2.1), .int S.2.2.2.1]))
    rw [le]
    exact List.getElem?_set_self (by omega)
  · intro k x hx
    have hx : (S.1.eraseIdx i)[k]? = some x := hx
    have hk : k < S.1.length - 1 := by rw [← le]; exact (List.getElem?_eq_some_iff.mp hx).1
    rw [List.getElem?_eraseIdx] at hx
    show (if _ then _ else _) = _
    by_cases c : k < i
    · rw [if_pos c] at hx
      rw [if_neg (by omega)]
      exact o3 k x hx
    · rw [if_neg c] at hx
      rw [if_pos (by omega)]
      exact o3 (k + 1) x hx
  · exact (List.getElem?_set_ne (fun e => hF (Or.inl e.symm))).trans (List.getElem?_set_ne (fun e => hF (Or.inr e.symm)))
end
