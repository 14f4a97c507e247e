/-! StairKin's calls (own work): those that change -/
theorem nI_nneg {n : Nat} (h : n < 2 ^ 31) (z : i_lt (nI n) 0 = true) : False := by rw [j_lt0 h] at z; cases z
theorem dAdd_no {S : tS} (h : okS S) (x y : Int32) : i_lt (dAdd S x y).1 0 = true → (dAdd S x y).2 = S := by
  have := h.1
  unfold dAdd
  split
  · split
    · exact fun _ => rfl
    · exact fun z => (nI_nneg (by omega) z).elim
  · exact fun _ => rfl
theorem dTake_no {S : tS} (h : okS S) (x : Int32) : i_lt (dTake S x).1 0 = true → (dTake S x).2 = S := by
  have b := sN_ok h (nN x)
  unfold dTake
  split
  · exact fun z => (nI_nneg (by omega) z).elim
  · exact fun _ => rfl
theorem dShare_no {S : tS} (h : okS S) (x : Int32) : i_lt (dShare S x).1 0 = true → (dShare S x).2 = S := by
  have b := sN_ok h (nN x)
  have g := gcd_le (a := sN S (nN x)) (b := sN S (nN x + 1)) b.1
  unfold dShare
  split
  · split
    · exact fun _ => rfl
    · exact fun z => (nI_nneg (by omega) z).elim
  · exact fun _ => rfl
theorem dDivide_no {S : tS} (h : okS S) (x : Int32) : i_lt (dDivide S x).1 0 = true → (dDivide S x).2 = S := by
  have b := sN_ok h (nN x + 1)
  have g := Nat.div_le_self (sN S (nN x + 1)) (sN S (nN x))
  unfold dDivide
  split
  · split
    · exact fun z => (nI_nneg (by omega) z).elim
    · exact fun _ => rfl
  · exact fun _ => rfl
theorem dStrike_no {S : tS} (h : okS S) (x y : Int32) : i_lt (dStrike S x y).1 0 = true → (dStrike S x y).2 = S := by
  have b := sN_ok h (nN x)
  have g := Nat.div_le_self (sN S (nN x)) (nN y)
  unfold dStrike
  split
  · split
    · exact fun z => (nI_nneg (by omega) z).elim
    · exact fun _ => rfl
  · exact fun _ => rfl
theorem dSet_no {S : tS} (h : okS S) (x y : Int32) : i_lt (dSet S x y).1 0 = true → (dSet S x y).2 = S := by
  have b := h.2.2
  unfold dSet
  split
  · exact fun z => (nI_nneg (by omega) z).elim
  · split
    · exact fun z => (nI_nneg (by omega) z).elim
    · exact fun _ => rfl
section
variable {σ : sSt} {M : tM} {V : tV}
theorem WV.ok (h : WV σ M V) : okS V.1 ∧ V.2.1.length ≤ 4 := by
  obtain ⟨P, C, T, fi, er, nu, po, w, v⟩ := h
  have := w.now.1.1
  rw [v.1] at this
  exact ⟨this, w.2.2.2.2.2.2.2.2.2⟩
theorem WV.obj (h : WV σ M V) : ∃ sv er nu po, σ.1[0]? = some (.inl (6, kF sv er nu po)) := by
  obtain ⟨P, C, T, fi, er, nu, po, w, v⟩ := h
  exact ⟨_, _, _, _, w.2.1⟩
theorem k_add (h : WV σ M V) (x y : Int32) : ∃ σ', M_X8_add [.ref 0, .int x, .int y] σ = some (some (.int (wrap V (dAdd V.1 x y)).1), σ') ∧ WV σ' M (wrap V (dAdd V.1 x y)).2 := by
  obtain ⟨σ', e, w⟩ := wrapC h (L := [.ref 0, .int x, .int y]) rfl (E := e_callI M_X6_putIn (a_cr (e_getR 6 0 (e_r 0)) (a_ci (e_i 1) (a_ci (e_i 2) a_nil)))) (r := dAdd V.1 x y) (fun w1 t0 => by
    obtain ⟨σ2, p', c', r2, t2, e2⟩ := f_putD w1.now x y
    rw [t0] at r2 t2
    obtain ⟨P2, C2, w2⟩ := w1.deed (i := 0) (by omega) t2 e2
    exact ⟨σ2, P2, C2, by simp only [x_and, x_or, x_shl, x_shr, x_k, x_i, x_r, x_nil, x_add, x_sub, x_mul, x_div, x_rem, x_get, x_getR, x_ald, x_aldR, x_len, x_lenR, x_if, xa_nil, xa_ci, xa_cr, x_callI, x_callR, x_new, x_newa, x_newq, x_max, x_min, xc_cmp, xc_cmp0, xc_null, xc_nn, xc_not, xc_and, xc_or, xc_if, xs_skip, xs_seq, xs_decI, xs_decR, xs_setI, xs_inc, xs_if, xs_blk, xs_retI, xs_retB, xs_retR, xs_retD, xs_ret0, xs_putI, xs_putZ, xs_putR, xs_putop, xs_ast, xs_astop, xs_astR, xs_callV, xs_callP, xs_super, xs_sw, s_go_inl, s_go_inr, s_cut_inl, s_cut_inr, o_void_n, v_i_int, v_i_none, v_r_ref, v_r_null, v_r_rf, h_set_some, o_some_s, zB_ne0, zB_ite, zB_ite2, g_Vn, g_Pi, nI_add, Option.bind_some, Option.map_some, Option.bind_none, Option.map_none, List.getElem?_cons_zero, List.getElem?_cons_succ, List.set_cons_zero, List.set_cons_succ, List.cons_append, List.nil_append, List.take_succ_cons, List.take_zero, List.length_cons, List.length_nil, Nat.zero_add, Nat.reduceAdd, Nat.reduceLT, if_true, if_false, Bool.false_eq_true, Bool.true_eq_false, decide_eq_true_eq, decide_true, decide_false, Bool.not_true, Bool.not_false, Option.isNone_none, Option.isNone_some, Option.isSome_none, Option.isSome_some, ite_true, ite_false, reduceIte, reduceCtorEq, and_true, true_and, eq_self, Option.some.injEq, Sum.inr.injEq, Sum.inl.injEq, Prod.mk.injEq, w1.obj, kg0, v_rf, r2], w2⟩) (dAdd_no h.ok.1 x y)
  obtain ⟨sv, er, nu, po, ob⟩ := h.obj
  exact ⟨σ', mV_eq ob rfl rfl (by unfold B_X8_add; exact e), w⟩
theorem k_take (h : WV σ M V) (x : Int32) : ∃ σ', M_X8_take [.ref 0, .int x] σ = some (some (.int (wrap V (dTake V.1 x)).1), σ') ∧ WV σ' M (wrap V (dTake V.1 x)).2 := by
  obtain ⟨σ', e, w⟩ := wrapC h (L := [.ref 0, .int x]) rfl (E := e_callI M_X6_takeOff (a_cr (e_getR 6 0 (e_r 0)) (a_ci (e_i 1) a_nil))) (r := dTake V.1 x) (fun w1 t0 => by
    obtain ⟨σ2, p', c', r2, t2, e2⟩ := f_takeD w1.now x
    rw [t0] at r2 t2
    obtain ⟨P2, C2, w2⟩ := w1.deed (i := 0) (by omega) t2 e2
    exact ⟨σ2, P2, C2, by simp only [x_and, x_or, x_shl, x_shr, x_k, x_i, x_r, x_nil, x_add, x_sub, x_mul, x_div, x_rem, x_get, x_getR, x_ald, x_aldR, x_len, x_lenR, x_if, xa_nil, xa_ci, xa_cr, x_callI, x_callR, x_new, x_newa, x_newq, x_max, x_min, xc_cmp, xc_cmp0, xc_null, xc_nn, xc_not, xc_and, xc_or, xc_if, xs_skip, xs_seq, xs_decI, xs_decR, xs_setI, xs_inc, xs_if, xs_blk, xs_retI, xs_retB, xs_retR, xs_retD, xs_ret0, xs_putI, xs_putZ, xs_putR, xs_putop, xs_ast, xs_astop, xs_astR, xs_callV, xs_callP, xs_super, xs_sw, s_go_inl, s_go_inr, s_cut_inl, s_cut_inr, o_void_n, v_i_int, v_i_none, v_r_ref, v_r_null, v_r_rf, h_set_some, o_some_s, zB_ne0, zB_ite, zB_ite2, g_Vn, g_Pi, nI_add, Option.bind_some, Option.map_some, Option.bind_none, Option.map_none, List.getElem?_cons_zero, List.getElem?_cons_succ, List.set_cons_zero, List.set_cons_succ, List.cons_append, List.nil_append, List.take_succ_cons, List.take_zero, List.length_cons, List.length_nil, Nat.zero_add, Nat.reduceAdd, Nat.reduceLT, if_true, if_false, Bool.false_eq_true, Bool.true_eq_false, decide_eq_true_eq, decide_true, decide_false, Bool.not_true, Bool.not_false, Option.isNone_none, Option.isNone_some, Option.isSome_none, Option.isSome_some, ite_true, ite_false, reduceIte, reduceCtorEq, and_true, true_and, eq_self, Option.some.injEq, Sum.inr.injEq, Sum.inl.injEq, Prod.mk.injEq, w1.obj, kg0, v_rf, r2], w2⟩) (dTake_no h.ok.1 x)
  obtain ⟨sv, er, nu, po, ob⟩ := h.obj
  exact ⟨σ', mV_eq ob rfl rfl (by unfold B_X8_take; exact e), w⟩
theorem k_share (h : WV σ M V) (x : Int32) : ∃ σ', M_X8_share [.ref 0, .int x] σ = some (some (.int (wrap V (dShare V.1 x)).1), σ') ∧ WV σ' M (wrap V (dShare V.1 x)).2 := by
  obtain ⟨σ', e, w⟩ := wrapC h (L := [.ref 0, .int x]) rfl (E := e_callI M_X6_shareAt (a_cr (e_getR 6 0 (e_r 0)) (a_ci (e_i 1) a_nil))) (r := dShare V.1 x) (fun w1 t0 => by
    obtain ⟨σ2, p', c', r2, t2, e2⟩ := f_shareD w1.now x
    rw [t0] at r2 t2
    obtain ⟨P2, C2, w2⟩ := w1.deed (i := 0) (by omega) t2 e2
    exact ⟨σ2, P2, C2, by simp only [x_and, x_or, x_shl, x_shr, x_k, x_i, x_r, x_nil, x_add, x_sub, x_mul, x_div, x_rem, x_get, x_getR, x_ald, x_aldR, x_len, x_lenR, x_if, xa_nil, xa_ci, xa_cr, x_callI, x_callR, x_new, x_newa, x_newq, x_max, x_min, xc_cmp, xc_cmp0, xc_null, xc_nn, xc_not, xc_and, xc_or, xc_if, xs_skip, xs_seq, xs_decI, xs_decR, xs_setI, xs_inc, xs_if, xs_blk, xs_retI, xs_retB, xs_retR, xs_retD, xs_ret0, xs_putI, xs_putZ, xs_putR, xs_putop, xs_ast, xs_astop, xs_astR, xs_callV, xs_callP, xs_super, xs_sw, s_go_inl, s_go_inr, s_cut_inl, s_cut_inr, o_void_n, v_i_int, v_i_none, v_r_ref, v_r_null, v_r_rf, h_set_some, o_some_s, zB_ne0, zB_ite, zB_ite2, g_Vn, g_Pi, nI_add, Option.bind_some, Option.map_some, Option.bind_none, Option.map_none, List.getElem?_cons_zero, List.getElem?_cons_succ, List.set_cons_zero, List.set_cons_succ, List.cons_append, List.nil_append, List.take_succ_cons, List.take_zero, List.length_cons, List.length_nil, Nat.zero_add, Nat.reduceAdd, Nat.reduceLT, if_true, if_false, Bool.false_eq_true, Bool.true_eq_false, decide_eq_true_eq, decide_true, decide_false, Bool.not_true, Bool.not_false, Option.isNone_none, Option.isNone_some, Option.isSome_none, Option.isSome_some, ite_true, ite_false, reduceIte, reduceCtorEq, and_true, true_and, eq_self, Option.some.injEq, Sum.inr.injEq, Sum.inl.injEq, Prod.mk.injEq, w1.obj, kg0, v_rf, r2], w2⟩) (dShare_no h.ok.1 x)
  obtain ⟨sv, er, nu, po, ob⟩ := h.obj
  exact ⟨σ', mV_eq ob rfl rfl (by unfold B_X8_share; exact e), w⟩
theorem k_divide (h : WV σ M V) (x : Int32) : ∃ σ', M_X8_divide [.ref 0, .int x] σ = some (some (.int (wrap V (dDivide V.1 x)).1), σ') ∧ WV σ' M (wrap V (dDivide V.1 x)).2 := by
  obtain ⟨σ', e, w⟩ := wrapC h (L := [.ref 0, .int x]) rfl (E := e_callI M_X6_divideAt (a_cr (e_getR 6 0 (e_r 0)) (a_ci (e_i 1) a_nil))) (r := dDivide V.1 x) (fun w1 t0 => by
    obtain ⟨σ2, p', c', r2, t2, e2⟩ := f_divideD w1.now x
    rw [t0] at r2 t2
    obtain ⟨P2, C2, w2⟩ := w1.deed (i := 0) (by omega) t2 e2
    exact ⟨σ2, P2, C2, by simp only [x_and, x_or, x_shl, x_shr, x_k, x_i, x_r, x_nil, x_add, x_sub, x_mul, x_div, x_rem, x_get, x_getR, x_ald, x_aldR, x_len, x_lenR, x_if, xa_nil, xa_ci, xa_cr, x_callI, x_callR, x_new, x_newa, x_newq, x_max, x_min, xc_cmp, xc_cmp0, xc_null, xc_nn, xc_not, xc_and, xc_or, xc_if, xs_skip, xs_seq, xs_decI, xs_decR, xs_setI, xs_inc, xs_if, xs_blk, xs_retI, xs_retB, xs_retR, xs_retD, xs_ret0, xs_putI, xs_putZ, xs_putR, xs_putop, xs_ast, xs_astop, xs_astR, xs_callV, xs_callP, xs_super, xs_sw, s_go_inl, s_go_inr, s_cut_inl, s_cut_inr, o_void_n, v_i_int, v_i_none, v_r_ref, v_r_null, v_r_rf, h_set_some, o_some_s, zB_ne0, zB_ite, zB_ite2, g_Vn, g_Pi, nI_add, Option.bind_some, Option.map_some, Option.bind_none, Option.map_none, List.getElem?_cons_zero, List.getElem?_cons_succ, List.set_cons_zero, List.set_cons_succ, List.cons_append, List.nil_append, List.take_succ_cons, List.take_zero, List.length_cons, List.length_nil, Nat.zero_add, Nat.reduceAdd, Nat.reduceLT, if_true, if_false, Bool.false_eq_true, Bool.true_eq_false, decide_eq_true_eq, decide_true, decide_false, Bool.not_true, Bool.not_false, Option.isNone_none, Option.isNone_some, Option.isSome_none, Option.isSome_some, ite_true, ite_false, reduceIte, reduceCtorEq, and_true, true_and, eq_self, Option.some.injEq, Sum.inr.injEq, Sum.inl.injEq, Prod.mk.injEq, w1.obj, kg0, v_rf, r2], w2⟩) (dDivide_no h.ok.1 x)
  obtain ⟨sv, er, nu, po, ob⟩ := h.obj
  exact ⟨σ', mV_eq ob rfl rfl (by unfold B_X8_divide; exact e), w⟩
theorem k_strike (h : WV σ M V) (x y : Int32) : ∃ σ', M_X8_strike [.ref 0, .int x, .int y] σ = some (some (.int (wrap V (dStrike V.1 x y)).1), σ') ∧ WV σ' M (wrap V (dStrike V.1 x y)).2 := by
  obtain ⟨σ', e, w⟩ := wrapC h (L := [.ref 0, .int x, .int y]) rfl (E := e_callI M_X6_strikeBy (a_cr (e_getR 6 0 (e_r 0)) (a_ci (e_i 1) (a_ci (e_i 2) a_nil)))) (r := dStrike V.1 x y) (fun w1 t0 => by
    obtain ⟨σ2, p', c', r2, t2, e2⟩ := f_strikeD w1.now x y
    rw [t0] at r2 t2
    obtain ⟨P2, C2, w2⟩ := w1.deed (i := 0) (by omega) t2 e2
    exact ⟨σ2, P2, C2, by simp only [x_and, x_or, x_shl, x_shr, x_k, x_i, x_r, x_nil, x_add, x_sub, x_mul, x_div, x_rem, x_get, x_getR, x_ald, x_aldR, x_len, x_lenR, x_if, xa_nil, xa_ci, xa_cr, x_callI, x_callR, x_new, x_newa, x_newq, x_max, x_min, xc_cmp, xc_cmp0, xc_null, xc_nn, xc_not, xc_and, xc_or, xc_if, xs_skip, xs_seq, xs_decI, xs_decR, xs_setI, xs_inc, xs_if, xs_blk, xs_retI, xs_retB, xs_retR, xs_retD, xs_ret0, xs_putI, xs_putZ, xs_putR, xs_putop, xs_ast, xs_astop, xs_astR, xs_callV, xs_callP, xs_super, xs_sw, s_go_inl, s_go_inr, s_cut_inl, s_cut_inr, o_void_n, v_i_int, v_i_none, v_r_ref, v_r_null, v_r_rf, h_set_some, o_some_s, zB_ne0, zB_ite, zB_ite2, g_Vn, g_Pi, nI_add, Option.bind_some, Option.map_some, Option.bind_none, Option.map_none, List.getElem?_cons_zero, List.getElem?_cons_succ, List.set_cons_zero, List.set_cons_succ, List.cons_append, List.nil_append, List.take_succ_cons, List.take_zero, List.length_cons, List.length_nil, Nat.zero_add, Nat.reduceAdd, Nat.reduceLT, if_true, if_false, Bool.false_eq_true, Bool.true_eq_false, decide_eq_true_eq, decide_true, decide_false, Bool.not_true, Bool.not_false, Option.isNone_none, Option.isNone_some, Option.isSome_none, Option.isSome_some, ite_true, ite_false, reduceIte, reduceCtorEq, and_true, true_and, eq_self, Option.some.injEq, Sum.inr.injEq, Sum.inl.injEq, Prod.mk.injEq, w1.obj, kg0, v_rf, r2], w2⟩) (dStrike_no h.ok.1 x y)
  obtain ⟨sv, er, nu, po, ob⟩ := h.obj
  exact ⟨σ', mV_eq ob rfl rfl (by unfold B_X8_strike; exact e), w⟩
theorem k_set (h : WV σ M V) (x y : Int32) : ∃ σ', M_X8_set [.ref 0, .int x, .int y] σ = some (some (.int (wrap V (dSet V.1 x y)).1), σ') ∧ WV σ' M (wrap V (dSet V.1 x y)).2 := by
  obtain ⟨σ', e, w⟩ := wrapC h (L := [.ref 0, .int x, .int y]) rfl (E := e_callI M_X6_changeSetting (a_cr (e_getR 6 0 (e_r 0)) (a_ci (e_i 1) (a_ci (e_i 2) a_nil)))) (r := dSet V.1 x y) (fun w1 t0 => by
    obtain ⟨σ2, p', c', r2, t2, e2⟩ := f_setD w1.now x y
    rw [t0] at r2 t2
    obtain ⟨P2, C2, w2⟩ := w1.deed (i := 0) (by omega) t2 e2
    exact ⟨σ2, P2, C2, by simp only [x_and, x_or, x_shl, x_shr, x_k, x_i, x_r, x_nil, x_add, x_sub, x_mul, x_div, x_rem, x_get, x_getR, x_ald, x_aldR, x_len, x_lenR, x_if, xa_nil, xa_ci, xa_cr, x_callI, x_callR, x_new, x_newa, x_newq, x_max, x_min, xc_cmp, xc_cmp0, xc_null, xc_nn, xc_not, xc_and, xc_or, xc_if, xs_skip, xs_seq, xs_decI, xs_decR, xs_setI, xs_inc, xs_if, xs_blk, xs_retI, xs_retB, xs_retR, xs_retD, xs_ret0, xs_putI, xs_putZ, xs_putR, xs_putop, xs_ast, xs_astop, xs_astR, xs_callV, xs_callP, xs_super, xs_sw, s_go_inl, s_go_inr, s_cut_inl, s_cut_inr, o_void_n, v_i_int, v_i_none, v_r_ref, v_r_null, v_r_rf, h_set_some, o_some_s, zB_ne0, zB_ite, zB_ite2, g_Vn, g_Pi, nI_add, Option.bind_some, Option.map_some, Option.bind_none, Option.map_none, List.getElem?_cons_zero, List.getElem?_cons_succ, List.set_cons_zero, List.set_cons_succ, List.cons_append, List.nil_append, List.take_succ_cons, List.take_zero, List.length_cons, List.length_nil, Nat.zero_add, Nat.reduceAdd, Nat.reduceLT, if_true, if_false, Bool.false_eq_true, Bool.true_eq_false, decide_eq_true_eq, decide_true, decide_false, Bool.not_true, Bool.not_false, Option.isNone_none, Option.isNone_some, Option.isSome_none, Option.isSome_some, ite_true, ite_false, reduceIte, reduceCtorEq, and_true, true_and, eq_self, Option.some.injEq, Sum.inr.injEq, Sum.inl.injEq, Prod.mk.injEq, w1.obj, kg0, v_rf, r2], w2⟩) (dSet_no h.ok.1 x y)
  obtain ⟨sv, er, nu, po, ob⟩ := h.obj
  exact ⟨σ', mV_eq ob rfl rfl (by unfold B_X8_set; exact e), w⟩
/-- behind a change: it is kept -/
theorem keepV {σ2 : sSt} {P2 C2 : Nat → Nat} {T T2 : Nat → tS} {sv : Bool} {fi : Nat} {er nu po er' nu' po' : Int32} {p : List Nat} (w2 : W0 σ2 P2 C2 T2 sv fi V.2.1.length er' nu' po' p M) (v : RV T fi er nu po V) (hj : T2 (3 + (fi + V.2.1.length) % 5) = V.1) (h2 : T2 2 = T 2) (ho : ∀ k, k < V.2.1.length → T2 (3 + (fi + k) % 5) = T (3 + (fi + k) % 5)) {n : Nat} (hn : n < 2 ^ 31) : ∃ σ3 fi', M_X3_keep [.ref 19, .int (nI n)] σ2 = some (some (.int (nI n)), σ3) ∧ W0 σ3 P2 C2 T2 sv fi' (pushH V.2.1 V.1).length er' nu' po' p M ∧ RV T2 fi' er nu po (chg V (T2 0)) := by
  have hh : V.2.1.length ≤ 4 := w2.2.2.2.2.2.2.2.2.2
  have hf : fi < 5 := w2.2.2.2.2.2.2.2.2.1
  obtain ⟨σ3, r3, w3⟩ := f_keepYes w2 hn
  refine ⟨σ3, _, r3, ?_, v.push hf hh rfl hj h2 ho⟩
  rw [pushH_len hh]
  exact w3
theorem k_settle (h : WV σ M V) : ∃ σ', M_X8_settle [.ref 0] σ = some (some (.int (wrap V (dSettle V.1)).1), σ') ∧ WV σ' M (wrap V (dSettle V.1)).2 := by
  obtain ⟨P, C, T, fi, er, nu, po, w, v⟩ := h
  have hh : V.2.1.length ≤ 4 := w.2.2.2.2.2.2.2.2.2
  have hf : fi < 5 := w.2.2.2.2.2.2.2.2.1
  obtain ⟨σ1, P1, C1, r1, w1⟩ := w.copy (i := 1) (j := 0) (by omega) (by omega) (by omega)
  have r1 : M_X6_copyFrom [.ref 7, .ref 1] σ = some (none, σ1) := r1
  have t1 : StAt σ1 7 (P1 1) (C1 1) V.1 := by
    have := w1.sta (k := 1) (by omega)
    rw [show uN T 1 (T 0) 1 = V.1 from v.1] at this
    exact this
  obtain ⟨σ2, m2, l2, n2, g1, g2⟩ := f_shareInRounds t1
  unfold dSettle
  cases hs : sirF 13 V.1 with
  | none =>
    obtain ⟨r2, T', t2⟩ := g2 hs
    obtain ⟨P2, C2, w2⟩ := w1.deed (i := 1) (by omega) t2 (t1.eff1 (m2.mono (fun _ _ z => Or.inr z)) l2 n2)
    have e3 : i_lt (-3) 0 = true := by decide
    rw [show wrap V ((-3 : Int32), V.1) = (-3, V) from wrap_no V e3]
    refine ⟨σ2, mV_eq w.2.1 rfl rfl ?_, P2, C2, _, fi, er, nu, po, w2, v.oth ?_ ?_ (fun k hk => ?_)⟩
    · unfold B_X8_settle
      simp only [x_and, x_or, x_shl, x_shr, x_k, x_i, x_r, x_nil, x_add, x_sub, x_mul, x_div, x_rem, x_get, x_getR, x_ald, x_aldR, x_len, x_lenR, x_if, xa_nil, xa_ci, xa_cr, x_callI, x_callR, x_new, x_newa, x_newq, x_max, x_min, xc_cmp, xc_cmp0, xc_null, xc_nn, xc_not, xc_and, xc_or, xc_if, xs_skip, xs_seq, xs_decI, xs_decR, xs_setI, xs_inc, xs_if, xs_blk, xs_retI, xs_retB, xs_retR, xs_retD, xs_ret0, xs_putI, xs_putZ, xs_putR, xs_putop, xs_ast, xs_astop, xs_astR, xs_callV, xs_callP, xs_super, xs_sw, s_go_inl, s_go_inr, s_cut_inl, s_cut_inr, o_void_n, v_i_int, v_i_none, v_r_ref, v_r_null, v_r_rf, h_set_some, o_some_s, zB_ne0, zB_ite, zB_ite2, g_Vn, g_Pi, nI_add, Option.bind_some, Option.map_some, Option.bind_none, Option.map_none, List.getElem?_cons_zero, List.getElem?_cons_succ, List.set_cons_zero, List.set_cons_succ, List.cons_append, List.nil_append, List.take_succ_cons, List.take_zero, List.length_cons, List.length_nil, Nat.zero_add, Nat.reduceAdd, Nat.reduceLT, if_true, if_false, Bool.false_eq_true, Bool.true_eq_false, decide_eq_true_eq, decide_true, decide_false, Bool.not_true, Bool.not_false, Option.isNone_none, Option.isNone_some, Option.isSome_none, Option.isSome_some, ite_true, ite_false, reduceIte, reduceCtorEq, and_true, true_and, eq_self, Option.some.injEq, Sum.inr.injEq, Sum.inl.injEq, Prod.mk.injEq, w.obj, w1.obj, kg0, kg1, v_rf, r1, r2, e3]
    · show (if 0 = 1 then _ else if 0 = 1 then _ else T 0) = T 0
      rw [if_neg (by omega), if_neg (by omega)]
    · show (if 2 = 1 then _ else if 2 = 1 then _ else T 2) = T 2
      rw [if_neg (by omega), if_neg (by omega)]
    · show (if 3 + (fi + k) % 5 = 1 then _ else if 3 + (fi + k) % 5 = 1 then _ else T (3 + (fi + k) % 5)) = _
      rw [if_neg (by omega), if_neg (by omega)]
  | some x =>
    obtain ⟨m, Tr⟩ := x
    obtain ⟨r2, t2⟩ := g1 m Tr hs
    have hm : m ≤ 13 := sir_le 13 V.1 (m, Tr) hs
    obtain ⟨P2, C2, w2⟩ := w1.deed (i := 1) (by omega) t2 (t1.eff1 (m2.mono (fun _ _ z => Or.inr z)) l2 n2)
    obtain ⟨σ3, P3, C3, r3, w3⟩ := f_prepare w2
    obtain ⟨σ4, P4, C4, r4, w4⟩ := w3.copy (i := 0) (j := 1) (by omega) (by omega) (by omega)
    have r4 : M_X6_copyFrom [.ref 1, .ref 7] σ3 = some (none, σ4) := r4
    have e0 : i_lt (nI m) 0 = false := j_lt0 (by omega)
    rw [show wrap V (nI m, Tr) = (nI m, chg V Tr) from wrap_yes V (by omega)]
    obtain ⟨T4, hT4⟩ : ∃ T4, T4 = uN (uN (uN (uN T 1 (T 0)) 1 Tr) (3 + (fi + V.2.1.length) % 5) (uN (uN T 1 (T 0)) 1 Tr 0)) 0 (uN (uN (uN T 1 (T 0)) 1 Tr) (3 + (fi + V.2.1.length) % 5) (uN (uN T 1 (T 0)) 1 Tr 0) 1) := ⟨_, rfl⟩
    rw [← hT4] at w4
    have q0 : T4 0 = Tr := by
      rw [hT4]
      show (if 1 = 3 + (fi + V.2.1.length) % 5 then _ else Tr) = Tr
      rw [if_neg (by omega)]
    obtain ⟨σ5, fi', r5, w5, v5⟩ := keepV w4 v (by
      rw [hT4]
      show (if 3 + (fi + V.2.1.length) % 5 = 0 then _ else if 3 + (fi + V.2.1.length) % 5 = 3 + (fi + V.2.1.length) % 5 then T 0 else _) = V.1
      rw [if_neg (by omega), if_pos rfl]
      exact v.1) (by
      rw [hT4]
      show (if 2 = 0 then _ else if 2 = 3 + (fi + V.2.1.length) % 5 then _ else if 2 = 1 then _ else if 2 = 1 then _ else T 2) = T 2
      rw [if_neg (by omega), if_neg (by omega), if_neg (by omega), if_neg (by omega)]) (fun k hk => by
      rw [hT4]
      show (if 3 + (fi + k) % 5 = 0 then _ else if 3 + (fi + k) % 5 = 3 + (fi + V.2.1.length) % 5 then _ else if 3 + (fi + k) % 5 = 1 then _ else if 3 + (fi + k) % 5 = 1 then _ else T (3 + (fi + k) % 5)) = _
      rw [if_neg (by omega), if_neg (ring_ne hk hh), if_neg (by omega), if_neg (by omega)]) (n := m) (by omega)
    rw [q0] at v5
    refine ⟨σ5, mV_eq w.2.1 rfl rfl ?_, P4, C4, T4, fi', er, nu, po, w5, v5⟩
    unfold B_X8_settle
    simp only [x_and, x_or, x_shl, x_shr, x_k, x_i, x_r, x_nil, x_add, x_sub, x_mul, x_div, x_rem, x_get, x_getR, x_ald, x_aldR, x_len, x_lenR, x_if, xa_nil, xa_ci, xa_cr, x_callI, x_callR, x_new, x_newa, x_newq, x_max, x_min, xc_cmp, xc_cmp0, xc_null, xc_nn, xc_not, xc_and, xc_or, xc_if, xs_skip, xs_seq, xs_decI, xs_decR, xs_setI, xs_inc, xs_if, xs_blk, xs_retI, xs_retB, xs_retR, xs_retD, xs_ret0, xs_putI, xs_putZ, xs_putR, xs_putop, xs_ast, xs_astop, xs_astR, xs_callV, xs_callP, xs_super, xs_sw, s_go_inl, s_go_inr, s_cut_inl, s_cut_inr, o_void_n, v_i_int, v_i_none, v_r_ref, v_r_null, v_r_rf, h_set_some, o_some_s, zB_ne0, zB_ite, zB_ite2, g_Vn, g_Pi, nI_add, Option.bind_some, Option.map_some, Option.bind_none, Option.map_none, List.getElem?_cons_zero, List.getElem?_cons_succ, List.set_cons_zero, List.set_cons_succ, List.cons_append, List.nil_append, List.take_succ_cons, List.take_zero, List.length_cons, List.length_nil, Nat.zero_add, Nat.reduceAdd, Nat.reduceLT, if_true, if_false, Bool.false_eq_true, Bool.true_eq_false, decide_eq_true_eq, decide_true, decide_false, Bool.not_true, Bool.not_false, Option.isNone_none, Option.isNone_some, Option.isSome_none, Option.isSome_some, ite_true, ite_false, reduceIte, reduceCtorEq, and_true, true_and, eq_self, Option.some.injEq, Sum.inr.injEq, Sum.inl.injEq, Prod.mk.injEq, w.obj, w1.obj, w2.obj, w3.obj, w4.obj, kg0, kg1, kg4, v_rf, r1, r2, e0, r3, r4, r5]
end
