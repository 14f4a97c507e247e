/-! StairKin's calls (own work): those that change -/
theorem nI_nneg {n : Nat} (h : n < 2 ^ 31) (z : i_lt (nI n) 0 = true) : False := by rw [j_lt0 h] at z; cases z
theorem dAdd_no {S : tS} (h : okS S) (x y : Int32) : i_lt (dAdd S x y).1 0 = true → (dAdd S x y).2 = S := by
  have := h.1
  unfold dAdd
  split
  · split
    · exact fun _ => rfl
    · exact fun z => (nI_nneg (by omega) z).elim
  · exact fun _ => rfl
theorem dTake_no {S : tS} (h : okS S) (x : Int32) : i_lt (dTake S x).1 0 = true → (dTake S x).2 = S := by
  have b := sN_ok h (nN x)
  unfold dTake
  split
  · exact fun z => (nI_nneg (by omega) z).elim
  · exact fun _ => rfl
theorem dShare_no {S : tS} (h : okS S) (x : Int32) : i_lt (dShare S x).1 0 = true → (dShare S x).2 = S := by
  have b := sN_ok h (nN x)
  have g := gcd_le (a := sN S (nN x)) (b := sN S (nN x + 1)) b.1
  unfold dShare
  split
  · split
    · exact fun _ => rfl
    · exact fun z => (nI_nneg (by omega) z).elim
  · exact fun _ => rfl
theorem dDivide_no {S : tS} (h : okS S) (x : Int32) : i_lt (dDivide S x).1 0 = true → (dDivide S x).2 = S := by
  have b := sN_ok h (nN x + 1)
  have g := Nat.div_le_self (sN S (nN x + 1)) (sN S (nN x))
  unfold dDivide
  split
  · split
    · exact fun z => (nI_nneg (by omega) z).elim
    · exact fun _ => rfl
  · exact fun _ => rfl
theorem dStrike_no {S : tS} (h : okS S) (x y : Int32) : i_lt (dStrike S x y).1 0 = true → (dStrike S x y).2 = S := by
  have b := sN_ok h (nN x)
  have g := Nat.div_le_self (sN S (nN x)) (nN y)
  unfold dStrike
  split
  · split
    · exact fun z => (nI_nneg (by omega) z).elim
    · exact fun _ => rfl
  · exact fun _ => rfl
theorem dSet_no {S : tS} (h : okS S) (x y : Int32) : i_lt (dSet S x y).1 0 = true → (dSet S x y).2 = S := by
  have b := h.2.2
  unfold dSet
  split
  · exact fun z => (nI_nneg (by omega) z).elim
  · split
    · exact fun z => (nI_nneg (by omega) z).elim
    · exact fun _ => rfl
section
variable {σ : sSt} {M : tM} {V : tV}
theorem WV.ok (h : WV σ M V) : okS V.1 ∧ V.2.1.length ≤ 4 := by
  obtain ⟨P, C, T, fi, er, nu, po, w, v⟩ := h
  have := w.now.1.1
  rw [v.1] at this
  exact ⟨this, w.2.2.2.2.2.2.2.2.2⟩
theorem WV.obj (h : WV σ M V) : ∃ sv er nu po, σ.1[0]? = some (.inl (6, kF sv er nu po)) := by
  obtain ⟨P, C, T, fi, er, nu, po, w, v⟩ := h
  exact ⟨_, _, _, _, w.2.1⟩
theorem k_add (h : WV σ M V) (x y : Int32) : ∃ σ', M_X8_add [.ref 0, .int x, .int y] σ = some (some (.int (wrap V (dAdd V.1 x y)).1), σ') ∧ WV σ' M (wrap V (dAdd V.1 x y)).2 := by
  obtain ⟨σ', e, w⟩ := wrapC h (L := [.ref 0, .int x, .int y]) rfl (E := e_callI M_X6_putIn (a_cr (e_getR 6 0 (e_r 0)) (a_ci (e_i 1) (a_ci (e_i 2) a_nil)))) (r := dAdd V.1 x y) (fun w1 t0 => by
    obtain ⟨σ2, p', c', r2, t2, e2⟩ := f_putD w1.now x y
    rw [t0] at r2 t2
    obtain ⟨P2, C2, w2⟩ := w1.deed (i := 0) (by omega) t2 e2
    exact ⟨σ2, P2, C2, by simp only [x_k, x_i, x_r, x_nil, x_add, x_sub, x_mul, x_div, x_rem, x_get, x_getR, x_ald, x_aldR, x_len, x_lenR, x_if, xa_nil, xa_ci, xa_cr, x_callI, x_callR, x_new, x_newa, x_newq, x_max, x_min, xc_cmp, xc_cmp0, xc_null, xc_nn, xc_not, xc_and, xc_or, xc_if, xs_skip, xs_seq, xs_decI, xs_decR, xs_setI, xs_inc, xs_if, xs_blk, xs_retI, xs_retB, xs_retR, xs_retD, xs_ret0, xs_putI, xs_putZ, xs_putR, xs_putop, xs_ast, xs_astop, xs_astR, xs_callV, xs_callP, xs_super, xs_sw, s_go_inl, s_go_inr, s_cut_inl, s_cut_inr, o_void_n, v_i_int, v_i_none, v_r_ref, v_r_null, v_r_rf, h_set_some, o_some_s, zB_ne0, zB_ite, zB_ite2, g_Vn, g_Pi, nI_add, Option.bind_some, Option.map_some, Option.bind_none, Option.map_none, List.getElem?_cons_zero, List.getElem?_cons_succ, List.set_cons_zero, List.set_cons_succ, List.cons_append, List.nil_append, List.take_succ_cons, List.take_zero, List.length_cons, List.length_nil, Nat.zero_add, Nat.reduceAdd, Nat.reduceLT, if_true, if_false, Bool.false_eq_true, Bool.true_eq_false, decide_eq_true_eq, decide_true, decide_false, Bool.not_true, Bool.not_false, Option.isNone_none, Option.isNone_some, Option.isSome_none, Option.isSome_some, ite_true, ite_false, reduceIte, reduceCtorEq, and_true, true_and, eq_self, Option.some.injEq, Sum.inr.injEq, Sum.inl.injEq, Prod.mk.injEq, w1.obj, kg0, v_rf, r2], w2⟩) (dAdd_no h.ok.1 x y)
  obtain ⟨sv, er, nu, po, ob⟩ := h.obj
  exact ⟨σ', mV_eq ob rfl rfl (by unfold B_X8_add; exact e), w⟩
theorem k_take (h : WV σ M V) (x : Int32) : ∃ σ', M_X8_take [.ref 0, .int x] σ = some (some (.int (wrap V (dTake V.1 x)).1), σ') ∧ WV σ' M (wrap V (dTake V.1 x)).2 := by
  obtain ⟨σ', e, w⟩ := wrapC h (L := [.ref 0, .int x]) rfl (E := e_callI M_X6_takeOff (a_cr (e_getR 6 0 (e_r 0)) (a_ci (e_i 1) a_nil))) (r := dTake V.1 x) (fun w1 t0 => by
    obtain ⟨σ2, p', c', r2, t2, e2⟩ := f_takeD w1.now x
    rw [t0] at r2 t2
    obtain ⟨P2, C2, w2⟩ := w1.deed (i := 0) (by omega) t2 e2
    exact ⟨σ2, P2, C2, by simp only [x_k, x_i, x_r, x_nil, x_add, x_sub, x_mul, x_div, x_rem, x_get, x_getR, x_ald, x_aldR, x_len, x_lenR, x_if, xa_nil, xa_ci, xa_cr, x_callI, x_callR, x_new, x_newa, x_newq, x_max, x_min, xc_cmp, xc_cmp0, xc_null, xc_nn, xc_not, xc_and, xc_or, xc_if, xs_skip, xs_seq, xs_decI, xs_decR, xs_setI, xs_inc, xs_if, xs_blk, xs_retI, xs_retB, xs_retR, xs_retD, xs_ret0, xs_putI, xs_putZ, xs_putR, xs_putop, xs_ast, xs_astop, xs_astR, xs_callV, xs_callP, xs_super, xs_sw, s_go_inl, s_go_inr, s_cut_inl, s_cut_inr, o_void_n, v_i_int, v_i_none, v_r_ref, v_r_null, v_r_rf, h_set_some, o_some_s, zB_ne0, zB_ite, zB_ite2, g_Vn, g_Pi, nI_add, Option.bind_some, Option.map_some, Option.bind_none, Option.map_none, List.getElem?_cons_zero, List.getElem?_cons_succ, List.set_cons_zero, List.set_cons_succ, List.cons_append, List.nil_append, List.take_succ_cons, List.take_zero, List.length_cons, List.length_nil, Nat.zero_add, Nat.reduceAdd, Nat.reduceLT, if_true, if_false, Bool.false_eq_true, Bool.true_eq_false, decide_eq_true_eq, decide_true, decide_false, Bool.not_true, Bool.not_false, Option.isNone_none, Option.isNone_some, Option.isSome_none, Option.isSome_some, ite_true, ite_false, reduceIte, reduceCtorEq, and_true, true_and, eq_self, Option.some.injEq, Sum.inr.injEq, Sum.inl.injEq, Prod.mk.injEq, w1.obj, kg0, v_rf, r2], w2⟩) (dTake_no h.ok.1 x)
  obtain ⟨sv, er, nu, po, ob⟩ := h.obj
  exact ⟨σ', mV_eq ob rfl rfl (by unfold B_X8_take; exact e), w⟩
theorem k_share (h : WV σ M V) (x : Int32) : ∃ σ', M_X8_share [.ref 0, .int x] σ = some (some (.int (wrap V (dShare V.1 x)).1), σ') ∧ WV σ' M (wrap V (dShare V.1 x)).2 := by
  obtain ⟨σ', e, w⟩ := wrapC h (L := [.ref 0, .int x]) rfl (E := e_callI M_X6_shareAt (a_cr (e_getR 6 0 (e_r 0)) (a_ci (e_i 1) a_nil))) (r := dShare V.1 x) (fun w1 t0 => by
    obtain ⟨σ2, p', c', r2, t2, e2⟩ := f_shareD w1.now x
    rw [t0] at r2 t2
    obtain ⟨P2, C2, w2⟩ := w1.deed (i := 0) (by omega) t2 e2
    exact ⟨σ2, P2, C2, by simp only [x_k, x_i, x_r, x_nil, x_add, x_sub, x_mul, x_div, x_rem, x_get, x_getR, x_ald, x_aldR, x_len, x_lenR, x_if, xa_nil, xa_ci, xa_cr, x_callI, x_callR, x_new, x_newa, x_newq, x_max, x_min, xc_cmp, xc_cmp0, xc_null, xc_nn, xc_not, xc_and, xc_or, xc_if, xs_skip, xs_seq, xs_decI, xs_decR, xs_setI, xs_inc, xs_if, xs_blk, xs_retI, xs_retB, xs_retR, xs_retD, xs_ret0, xs_putI, xs_putZ, xs_putR, xs_putop, xs_ast, xs_astop, xs_astR, xs_callV, xs_callP, xs_super, xs_sw, s_go_inl, s_go_inr, s_cut_inl, s_cut_inr, o_void_n, v_i_int, v_i_none, v_r_ref, v_r_null, v_r_rf, h_set_some, o_some_s, zB_ne0, zB_ite, zB_ite2, g_Vn, g_Pi, nI_add, Option.bind_some, Option.map_some, Option.bind_none, Option.map_none, List.getElem?_cons_zero, List.getElem?_cons_succ, List.set_cons_zero, List.set_cons_succ, List.cons_append, List.nil_append, List.take_succ_cons, List.take_zero, List.length_cons, List.length_nil, Nat.zero_add, Nat.reduceAdd, Nat.reduceLT, if_true, if_false, Bool.false_eq_true, Bool.true_eq_false, decide_eq_true_eq, decide_true, decide_false, Bool.not_true, Bool.not_false, Option.isNone_none, Option.isNone_some, Option.isSome_none, Option.isSome_some, ite_true, ite_false, reduceIte, reduceCtorEq, and_true, true_and, eq_self, Option.some.injEq, Sum.inr.injEq, Sum.inl.injEq, Prod.mk.injEq, w1.obj, kg0, v_rf, r2], w2⟩) (dShare_no h.ok.1 x)
  obtain ⟨sv, er, nu, po, ob⟩ := h.obj
  exact ⟨σ', mV_eq ob rfl rfl (by unfold B_X8_share; exact e), w⟩
theorem k_divide (h : WV σ M V) (x : Int32) : ∃ σ', M_X8_divide [.ref 0, .int x] σ = some (some (.int (wrap V (dDivide V.1 x)).1), σ') ∧ WV σ' M (wrap V (dDivide V.1 x)).2 := by
  obtain ⟨σ', e, w⟩ := wrapC h (L := [.ref 0, .int x]) rfl (E := e_callI M_X6_divideAt (a_cr (e_getR 6 0 (e_r 0)) (a_ci (e_i 1) a_nil))) (r := dDivide V.1 x) (fun w1 t0 => by
    obtain ⟨σ2, p', c', r2, t2, e2⟩ := f_divideD w1.now x
    rw [t0] at r2 t2
    obtain ⟨P2, C2, w2⟩ := w1.deed (i := 0) (by omega) t2 e2
    exact ⟨σ2, P2, C2, by simp only [x_k, x_i, x_r, x_nil, x_add, x_sub, x_mul, x_div, x_rem, x_get, x_getR, x_ald, x_aldR, x_len, x_lenR, x_if, xa_nil, xa_ci, xa_cr, x_callI, x_callR, x_new, x_newa, x_newq, x_max, x_min, xc_cmp, xc_cmp0, xc_null, xc_nn, xc_not, xc_and, xc_or, xc_if, xs_skip, xs_seq, xs_decI, xs_decR, xs_setI, xs_inc, xs_if, xs_blk, xs_retI, xs_retB, xs_retR, xs_retD, xs_ret0, xs_putI, xs_putZ, xs_putR, xs_putop, xs_ast, xs_astop, xs_astR, xs_callV, xs_callP, xs_super, xs_sw, s_go_inl, s_go_inr, s_cut_inl, s_cut_inr, o_void_n, v_i_int, v_i_none, v_r_ref, v_r_null, v_r_rf, h_set_some, o_some_s, zB_ne0, zB_ite, zB_ite2, g_Vn, g_Pi, nI_add, Option.bind_some, Option.map_some, Option.bind_none, Option.map_none, List.getElem?_cons_zero, List.getElem?_cons_succ, List.set_cons_zero, List.set_cons_succ, List.cons_append, List.nil_append, List.take_succ_cons, List.take_zero, List.length_cons, List.length_nil, Nat.zero_add, Nat.reduceAdd, Nat.reduceLT, if_true, if_false, Bool.false_eq_true, Bool.true_eq_false, decide_eq_true_eq, decide_true, decide_false, Bool.not_true, Bool.not_false, Option.isNone_none, Option.isNone_some, Option.isSome_none, Option.isSome_some, ite_true, ite_false, reduceIte, reduceCtorEq, and_true, true_and, eq_self, Option.some.injEq, Sum.inr.injEq, Sum.inl.injEq, Prod.mk.injEq, w1.obj, kg0, v_rf, r2], w2⟩) (dDivide_no h.ok.1 x)
  obtain ⟨sv, er, nu, po, ob⟩ := h.obj
  exact ⟨σ', mV_eq ob rfl rfl (by unfold B_X8_divide; exact e), w⟩
theorem k_strike (h : WV σ M V) (x y : Int32) : ∃ σ', M_X8_strike [.ref 0, .int x, .int y] σ = some (some (.int (wrap V (dStrike V.1 x y)).1), σ') ∧ WV σ' M (wrap V (dStrike V.1 x y)).2 := by
  obtain ⟨σ', e, w⟩ := wrapC h (L := [.ref 0, .int x, .int y]) rfl (E := e_callI M_X6_strikeBy (a_cr (e_getR 6 0 (e_r 0)) (a_ci (e_i 1) (a_ci (e_i 2) a_nil)))) (r := dStrike V.1 x y) (fun w1 t0 => by
    obtain ⟨σ2, p', c', r2, t2, e2⟩ := f_strikeD w1.now x y
    rw [t0] at r2 t2
    obtain ⟨P2, C2, w2⟩ := w1.deed (i := 0) (by omega) t2 e2
    exact ⟨σ2, P2, C2, by simp only [x_k, x_i, x_r, x_nil, x_add, x_sub, x_mul, x_div, x_rem, x_get, x_getR, x_ald, x_aldR, x_len, x_lenR, x_if, xa_nil, xa_ci, xa_cr, x_callI, x_callR, x_new, x_newa, x_newq, x_max, x_min, xc_cmp, xc_cmp0, xc_null, xc_nn, xc_not, xc_and, xc_or, xc_if, xs_skip, xs_seq, xs_decI, xs_decR, xs_setI, xs_inc, xs_if, xs_blk, xs_retI, xs_retB, xs_retR, xs_retD, xs_ret0, xs_putI, xs_putZ, xs_putR, xs_putop, xs_ast, xs_astop, xs_astR, xs_callV, xs_callP, xs_super, xs_sw, s_go_inl, s_go_inr, s_cut_inl, s_cut_inr, o_void_n, v_i_int, v_i_none, v_r_ref, v_r_null, v_r_rf, h_set_some, o_some_s, zB_ne0, zB_ite, zB_ite2, g_Vn, g_Pi, nI_add, Option.bind_some, Option.map_some, Option.bind_none, Option.map_none, List.getElem?_cons_zero, List.getElem?_cons_succ, List.set_cons_zero, List.set_cons_succ, List.cons_append, List.nil_append, List.take_succ_cons, List.take_zero, List.length_cons, List.length_nil, Nat.zero_add, Nat.reduceAdd, Nat.reduceLT, if_true, if_false, Bool.false_eq_true, Bool.true_eq_false, decide_eq_true_eq, decide_true, decide_false, Bool.not_true, Bool.not_false, Option.isNone_none, Option.isNone_some, Option.isSome_none, Option.isSome_some, ite_true, ite_false, reduceIte, reduceCtorEq, and_true, true_and, eq_self, Option.some.injEq, Sum.inr.injEq, Sum.inl.injEq, Prod.mk.injEq, w1.obj, kg0, v_rf, r2], w2⟩) (dStrike_no h.ok.1 x y)
  obtain ⟨sv, er, nu, po, ob⟩ := h.obj
  exact ⟨σ', mV_eq ob rfl rfl (by unfold B_X8_strike; exact e), w⟩
theorem k_set (h : WV σ M V) (x y : Int32) : ∃ σ', M_X8_set [.ref 0, .int x, .int y] σ = some (some (.int (wrap V (dSet V.1 x y)).1), σ') ∧ WV σ' M (wrap V (dSet V.1 x y)).2 := by
  obtain ⟨σ', e, w⟩ := wrapC h (L := [.ref 0, .int x, .int y]) rfl (E := e_callI M_X6_changeSetting (a_cr (e_getR 6 0 (e_r 0)) (a_ci (e_i 1) (a_ci (e_i 2) a_nil)))) (r := dSet V.1 x y) (fun w1 t0 => by
    obtain ⟨σ2, p', c', r2, t2, e2⟩ := f_setD w1.now x y
    rw [t0] at r2 t2
    obtain ⟨P2, C2, w2⟩ := w1.deed (i := 0) (by omega) t2 e2
    exact ⟨σ2, P2, C2, by simp only [x_k, x_i, x_r, x_nil, x_add, x_sub, x_mul, x_div, x_rem, x_get, x_getR, x_ald, x_aldR, x_len, x_lenR, x_if, xa_nil, xa_ci, xa_cr, x_callI, x_callR, x_new, x_newa, x_newq, x_max, x_min, xc_cmp, xc_cmp0, xc_null, xc_nn, xc_not, xc_and, xc_or, xc_if, xs_skip, xs_seq, xs_decI, xs_decR, xs_setI, xs_inc, xs_if, xs_blk, xs_retI, xs_retB, xs_retR, xs_retD, xs_ret0, xs_putI, xs_putZ, xs_putR, xs_putop, xs_ast, xs_astop, xs_astR, xs_callV, xs_callP, xs_super, xs_sw, s_go_inl, s_go_inr, s_cut_inl, s_cut_inr, o_void_n, v_i_int, v_i_none, v_r_ref, v_r_null, v_r_rf, h_set_some, o_some_s, zB_ne0, zB_ite, zB_ite2, g_Vn, g_Pi, nI_add, Option.bind_some, Option.map_some, Option.bind_none, Option.map_none, List.getElem?_cons_zero, List.getElem?_cons_succ, List.set_cons_zero, List.set_cons_succ, List.cons_append, List.nil_append, List.take_succ_cons, List.take_zero, List.length_cons, List.length_nil, Nat.zero_add, Nat.reduceAdd, Nat.reduceLT, if_true, if_false, Bool.false_eq_true, Bool.true_eq_false, decide_eq_true_eq, decide_true, decide_false, Bool.not_true, Bool.not_false, Option.isNone_none, Option.isNone_some, Option.isSome_none, Option.isSome_some, ite_true, ite_false, reduceIte, reduceCtorEq, and_true, true_and, eq_self, Option.some.injEq, Sum.inr.injEq, Sum.inl.injEq, Prod.mk.injEq, w1.obj, kg0, v_rf, r2], w2⟩) (dSet_no h.ok.1 x y)
  obtain ⟨sv, er, nu, po, ob⟩ := h.obj
  exact ⟨σ', mV_eq ob rfl rfl (by unfold B_X8_set; exact e), w⟩
/-- behind a change: it is kept -/
theorem keepV {σ2 : sSt} {P2 C2 : Nat → Nat} {T T2 : Nat → tS} {sv : Bool} {fi : Nat} {er nu po er' nu' po' : Int32} {p : List Nat} (w2 : W0 σ2 P2 C2 T2 sv fi V.2.1.length er' nu' po' p M) (v : RV T fi er nu po V) (hj : T2 (3 + (fi + V.2.1.length) % 5) = V.1) (h2 : T2 2 = T 2) (ho : ∀ k, k < V.2.1.length → T2 (3 + (fi + k) % 5) = T (3 + (fi + k) % 5)) {n : Nat} (hn : n < 2 ^ 31) : ∃ σ3 fi', M_X3_keep [.ref 19, .int (nI n)] σ2 = some (some (.int (nI n)), σ3) ∧ W0 σ3 P2 C2 T2 sv fi' (pushH V.2.1 V.1).length er' nu' po' p M ∧ RV T2 fi' er nu po (chg V (T2 0)) := by
  have hh : V.2.1.length ≤ 4 := w2.2.2.2.2.2.2.2.2.2
  have hf : fi < 5 := w2.2.2.2.2.2.2.2.2.1
  obtain ⟨σ3, r3, w3⟩ := f_keepYes w2 hn
  refine ⟨σ3, _, r3, ?_, v.push hf hh rfl hj h2 ho⟩
  rw [pushH_len hh]
  exact w3
theorem k_settle (h : WV σ M V) : ∃ σ', M_X8_settle [.ref 0] σ = some (some (.int (wrap V (dSettle V.1)).1), σ') ∧ WV σ' M (wrap V (dSettle V.1)).2 := by
  obtain ⟨P, C, T, fi, er, nu, po, w, v⟩ := h
  have hh : V.2.1.length ≤ 4 := w.2.2.2.2.2.2.2.2.2
  have hf : fi < 5 := w.2.2.2.2.2.2.2.2.1
  obtain ⟨σ1, P1, C1, r1, w1⟩ := w.copy (i := 1) (j := 0) (by omega) (by omega) (by omega)
  have r1 : M_X6_copyFrom [.ref 7, .ref 1] σ = some (none, σ1) := r1
  have t1 : StAt σ1 7 (P1 1) (C1 1) V.1 := by
    have := w1.sta (k := 1) (by omega)
    rw [show uN T 1 (T 0) 1 = V.1 from v.1] at this
    exact this
  obtain ⟨σ2, m2, l2, n2, g1, g2⟩ := f_shareInRounds t1
  unfold dSettle
  cases hs : sirF 13 V.1 with
  | none =>
    obtain ⟨r2, T', t2⟩ := g2 hs
    obtain ⟨P2, C2, w2⟩ := w1.deed (i := 1) (by omega) t2 (t1.eff1 (m2.mono (fun _ _ z => Or.inr z)) l2 n2)
    have e3 : i_lt (-3) 0 = true := by decide
    rw [show wrap V ((-3 : Int32), V.1) = (-3, V) from wrap_no V e3]
    refine ⟨σ2, mV_eq w.2.1 rfl rfl ?_, P2, C2, _, fi, er, nu, po, w2, v.oth ?_ ?_ (fun k hk => ?_)⟩
    · unfold B_X8_settle
      simp only [x_k, x_i, x_r, x_nil, x_add, x_sub, x_mul, x_div, x_rem, x_get, x_getR, x_ald, x_aldR, x_len, x_lenR, x_if, xa_nil, xa_ci, xa_cr, x_callI, x_callR, x_new, x_newa, x_newq, x_max, x_min, xc_cmp, xc_cmp0, xc_null, xc_nn, xc_not, xc_and, xc_or, xc_if, xs_skip, xs_seq, xs_decI, xs_decR, xs_setI, xs_inc, xs_if, xs_blk, xs_retI, xs_retB, xs_retR, xs_retD, xs_ret0, xs_putI, xs_putZ, xs_putR, xs_putop, xs_ast, xs_astop, xs_astR, xs_callV, xs_callP, xs_super, xs_sw, s_go_inl, s_go_inr, s_cut_inl, s_cut_inr, o_void_n, v_i_int, v_i_none, v_r_ref, v_r_null, v_r_rf, h_set_some, o_some_s, zB_ne0, zB_ite, zB_ite2, g_Vn, g_Pi, nI_add, Option.bind_some, Option.map_some, Option.bind_none, Option.map_none, List.getElem?_cons_zero, List.getElem?_cons_succ, List.set_cons_zero, List.set_cons_succ, List.cons_append, List.nil_append, List.take_succ_cons, List.take_zero, List.length_cons, List.length_nil, Nat.zero_add, Nat.reduceAdd, Nat.reduceLT, if_true, if_false, Bool.false_eq_true, Bool.true_eq_false, decide_eq_true_eq, decide_true, decide_false, Bool.not_true, Bool.not_false, Option.isNone_none, Option.isNone_some, Option.isSome_none, Option.isSome_some, ite_true, ite_false, reduceIte, reduceCtorEq, and_true, true_and, eq_self, Option.some.injEq, Sum.inr.injEq, Sum.inl.injEq, Prod.mk.injEq, w.obj, w1.obj, kg0, kg1, v_rf, r1, r2, e3]
    · show (if 0 = 1 then _ else if 0 = 1 then _ else T 0) = T 0
      rw [if_neg (by omega), if_neg (by omega)]
    · show (if 2 = 1 then _ else if 2 = 1 then _ else T 2) = T 2
      rw [if_neg (by omega), if_neg (by omega)]
    · show (if 3 + (fi + k) % 5 = 1 then _ else if 3 + (fi + k) % 5 = 1 then _ else T (3 + (fi + k) % 5)) = _
      rw [if_neg (by omega), if_neg (by omega)]
  | some x =>
    obtain ⟨m, Tr⟩ := x
    obtain ⟨r2, t2⟩ := g1 m Tr hs
    have hm : m ≤ 13 := sir_le 13 V.1 (m, Tr) hs
    obtain ⟨P2, C2, w2⟩ := w1.deed (i := 1) (by omega) t2 (t1.eff1 (m2.mono (fun _ _ z => Or.inr z)) l2 n2)
    obtain ⟨σ3, P3, C3, r3, w3⟩ := f_prepare w2
    obtain ⟨σ4, P4, C4, r4, w4⟩ := w3.copy (i := 0) (j := 1) (by omega) (by omega) (by omega)
    have r4 : M_X6_copyFrom [.ref 1, .ref 7] σ3 = some (none, σ4) := r4
    have e0 : i_lt (nI m) 0 = false := j_lt0 (by omega)
    rw [show wrap V (nI m, Tr) = (nI m, chg V Tr) from wrap_yes V (by omega)]
    obtain ⟨T4, hT4⟩ : ∃ T4, T4 = uN (uN (uN (uN T 1 (T 0)) 1 Tr) (3 + (fi + V.2.1.length) % 5) (uN (uN T 1 (T 0)) 1 Tr 0)) 0 (uN (uN (uN T 1 (T 0)) 1 Tr) (3 + (fi + V.2.1.length) % 5) (uN (uN T 1 (T 0)) 1 Tr 0) 1) := ⟨_, rfl⟩
    rw [← hT4] at w4
    have q0 : T4 0 = Tr := by
      rw [hT4]
      show (if 1 = 3 + (fi + V.2.1.length) % 5 then _ else Tr) = Tr
      rw [if_neg (by omega)]
    obtain ⟨σ5, fi', r5, w5, v5⟩ := keepV w4 v (by
      rw [hT4]
      show (if 3 + (fi + V.2.1.length) % 5 = 0 then _ else if 3 + (fi + V.2.1.length) % 5 = 3 + (fi + V.2.1.length) % 5 then T 0 else _) = V.1
      rw [if_neg (by omega), if_pos rfl]
      exact v.1) (by
      rw [hT4]
      show (if 2 = 0 then _ else if 2 = 3 + (fi + V.2.1.length) % 5 then _ else if 2 = 1 then _ else if 2 = 1 then _ else T 2) = T 2
      rw [if_neg (by omega), if_neg (by omega), if_neg (by omega), if_neg (by omega)]) (fun k hk => by
      rw [hT4]
      show (if 3 + (fi + k) % 5 = 0 then _ else if 3 + (fi + k) % 5 = 3 + (fi + V.2.1.length) % 5 then _ else if 3 + (fi + k) % 5 = 1 then _ else if 3 + (fi + k) % 5 = 1 then _ else T (3 + (fi + k) % 5)) = _
      rw [if_neg (by omega), if_neg (ring_ne hk hh), if_neg (by omega), if_neg (by omega)]) (n := m) (by omega)
    rw [q0] at v5
    refine ⟨σ5, mV_eq w.2.1 rfl rfl ?_, P4, C4, T4, fi', er, nu, po, w5, v5⟩
    unfold B_X8_settle
    simp only [x_k, x_i, x_r, x_nil, x_add, x_sub, x_mul, x_div, x_rem, x_get, x_getR, x_ald, x_aldR, x_len, x_lenR, x_if, xa_nil, xa_ci, xa_cr, x_callI, x_callR, x_new, x_newa, x_newq, x_max, x_min, xc_cmp, xc_cmp0, xc_null, xc_nn, xc_not, xc_and, xc_or, xc_if, xs_skip, xs_seq, xs_decI, xs_decR, xs_setI, xs_inc, xs_if, xs_blk, xs_retI, xs_retB, xs_retR, xs_retD, xs_ret0, xs_putI, xs_putZ, xs_putR, xs_putop, xs_ast, xs_astop, xs_astR, xs_callV, xs_callP, xs_super, xs_sw, s_go_inl, s_go_inr, s_cut_inl, s_cut_inr, o_void_n, v_i_int, v_i_none, v_r_ref, v_r_null, v_r_rf, h_set_some, o_some_s, zB_ne0, zB_ite, zB_ite2, g_Vn, g_Pi, nI_add, Option.bind_some, Option.map_some, Option.bind_none, Option.map_none, List.getElem?_cons_zero, List.getElem?_cons_succ, List.set_cons_zero, List.set_cons_succ, List.cons_append, List.nil_append, List.take_succ_cons, List.take_zero, List.length_cons, List.length_nil, Nat.zero_add, Nat.reduceAdd, Nat.reduceLT, if_true, if_false, Bool.false_eq_true, Bool.true_eq_false, decide_eq_true_eq, decide_true, decide_false, Bool.not_true, Bool.not_false, Option.isNone_none, Option.isNone_some, Option.isSome_none, Option.isSome_some, ite_true, ite_false, reduceIte, reduceCtorEq, and_true, true_and, eq_self, Option.some.injEq, Sum.inr.injEq, Sum.inl.injEq, Prod.mk.injEq, w.obj, w1.obj, w2.obj, w3.obj, w4.obj, kg0, kg1, kg4, v_rf, r1, r2, e0, r3, r4, r5]
theorem k_save (h : WV σ M V) : ∃ σ', M_X8_save [.ref 0] σ = some (some (.int (spSave V).1), σ') ∧ WV σ' M (spSave V).2 := by
  obtain ⟨P, C, T, fi, er, nu, po, w, v⟩ := h
  obtain ⟨σ1, P1, C1, r1, w1⟩ := w.copy (i := 2) (j := 0) (by omega) (by omega) (by omega)
  have r1 : M_X6_copyFrom [.ref 13, .ref 1] σ = some (none, σ1) := r1
  obtain ⟨σ2, e2⟩ : ∃ σ2 : sSt, σ2 = (σ1.1.set 0 (.inl (6, kF true er nu po)), σ1.2) := ⟨_, rfl⟩
  have w2 : W0 σ2 P1 C1 (uN T 2 (T 0)) true fi V.2.1.length er nu po V.2.2.2.1 M := by rw [e2]; exact w1.k true er nu po
  have o2 := w2.now.1.2.1
  have t0 : uN T 2 (T 0) 0 = V.1 := v.1
  rw [t0] at o2
  have ks : (kF V.2.2.1.isSome er nu po).set 3 (.int (nI 1)) = kF true er nu po := rfl
  have z1 : (nI 1 = 0 ∨ nI 1 = 1) := Or.inr rfl
  refine ⟨σ2, mV_eq w.2.1 rfl rfl ?_, P1, C1, _, fi, er, nu, po, w2, ⟨t0, fun k S hk => ?_, fun S hS => ?_, v.2.2.2⟩⟩
  · unfold B_X8_save
    simp only [x_k, x_i, x_r, x_nil, x_add, x_sub, x_mul, x_div, x_rem, x_get, x_getR, x_ald, x_aldR, x_len, x_lenR, x_if, xa_nil, xa_ci, xa_cr, x_callI, x_callR, x_new, x_newa, x_newq, x_max, x_min, xc_cmp, xc_cmp0, xc_null, xc_nn, xc_not, xc_and, xc_or, xc_if, xs_skip, xs_seq, xs_decI, xs_decR, xs_setI, xs_inc, xs_if, xs_blk, xs_retI, xs_retB, xs_retR, xs_retD, xs_ret0, xs_putI, xs_putZ, xs_putR, xs_putop, xs_ast, xs_astop, xs_astR, xs_callV, xs_callP, xs_super, xs_sw, s_go_inl, s_go_inr, s_cut_inl, s_cut_inr, o_void_n, v_i_int, v_i_none, v_r_ref, v_r_null, v_r_rf, h_set_some, o_some_s, zB_ne0, zB_ite, zB_ite2, g_Vn, g_Pi, nI_add, Option.bind_some, Option.map_some, Option.bind_none, Option.map_none, List.getElem?_cons_zero, List.getElem?_cons_succ, List.set_cons_zero, List.set_cons_succ, List.cons_append, List.nil_append, List.take_succ_cons, List.take_zero, List.length_cons, List.length_nil, Nat.zero_add, Nat.reduceAdd, Nat.reduceLT, if_true, if_false, Bool.false_eq_true, Bool.true_eq_false, decide_eq_true_eq, decide_true, decide_false, Bool.not_true, Bool.not_false, Option.isNone_none, Option.isNone_some, Option.isSome_none, Option.isSome_some, ite_true, ite_false, reduceIte, reduceCtorEq, and_true, true_and, eq_self, Option.some.injEq, Sum.inr.injEq, Sum.inl.injEq, Prod.mk.injEq, not_true_eq_false, not_false_eq_true, Bool.decide_eq_true, n0_ne, n1_ne, xz_ret, zb_if, n1_if, n0_if, v_rf, h_ix_nI, nI_clamp, zB_t, zB_f, uN_uN, uN_ap, Nat.reduceEqDiff, Nat.reduceMul, Nat.reduceSub, w.obj, w1.obj, kg0, kg2, r1, kF_len, z1, and_self, ks, ← e2, w2.obj, h_obj_eq o2]
    rfl
  · show (if 3 + (fi + k) % 5 = 2 then _ else T (3 + (fi + k) % 5)) = S
    rw [if_neg (by omega)]
    exact v.2.1 k S hk
  · cases hS
    show T 0 = V.1
    exact v.1
theorem k_restore (h : WV σ M V) : ∃ σ', M_X8_restore [.ref 0] σ = some (some (.int (spRestore V).1), σ') ∧ WV σ' M (spRestore V).2 := by
  have h' := h
  obtain ⟨P, C, T, fi, er, nu, po, w, v⟩ := h
  have hh : V.2.1.length ≤ 4 := w.2.2.2.2.2.2.2.2.2
  have hf : fi < 5 := w.2.2.2.2.2.2.2.2.1
  unfold spRestore
  cases e : V.2.2.1 with
  | none =>
    have o := w.obj
    rw [e] at o
    refine ⟨σ, mV_eq w.2.1 rfl rfl ?_, h'⟩
    unfold B_X8_restore
    simp only [x_k, x_i, x_r, x_nil, x_add, x_sub, x_mul, x_div, x_rem, x_get, x_getR, x_ald, x_aldR, x_len, x_lenR, x_if, xa_nil, xa_ci, xa_cr, x_callI, x_callR, x_new, x_newa, x_newq, x_max, x_min, xc_cmp, xc_cmp0, xc_null, xc_nn, xc_not, xc_and, xc_or, xc_if, xs_skip, xs_seq, xs_decI, xs_decR, xs_setI, xs_inc, xs_if, xs_blk, xs_retI, xs_retB, xs_retR, xs_retD, xs_ret0, xs_putI, xs_putZ, xs_putR, xs_putop, xs_ast, xs_astop, xs_astR, xs_callV, xs_callP, xs_super, xs_sw, s_go_inl, s_go_inr, s_cut_inl, s_cut_inr, o_void_n, v_i_int, v_i_none, v_r_ref, v_r_null, v_r_rf, h_set_some, o_some_s, zB_ne0, zB_ite, zB_ite2, g_Vn, g_Pi, nI_add, Option.bind_some, Option.map_some, Option.bind_none, Option.map_none, List.getElem?_cons_zero, List.getElem?_cons_succ, List.set_cons_zero, List.set_cons_succ, List.cons_append, List.nil_append, List.take_succ_cons, List.take_zero, List.length_cons, List.length_nil, Nat.zero_add, Nat.reduceAdd, Nat.reduceLT, if_true, if_false, Bool.false_eq_true, Bool.true_eq_false, decide_eq_true_eq, decide_true, decide_false, Bool.not_true, Bool.not_false, Option.isNone_none, Option.isNone_some, Option.isSome_none, Option.isSome_some, ite_true, ite_false, reduceIte, reduceCtorEq, and_true, true_and, eq_self, Option.some.injEq, Sum.inr.injEq, Sum.inl.injEq, Prod.mk.injEq, not_true_eq_false, not_false_eq_true, Bool.decide_eq_true, n0_ne, n1_ne, xz_ret, zb_if, n1_if, n0_if, v_rf, h_ix_nI, nI_clamp, zB_t, zB_f, uN_uN, uN_ap, Nat.reduceEqDiff, Nat.reduceMul, Nat.reduceSub, o, kg3, Option.isSome_none]
  | some S =>
    have o := w.obj
    rw [e] at o
    obtain ⟨σ1, P1, C1, r1, w1⟩ := f_prepare w
    obtain ⟨σ2, P2, C2, r2, w2⟩ := w1.copy (i := 0) (j := 2) (by omega) (by omega) (by omega)
    have r2 : M_X6_copyFrom [.ref 1, .ref 13] σ1 = some (none, σ2) := r2
    obtain ⟨T2, hT2⟩ : ∃ T2, T2 = uN (uN T (3 + (fi + V.2.1.length) % 5) (T 0)) 0 (uN T (3 + (fi + V.2.1.length) % 5) (T 0) 2) := ⟨_, rfl⟩
    rw [← hT2] at w2
    have q0 : T2 0 = S := by
      rw [hT2]
      show (if 2 = 3 + (fi + V.2.1.length) % 5 then _ else T 2) = S
      rw [if_neg (by omega)]
      exact v.2.2.1 S e
    have o2 := w2.now.1
    rw [q0] at o2
    have hl := o2.1.1
    obtain ⟨σ3, fi', r3, w3, v3⟩ := keepV w2 v (by
      rw [hT2]
      show (if 3 + (fi + V.2.1.length) % 5 = 0 then _ else if 3 + (fi + V.2.1.length) % 5 = 3 + (fi + V.2.1.length) % 5 then T 0 else _) = V.1
      rw [if_neg (by omega), if_pos rfl]
      exact v.1) (by
      rw [hT2]
      show (if 2 = 0 then _ else if 2 = 3 + (fi + V.2.1.length) % 5 then _ else T 2) = T 2
      rw [if_neg (by omega), if_neg (by omega)]) (fun k hk => by
      rw [hT2]
      show (if 3 + (fi + k) % 5 = 0 then _ else if 3 + (fi + k) % 5 = 3 + (fi + V.2.1.length) % 5 then _ else T (3 + (fi + k) % 5)) = _
      rw [if_neg (by omega), if_neg (ring_ne hk hh)]) (n := S.1.length) (by omega)
    rw [q0] at v3
    refine ⟨σ3, mV_eq w.2.1 rfl rfl ?_, P2, C2, T2, fi', er, nu, po, w3, v3⟩
    have o1 := w1.obj
    have o3 := w2.obj
    rw [e] at o1 o3
    unfold B_X8_restore
    simp only [x_k, x_i, x_r, x_nil, x_add, x_sub, x_mul, x_div, x_rem, x_get, x_getR, x_ald, x_aldR, x_len, x_lenR, x_if, xa_nil, xa_ci, xa_cr, x_callI, x_callR, x_new, x_newa, x_newq, x_max, x_min, xc_cmp, xc_cmp0, xc_null, xc_nn, xc_not, xc_and, xc_or, xc_if, xs_skip, xs_seq, xs_decI, xs_decR, xs_setI, xs_inc, xs_if, xs_blk, xs_retI, xs_retB, xs_retR, xs_retD, xs_ret0, xs_putI, xs_putZ, xs_putR, xs_putop, xs_ast, xs_astop, xs_astR, xs_callV, xs_callP, xs_super, xs_sw, s_go_inl, s_go_inr, s_cut_inl, s_cut_inr, o_void_n, v_i_int, v_i_none, v_r_ref, v_r_null, v_r_rf, h_set_some, o_some_s, zB_ne0, zB_ite, zB_ite2, g_Vn, g_Pi, nI_add, Option.bind_some, Option.map_some, Option.bind_none, Option.map_none, List.getElem?_cons_zero, List.getElem?_cons_succ, List.set_cons_zero, List.set_cons_succ, List.cons_append, List.nil_append, List.take_succ_cons, List.take_zero, List.length_cons, List.length_nil, Nat.zero_add, Nat.reduceAdd, Nat.reduceLT, if_true, if_false, Bool.false_eq_true, Bool.true_eq_false, decide_eq_true_eq, decide_true, decide_false, Bool.not_true, Bool.not_false, Option.isNone_none, Option.isNone_some, Option.isSome_none, Option.isSome_some, ite_true, ite_false, reduceIte, reduceCtorEq, and_true, true_and, eq_self, Option.some.injEq, Sum.inr.injEq, Sum.inl.injEq, Prod.mk.injEq, not_true_eq_false, not_false_eq_true, Bool.decide_eq_true, n0_ne, n1_ne, xz_ret, zb_if, n1_if, n0_if, v_rf, h_ix_nI, nI_clamp, zB_t, zB_f, uN_uN, uN_ap, Nat.reduceEqDiff, Nat.reduceMul, Nat.reduceSub, o, o1, o3, kg0, kg2, kg3, kg4, Option.isSome_some, r1, r2, h_obj_eq o2.2.1, r3]
theorem f_goBackNo {P C : Nat → Nat} {T : Nat → tS} {sv : Bool} {fi : Nat} {er nu po : Int32} {p : List Nat} (w : W0 σ P C T sv fi 0 er nu po p M) : M_X3_goBack [.ref 19, .ref 1] σ = some (some (.int (zB false)), σ) := by
  refine mV_eq w.2.2.1 rfl rfl ?_
  unfold B_X3_goBack
  simp only [x_k, x_i, x_r, x_nil, x_add, x_sub, x_mul, x_div, x_rem, x_get, x_getR, x_ald, x_aldR, x_len, x_lenR, x_if, xa_nil, xa_ci, xa_cr, x_callI, x_callR, x_new, x_newa, x_newq, x_max, x_min, xc_cmp, xc_cmp0, xc_null, xc_nn, xc_not, xc_and, xc_or, xc_if, xs_skip, xs_seq, xs_decI, xs_decR, xs_setI, xs_inc, xs_if, xs_blk, xs_retI, xs_retB, xs_retR, xs_retD, xs_ret0, xs_putI, xs_putZ, xs_putR, xs_putop, xs_ast, xs_astop, xs_astR, xs_callV, xs_callP, xs_super, xs_sw, s_go_inl, s_go_inr, s_cut_inl, s_cut_inr, o_void_n, v_i_int, v_i_none, v_r_ref, v_r_null, v_r_rf, h_set_some, o_some_s, zB_ne0, zB_ite, zB_ite2, g_Vn, g_Pi, nI_add, Option.bind_some, Option.map_some, Option.bind_none, Option.map_none, List.getElem?_cons_zero, List.getElem?_cons_succ, List.set_cons_zero, List.set_cons_succ, List.cons_append, List.nil_append, List.take_succ_cons, List.take_zero, List.length_cons, List.length_nil, Nat.zero_add, Nat.reduceAdd, Nat.reduceLT, if_true, if_false, Bool.false_eq_true, Bool.true_eq_false, decide_eq_true_eq, decide_true, decide_false, Bool.not_true, Bool.not_false, Option.isNone_none, Option.isNone_some, Option.isSome_none, Option.isSome_some, ite_true, ite_false, reduceIte, reduceCtorEq, and_true, true_and, eq_self, Option.some.injEq, Sum.inr.injEq, Sum.inl.injEq, Prod.mk.injEq, not_true_eq_false, not_false_eq_true, Bool.decide_eq_true, n0_ne, n1_ne, xz_ret, zb_if, n1_if, n0_if, v_rf, h_ix_nI, nI_clamp, zB_t, zB_f, uN_uN, uN_ap, Nat.reduceEqDiff, Nat.reduceMul, Nat.reduceSub, h_obj_eq w.2.2.1, show i_gt (nI 0) 0 = false by decide]
theorem f_goBack {P C : Nat → Nat} {T : Nat → tS} {sv : Bool} {fi he : Nat} {er nu po : Int32} {p : List Nat} (w : W0 σ P C T sv fi (he + 1) er nu po p M) : ∃ σ' P' C', M_X3_goBack [.ref 19, .ref 1] σ = some (some (.int (zB true)), σ') ∧ W0 σ' P' C' (uN T 0 (T (3 + (fi + he) % 5))) sv fi he er nu po p M := by
  have hh : he + 1 ≤ 4 := w.2.2.2.2.2.2.2.2.2
  have hf : fi < 5 := w.2.2.2.2.2.2.2.2.1
  have sa := f_stateAt w (k := he) (by omega)
  obtain ⟨σ1, e1⟩ : ∃ σ1 : sSt, σ1 = (σ.1.set 19 (.inl (3, [.ref 20, .int (nI fi), .int (nI he)])), σ.2) := ⟨_, rfl⟩
  have w1 : W0 σ1 P C T sv fi he er nu po p M := by rw [e1]; exact w.h hf (by omega)
  obtain ⟨σ2, P2, C2, r2, w2⟩ := w1.copy (i := 0) (j := 3 + (fi + he) % 5) (by omega) (by omega) (by omega)
  have r2 : M_X6_copyFrom [.ref 1, .ref (ad (3 + (fi + he) % 5))] σ1 = some (none, σ2) := r2
  have eh : nI (he + 1) - nI 1 = nI he := by rw [pk_sub (by omega), Nat.add_sub_cancel]
  refine ⟨σ2, P2, C2, mV_eq w.2.2.1 rfl rfl ?_, w2⟩
  unfold B_X3_goBack
  simp (disch := omega) only [x_k, x_i, x_r, x_nil, x_add, x_sub, x_mul, x_div, x_rem, x_get, x_getR, x_ald, x_aldR, x_len, x_lenR, x_if, xa_nil, xa_ci, xa_cr, x_callI, x_callR, x_new, x_newa, x_newq, x_max, x_min, xc_cmp, xc_cmp0, xc_null, xc_nn, xc_not, xc_and, xc_or, xc_if, xs_skip, xs_seq, xs_decI, xs_decR, xs_setI, xs_inc, xs_if, xs_blk, xs_retI, xs_retB, xs_retR, xs_retD, xs_ret0, xs_putI, xs_putZ, xs_putR, xs_putop, xs_ast, xs_astop, xs_astR, xs_callV, xs_callP, xs_super, xs_sw, s_go_inl, s_go_inr, s_cut_inl, s_cut_inr, o_void_n, v_i_int, v_i_none, v_r_ref, v_r_null, v_r_rf, h_set_some, o_some_s, zB_ne0, zB_ite, zB_ite2, g_Vn, g_Pi, nI_add, Option.bind_some, Option.map_some, Option.bind_none, Option.map_none, List.getElem?_cons_zero, List.getElem?_cons_succ, List.set_cons_zero, List.set_cons_succ, List.cons_append, List.nil_append, List.take_succ_cons, List.take_zero, List.length_cons, List.length_nil, Nat.zero_add, Nat.reduceAdd, Nat.reduceLT, if_true, if_false, Bool.false_eq_true, Bool.true_eq_false, decide_eq_true_eq, decide_true, decide_false, Bool.not_true, Bool.not_false, Option.isNone_none, Option.isNone_some, Option.isSome_none, Option.isSome_some, ite_true, ite_false, reduceIte, reduceCtorEq, and_true, true_and, eq_self, Option.some.injEq, Sum.inr.injEq, Sum.inl.injEq, Prod.mk.injEq, not_true_eq_false, not_false_eq_true, Bool.decide_eq_true, n0_ne, n1_ne, xz_ret, zb_if, n1_if, n0_if, v_rf, h_ix_nI, nI_clamp, zB_t, zB_f, uN_uN, uN_ap, Nat.reduceEqDiff, Nat.reduceMul, Nat.reduceSub, h_obj_eq w.2.2.1, j_gt0, show 0 < he + 1 by omega, eh, sa, ← e1, r2]
theorem k_undo (h : WV σ M V) : ∃ σ', M_X8_undo [.ref 0] σ = some (some (.int (spUndo V).1), σ') ∧ WV σ' M (spUndo V).2 := by
  have h' := h
  obtain ⟨P, C, T, fi, er, nu, po, w, v⟩ := h
  have hh : V.2.1.length ≤ 4 := w.2.2.2.2.2.2.2.2.2
  have hf : fi < 5 := w.2.2.2.2.2.2.2.2.1
  unfold spUndo
  cases e : V.2.1.getLast? with
  | none =>
    have e0 : V.2.1 = [] := List.getLast?_eq_none_iff.mp e
    have l0 : V.2.1.length = 0 := by rw [e0]; rfl
    rw [l0] at w
    have r := f_goBackNo w
    refine ⟨σ, mV_eq w.2.1 rfl rfl ?_, h'⟩
    unfold B_X8_undo
    simp only [x_k, x_i, x_r, x_nil, x_add, x_sub, x_mul, x_div, x_rem, x_get, x_getR, x_ald, x_aldR, x_len, x_lenR, x_if, xa_nil, xa_ci, xa_cr, x_callI, x_callR, x_new, x_newa, x_newq, x_max, x_min, xc_cmp, xc_cmp0, xc_null, xc_nn, xc_not, xc_and, xc_or, xc_if, xs_skip, xs_seq, xs_decI, xs_decR, xs_setI, xs_inc, xs_if, xs_blk, xs_retI, xs_retB, xs_retR, xs_retD, xs_ret0, xs_putI, xs_putZ, xs_putR, xs_putop, xs_ast, xs_astop, xs_astR, xs_callV, xs_callP, xs_super, xs_sw, s_go_inl, s_go_inr, s_cut_inl, s_cut_inr, o_void_n, v_i_int, v_i_none, v_r_ref, v_r_null, v_r_rf, h_set_some, o_some_s, zB_ne0, zB_ite, zB_ite2, g_Vn, g_Pi, nI_add, Option.bind_some, Option.map_some, Option.bind_none, Option.map_none, List.getElem?_cons_zero, List.getElem?_cons_succ, List.set_cons_zero, List.set_cons_succ, List.cons_append, List.nil_append, List.take_succ_cons, List.take_zero, List.length_cons, List.length_nil, Nat.zero_add, Nat.reduceAdd, Nat.reduceLT, if_true, if_false, Bool.false_eq_true, Bool.true_eq_false, decide_eq_true_eq, decide_true, decide_false, Bool.not_true, Bool.not_false, Option.isNone_none, Option.isNone_some, Option.isSome_none, Option.isSome_some, ite_true, ite_false, reduceIte, reduceCtorEq, and_true, true_and, eq_self, Option.some.injEq, Sum.inr.injEq, Sum.inl.injEq, Prod.mk.injEq, not_true_eq_false, not_false_eq_true, Bool.decide_eq_true, n0_ne, n1_ne, xz_ret, zb_if, n1_if, n0_if, v_rf, h_ix_nI, nI_clamp, zB_t, zB_f, uN_uN, uN_ap, Nat.reduceEqDiff, Nat.reduceMul, Nat.reduceSub, w.obj, kg0, kg4, r]
  | some S =>
    rw [List.getLast?_eq_getElem?] at e
    have hl := (List.getElem?_eq_some_iff.mp e).1
    obtain ⟨n, hn⟩ : ∃ n, V.2.1.length = n + 1 := ⟨V.2.1.length - 1, by omega⟩
    have hS : V.2.1[n]? = some S := by rw [← e]; congr 1; omega
    have w' := w
    rw [hn] at w'
    obtain ⟨σ1, P1, C1, r1, w1⟩ := f_goBack w'
    have e1 : (V.2.1.length - 1) = n := by omega
    have e2 : V.2.1.dropLast.length = n := by rw [List.length_dropLast]; omega
    refine ⟨σ1, mV_eq w.2.1 rfl rfl ?_, P1, C1, uN T 0 (T (3 + (fi + n) % 5)), fi, er, nu, po, (by show W0 σ1 P1 C1 _ V.2.2.1.isSome fi V.2.1.dropLast.length er nu po V.2.2.2.1 M; rw [e2]; exact w1), ⟨v.2.1 n S hS, fun k Q hk => ?_, fun Q hQ => v.2.2.1 Q hQ, v.2.2.2⟩⟩
    · rw [e1]
      unfold B_X8_undo
      simp only [x_k, x_i, x_r, x_nil, x_add, x_sub, x_mul, x_div, x_rem, x_get, x_getR, x_ald, x_aldR, x_len, x_lenR, x_if, xa_nil, xa_ci, xa_cr, x_callI, x_callR, x_new, x_newa, x_newq, x_max, x_min, xc_cmp, xc_cmp0, xc_null, xc_nn, xc_not, xc_and, xc_or, xc_if, xs_skip, xs_seq, xs_decI, xs_decR, xs_setI, xs_inc, xs_if, xs_blk, xs_retI, xs_retB, xs_retR, xs_retD, xs_ret0, xs_putI, xs_putZ, xs_putR, xs_putop, xs_ast, xs_astop, xs_astR, xs_callV, xs_callP, xs_super, xs_sw, s_go_inl, s_go_inr, s_cut_inl, s_cut_inr, o_void_n, v_i_int, v_i_none, v_r_ref, v_r_null, v_r_rf, h_set_some, o_some_s, zB_ne0, zB_ite, zB_ite2, g_Vn, g_Pi, nI_add, Option.bind_some, Option.map_some, Option.bind_none, Option.map_none, List.getElem?_cons_zero, List.getElem?_cons_succ, List.set_cons_zero, List.set_cons_succ, List.cons_append, List.nil_append, List.take_succ_cons, List.take_zero, List.length_cons, List.length_nil, Nat.zero_add, Nat.reduceAdd, Nat.reduceLT, if_true, if_false, Bool.false_eq_true, Bool.true_eq_false, decide_eq_true_eq, decide_true, decide_false, Bool.not_true, Bool.not_false, Option.isNone_none, Option.isNone_some, Option.isSome_none, Option.isSome_some, ite_true, ite_false, reduceIte, reduceCtorEq, and_true, true_and, eq_self, Option.some.injEq, Sum.inr.injEq, Sum.inl.injEq, Prod.mk.injEq, not_true_eq_false, not_false_eq_true, Bool.decide_eq_true, n0_ne, n1_ne, xz_ret, zb_if, n1_if, n0_if, v_rf, h_ix_nI, nI_clamp, zB_t, zB_f, uN_uN, uN_ap, Nat.reduceEqDiff, Nat.reduceMul, Nat.reduceSub, w.obj, kg0, kg4, r1, w1.obj, h_obj_eq w1.2.2.1]
    · have hk : V.2.1.dropLast[k]? = some Q := hk
      have hkl := (List.getElem?_eq_some_iff.mp hk).1
      rw [List.getElem?_dropLast, if_pos (by omega)] at hk
      show (if 3 + (fi + k) % 5 = 0 then _ else T (3 + (fi + k) % 5)) = Q
      rw [if_neg (by omega)]
      exact v.2.1 k Q hk
theorem k_append (h : WV σ M V) (x : Int32) : ∃ σ', M_X8_append [.ref 0, .int x] σ = some (some (.int (spAppend V x).1), σ') ∧ WV σ' M (spAppend V x).2 := by
  have h' := h
  obtain ⟨P, C, T, fi, er, nu, po, w, v⟩ := h
  obtain ⟨Q, hQ, eQ⟩ := w.qp
  obtain ⟨a1, a2, a3⟩ := f_putCode w.len hQ x
  rw [← eQ] at a1 a2
  unfold spAppend
  cases c : inB x (nI 33) (nI 126) with
  | false =>
    refine ⟨σ, mV_eq w.2.1 rfl rfl ?_, h'⟩
    unfold B_X8_append
    simp only [x_k, x_i, x_r, x_nil, x_add, x_sub, x_mul, x_div, x_rem, x_get, x_getR, x_ald, x_aldR, x_len, x_lenR, x_if, xa_nil, xa_ci, xa_cr, x_callI, x_callR, x_new, x_newa, x_newq, x_max, x_min, xc_cmp, xc_cmp0, xc_null, xc_nn, xc_not, xc_and, xc_or, xc_if, xs_skip, xs_seq, xs_decI, xs_decR, xs_setI, xs_inc, xs_if, xs_blk, xs_retI, xs_retB, xs_retR, xs_retD, xs_ret0, xs_putI, xs_putZ, xs_putR, xs_putop, xs_ast, xs_astop, xs_astR, xs_callV, xs_callP, xs_super, xs_sw, s_go_inl, s_go_inr, s_cut_inl, s_cut_inr, o_void_n, v_i_int, v_i_none, v_r_ref, v_r_null, v_r_rf, h_set_some, o_some_s, zB_ne0, zB_ite, zB_ite2, g_Vn, g_Pi, nI_add, Option.bind_some, Option.map_some, Option.bind_none, Option.map_none, List.getElem?_cons_zero, List.getElem?_cons_succ, List.set_cons_zero, List.set_cons_succ, List.cons_append, List.nil_append, List.take_succ_cons, List.take_zero, List.length_cons, List.length_nil, Nat.zero_add, Nat.reduceAdd, Nat.reduceLT, if_true, if_false, Bool.false_eq_true, Bool.true_eq_false, decide_eq_true_eq, decide_true, decide_false, Bool.not_true, Bool.not_false, Option.isNone_none, Option.isNone_some, Option.isSome_none, Option.isSome_some, ite_true, ite_false, reduceIte, reduceCtorEq, and_true, true_and, eq_self, Option.some.injEq, Sum.inr.injEq, Sum.inl.injEq, Prod.mk.injEq, w.obj, kg5, v_rf, a1 c]
  | true =>
    by_cases d : V.2.2.2.1.length = 60
    · refine ⟨σ, mV_eq w.2.1 rfl rfl ?_, by rw [if_pos rfl, if_pos d]; exact h'⟩
      rw [if_pos rfl, if_pos d]
      unfold B_X8_append
      simp only [x_k, x_i, x_r, x_nil, x_add, x_sub, x_mul, x_div, x_rem, x_get, x_getR, x_ald, x_aldR, x_len, x_lenR, x_if, xa_nil, xa_ci, xa_cr, x_callI, x_callR, x_new, x_newa, x_newq, x_max, x_min, xc_cmp, xc_cmp0, xc_null, xc_nn, xc_not, xc_and, xc_or, xc_if, xs_skip, xs_seq, xs_decI, xs_decR, xs_setI, xs_inc, xs_if, xs_blk, xs_retI, xs_retB, xs_retR, xs_retD, xs_ret0, xs_putI, xs_putZ, xs_putR, xs_putop, xs_ast, xs_astop, xs_astR, xs_callV, xs_callP, xs_super, xs_sw, s_go_inl, s_go_inr, s_cut_inl, s_cut_inr, o_void_n, v_i_int, v_i_none, v_r_ref, v_r_null, v_r_rf, h_set_some, o_some_s, zB_ne0, zB_ite, zB_ite2, g_Vn, g_Pi, nI_add, Option.bind_some, Option.map_some, Option.bind_none, Option.map_none, List.getElem?_cons_zero, List.getElem?_cons_succ, List.set_cons_zero, List.set_cons_succ, List.cons_append, List.nil_append, List.take_succ_cons, List.take_zero, List.length_cons, List.length_nil, Nat.zero_add, Nat.reduceAdd, Nat.reduceLT, if_true, if_false, Bool.false_eq_true, Bool.true_eq_false, decide_eq_true_eq, decide_true, decide_false, Bool.not_true, Bool.not_false, Option.isNone_none, Option.isNone_some, Option.isSome_none, Option.isSome_some, ite_true, ite_false, reduceIte, reduceCtorEq, and_true, true_and, eq_self, Option.some.injEq, Sum.inr.injEq, Sum.inl.injEq, Prod.mk.injEq, w.obj, kg5, v_rf, a2 c d]
    · obtain ⟨Q', r, hQ'⟩ := a3 c d
      rw [← eQ] at r
      rw [if_pos rfl, if_neg d]
      refine ⟨qp σ Q', mV_eq w.2.1 rfl rfl ?_, P, C, T, fi, er, nu, po, w.pd hQ', v⟩
      unfold B_X8_append
      simp only [x_k, x_i, x_r, x_nil, x_add, x_sub, x_mul, x_div, x_rem, x_get, x_getR, x_ald, x_aldR, x_len, x_lenR, x_if, xa_nil, xa_ci, xa_cr, x_callI, x_callR, x_new, x_newa, x_newq, x_max, x_min, xc_cmp, xc_cmp0, xc_null, xc_nn, xc_not, xc_and, xc_or, xc_if, xs_skip, xs_seq, xs_decI, xs_decR, xs_setI, xs_inc, xs_if, xs_blk, xs_retI, xs_retB, xs_retR, xs_retD, xs_ret0, xs_putI, xs_putZ, xs_putR, xs_putop, xs_ast, xs_astop, xs_astR, xs_callV, xs_callP, xs_super, xs_sw, s_go_inl, s_go_inr, s_cut_inl, s_cut_inr, o_void_n, v_i_int, v_i_none, v_r_ref, v_r_null, v_r_rf, h_set_some, o_some_s, zB_ne0, zB_ite, zB_ite2, g_Vn, g_Pi, nI_add, Option.bind_some, Option.map_some, Option.bind_none, Option.map_none, List.getElem?_cons_zero, List.getElem?_cons_succ, List.set_cons_zero, List.set_cons_succ, List.cons_append, List.nil_append, List.take_succ_cons, List.take_zero, List.length_cons, List.length_nil, Nat.zero_add, Nat.reduceAdd, Nat.reduceLT, if_true, if_false, Bool.false_eq_true, Bool.true_eq_false, decide_eq_true_eq, decide_true, decide_false, Bool.not_true, Bool.not_false, Option.isNone_none, Option.isNone_some, Option.isSome_none, Option.isSome_some, ite_true, ite_false, reduceIte, reduceCtorEq, and_true, true_and, eq_self, Option.some.injEq, Sum.inr.injEq, Sum.inl.injEq, Prod.mk.injEq, w.obj, kg5, v_rf, r]
theorem k_clear (h : WV σ M V) : ∃ σ', M_X8_clear [.ref 0] σ = some (some (.int (spClear V).1), σ') ∧ WV σ' M (spClear V).2 := by
  obtain ⟨P, C, T, fi, er, nu, po, w, v⟩ := h
  obtain ⟨Q, hQ, eQ⟩ := w.qp
  obtain ⟨Q', r, hQ'⟩ := f_empty w.len hQ
  rw [← eQ] at r
  refine ⟨qp σ Q', mV_eq w.2.1 rfl rfl ?_, P, C, T, fi, er, nu, po, w.pd hQ', v⟩
  unfold B_X8_clear
  simp only [x_k, x_i, x_r, x_nil, x_add, x_sub, x_mul, x_div, x_rem, x_get, x_getR, x_ald, x_aldR, x_len, x_lenR, x_if, xa_nil, xa_ci, xa_cr, x_callI, x_callR, x_new, x_newa, x_newq, x_max, x_min, xc_cmp, xc_cmp0, xc_null, xc_nn, xc_not, xc_and, xc_or, xc_if, xs_skip, xs_seq, xs_decI, xs_decR, xs_setI, xs_inc, xs_if, xs_blk, xs_retI, xs_retB, xs_retR, xs_retD, xs_ret0, xs_putI, xs_putZ, xs_putR, xs_putop, xs_ast, xs_astop, xs_astR, xs_callV, xs_callP, xs_super, xs_sw, s_go_inl, s_go_inr, s_cut_inl, s_cut_inr, o_void_n, v_i_int, v_i_none, v_r_ref, v_r_null, v_r_rf, h_set_some, o_some_s, zB_ne0, zB_ite, zB_ite2, g_Vn, g_Pi, nI_add, Option.bind_some, Option.map_some, Option.bind_none, Option.map_none, List.getElem?_cons_zero, List.getElem?_cons_succ, List.set_cons_zero, List.set_cons_succ, List.cons_append, List.nil_append, List.take_succ_cons, List.take_zero, List.length_cons, List.length_nil, Nat.zero_add, Nat.reduceAdd, Nat.reduceLT, if_true, if_false, Bool.false_eq_true, Bool.true_eq_false, decide_eq_true_eq, decide_true, decide_false, Bool.not_true, Bool.not_false, Option.isNone_none, Option.isNone_some, Option.isSome_none, Option.isSome_some, ite_true, ite_false, reduceIte, reduceCtorEq, and_true, true_and, eq_self, Option.some.injEq, Sum.inr.injEq, Sum.inl.injEq, Prod.mk.injEq, w.obj, kg5, v_rf, r]
  rfl
theorem k_fault (h : WV σ M V) (x : Int32) : ∃ σ', M_X8_fault [.ref 0, .int x] σ = some (some (.int (rFault V x)), σ') ∧ WV σ' M V := by
  have h' := h
  obtain ⟨P, C, T, fi, er, nu, po, w, v⟩ := h
  unfold rFault
  cases c : inB x (nI 0) (nI 1) with
  | false =>
    have x0 : i_ne x 0 = true := decide_eq_true (fun e => by rw [e] at c; exact absurd c (by decide))
    have x1 : i_ne x (nI 1) = true := decide_eq_true (fun e => by rw [e] at c; exact absurd c (by decide))
    refine ⟨σ, mV_eq w.2.1 rfl rfl ?_, h'⟩
    unfold B_X8_fault
    simp only [x_k, x_i, x_r, x_nil, x_add, x_sub, x_mul, x_div, x_rem, x_get, x_getR, x_ald, x_aldR, x_len, x_lenR, x_if, xa_nil, xa_ci, xa_cr, x_callI, x_callR, x_new, x_newa, x_newq, x_max, x_min, xc_cmp, xc_cmp0, xc_null, xc_nn, xc_not, xc_and, xc_or, xc_if, xs_skip, xs_seq, xs_decI, xs_decR, xs_setI, xs_inc, xs_if, xs_blk, xs_retI, xs_retB, xs_retR, xs_retD, xs_ret0, xs_putI, xs_putZ, xs_putR, xs_putop, xs_ast, xs_astop, xs_astR, xs_callV, xs_callP, xs_super, xs_sw, s_go_inl, s_go_inr, s_cut_inl, s_cut_inr, o_void_n, v_i_int, v_i_none, v_r_ref, v_r_null, v_r_rf, h_set_some, o_some_s, zB_ne0, zB_ite, zB_ite2, g_Vn, g_Pi, nI_add, Option.bind_some, Option.map_some, Option.bind_none, Option.map_none, List.getElem?_cons_zero, List.getElem?_cons_succ, List.set_cons_zero, List.set_cons_succ, List.cons_append, List.nil_append, List.take_succ_cons, List.take_zero, List.length_cons, List.length_nil, Nat.zero_add, Nat.reduceAdd, Nat.reduceLT, if_true, if_false, Bool.false_eq_true, Bool.true_eq_false, decide_eq_true_eq, decide_true, decide_false, Bool.not_true, Bool.not_false, Option.isNone_none, Option.isNone_some, Option.isSome_none, Option.isSome_some, ite_true, ite_false, reduceIte, reduceCtorEq, and_true, true_and, eq_self, Option.some.injEq, Sum.inr.injEq, Sum.inl.injEq, Prod.mk.injEq, x0, x1]
  | true =>
    obtain ⟨k, -, hk, rfl⟩ := inB_t (by omega) (by omega) c
    have e : nI k = zB (wB (nI k)) := by
      rcases (show k = 0 ∨ k = 1 by omega) with rfl | rfl
      · rfl
      · rfl
    have g : (c_and (c_cmp0 i_ne (e_i 1)) (c_cmp i_ne (e_i 1) (e_k (nI 1)))) [.ref 0, .int (nI k)] σ = some (false, σ) := by
      rcases (show k = 0 ∨ k = 1 by omega) with rfl | rfl
      · simp only [x_k, x_i, x_r, x_nil, x_add, x_sub, x_mul, x_div, x_rem, x_get, x_getR, x_ald, x_aldR, x_len, x_lenR, x_if, xa_nil, xa_ci, xa_cr, x_callI, x_callR, x_new, x_newa, x_newq, x_max, x_min, xc_cmp, xc_cmp0, xc_null, xc_nn, xc_not, xc_and, xc_or, xc_if, xs_skip, xs_seq, xs_decI, xs_decR, xs_setI, xs_inc, xs_if, xs_blk, xs_retI, xs_retB, xs_retR, xs_retD, xs_ret0, xs_putI, xs_putZ, xs_putR, xs_putop, xs_ast, xs_astop, xs_astR, xs_callV, xs_callP, xs_super, xs_sw, s_go_inl, s_go_inr, s_cut_inl, s_cut_inr, o_void_n, v_i_int, v_i_none, v_r_ref, v_r_null, v_r_rf, h_set_some, o_some_s, zB_ne0, zB_ite, zB_ite2, g_Vn, g_Pi, nI_add, Option.bind_some, Option.map_some, Option.bind_none, Option.map_none, List.getElem?_cons_zero, List.getElem?_cons_succ, List.set_cons_zero, List.set_cons_succ, List.cons_append, List.nil_append, List.take_succ_cons, List.take_zero, List.length_cons, List.length_nil, Nat.zero_add, Nat.reduceAdd, Nat.reduceLT, if_true, if_false, Bool.false_eq_true, Bool.true_eq_false, decide_eq_true_eq, decide_true, decide_false, Bool.not_true, Bool.not_false, Option.isNone_none, Option.isNone_some, Option.isSome_none, Option.isSome_some, ite_true, ite_false, reduceIte, reduceCtorEq, and_true, true_and, eq_self, Option.some.injEq, Sum.inr.injEq, Sum.inl.injEq, Prod.mk.injEq, show i_ne (nI 0) 0 = false by decide]
      · simp only [x_k, x_i, x_r, x_nil, x_add, x_sub, x_mul, x_div, x_rem, x_get, x_getR, x_ald, x_aldR, x_len, x_lenR, x_if, xa_nil, xa_ci, xa_cr, x_callI, x_callR, x_new, x_newa, x_newq, x_max, x_min, xc_cmp, xc_cmp0, xc_null, xc_nn, xc_not, xc_and, xc_or, xc_if, xs_skip, xs_seq, xs_decI, xs_decR, xs_setI, xs_inc, xs_if, xs_blk, xs_retI, xs_retB, xs_retR, xs_retD, xs_ret0, xs_putI, xs_putZ, xs_putR, xs_putop, xs_ast, xs_astop, xs_astR, xs_callV, xs_callP, xs_super, xs_sw, s_go_inl, s_go_inr, s_cut_inl, s_cut_inr, o_void_n, v_i_int, v_i_none, v_r_ref, v_r_null, v_r_rf, h_set_some, o_some_s, zB_ne0, zB_ite, zB_ite2, g_Vn, g_Pi, nI_add, Option.bind_some, Option.map_some, Option.bind_none, Option.map_none, List.getElem?_cons_zero, List.getElem?_cons_succ, List.set_cons_zero, List.set_cons_succ, List.cons_append, List.nil_append, List.take_succ_cons, List.take_zero, List.length_cons, List.length_nil, Nat.zero_add, Nat.reduceAdd, Nat.reduceLT, if_true, if_false, Bool.false_eq_true, Bool.true_eq_false, decide_eq_true_eq, decide_true, decide_false, Bool.not_true, Bool.not_false, Option.isNone_none, Option.isNone_some, Option.isSome_none, Option.isSome_some, ite_true, ite_false, reduceIte, reduceCtorEq, and_true, true_and, eq_self, Option.some.injEq, Sum.inr.injEq, Sum.inl.injEq, Prod.mk.injEq, show i_ne (nI 1) 0 = true by decide, show i_ne (nI 1) (nI 1) = false by decide]
    obtain ⟨Gd, hG⟩ : ∃ Gd, Gd = (c_and (c_cmp0 i_ne (e_i 1)) (c_cmp i_ne (e_i 1) (e_k (nI 1)))) := ⟨_, rfl⟩
    rw [← hG] at g
    obtain ⟨Q, hQ, eQ⟩ := w.qp
    obtain ⟨Q', r, hQ', -⟩ := f_faultOf w.len hQ (wB (nI k))
    rw [← eQ, ← e] at r
    rw [if_pos rfl]
    obtain ⟨o, ho⟩ : ∃ o, o = (fltP V.2.2.2.1 (wB (nI k)) 61 0).1 := ⟨_, rfl⟩
    have hle : ∀ a, o = some a → a < 2 ^ 31 := fun a ha => by
      rw [ho] at ha
      have := fltP_le 61 0 (Nat.zero_le _) ha
      have := hQ.1
      omega
    have ne := nx_eq hle
    rw [← ho] at r ⊢
    refine ⟨qp σ Q', mV_eq w.2.1 rfl rfl ?_, P, C, T, fi, er, nu, po, w.pd hQ', v⟩
    unfold B_X8_fault
    rw [← hG]
    cases o with
    | none =>
      have ne : i_eq (nx none) (-1) = true := ne
      simp only [x_k, x_i, x_r, x_nil, x_add, x_sub, x_mul, x_div, x_rem, x_get, x_getR, x_ald, x_aldR, x_len, x_lenR, x_if, xa_nil, xa_ci, xa_cr, x_callI, x_callR, x_new, x_newa, x_newq, x_max, x_min, xc_cmp, xc_cmp0, xc_null, xc_nn, xc_not, xc_and, xc_or, xc_if, xs_skip, xs_seq, xs_decI, xs_decR, xs_setI, xs_inc, xs_if, xs_blk, xs_retI, xs_retB, xs_retR, xs_retD, xs_ret0, xs_putI, xs_putZ, xs_putR, xs_putop, xs_ast, xs_astop, xs_astR, xs_callV, xs_callP, xs_super, xs_sw, s_go_inl, s_go_inr, s_cut_inl, s_cut_inr, o_void_n, v_i_int, v_i_none, v_r_ref, v_r_null, v_r_rf, h_set_some, o_some_s, zB_ne0, zB_ite, zB_ite2, g_Vn, g_Pi, nI_add, Option.bind_some, Option.map_some, Option.bind_none, Option.map_none, List.getElem?_cons_zero, List.getElem?_cons_succ, List.set_cons_zero, List.set_cons_succ, List.cons_append, List.nil_append, List.take_succ_cons, List.take_zero, List.length_cons, List.length_nil, Nat.zero_add, Nat.reduceAdd, Nat.reduceLT, if_true, if_false, Bool.false_eq_true, Bool.true_eq_false, decide_eq_true_eq, decide_true, decide_false, Bool.not_true, Bool.not_false, Option.isNone_none, Option.isNone_some, Option.isSome_none, Option.isSome_some, ite_true, ite_false, reduceIte, reduceCtorEq, and_true, true_and, eq_self, Option.some.injEq, Sum.inr.injEq, Sum.inl.injEq, Prod.mk.injEq, g, w.obj, kg5, v_rf, r, ne]
      rfl
    | some a =>
      have ne : i_eq (nx (some a)) (-1) = false := ne
      simp only [x_k, x_i, x_r, x_nil, x_add, x_sub, x_mul, x_div, x_rem, x_get, x_getR, x_ald, x_aldR, x_len, x_lenR, x_if, xa_nil, xa_ci, xa_cr, x_callI, x_callR, x_new, x_newa, x_newq, x_max, x_min, xc_cmp, xc_cmp0, xc_null, xc_nn, xc_not, xc_and, xc_or, xc_if, xs_skip, xs_seq, xs_decI, xs_decR, xs_setI, xs_inc, xs_if, xs_blk, xs_retI, xs_retB, xs_retR, xs_retD, xs_ret0, xs_putI, xs_putZ, xs_putR, xs_putop, xs_ast, xs_astop, xs_astR, xs_callV, xs_callP, xs_super, xs_sw, s_go_inl, s_go_inr, s_cut_inl, s_cut_inr, o_void_n, v_i_int, v_i_none, v_r_ref, v_r_null, v_r_rf, h_set_some, o_some_s, zB_ne0, zB_ite, zB_ite2, g_Vn, g_Pi, nI_add, Option.bind_some, Option.map_some, Option.bind_none, Option.map_none, List.getElem?_cons_zero, List.getElem?_cons_succ, List.set_cons_zero, List.set_cons_succ, List.cons_append, List.nil_append, List.take_succ_cons, List.take_zero, List.length_cons, List.length_nil, Nat.zero_add, Nat.reduceAdd, Nat.reduceLT, if_true, if_false, Bool.false_eq_true, Bool.true_eq_false, decide_eq_true_eq, decide_true, decide_false, Bool.not_true, Bool.not_false, Option.isNone_none, Option.isNone_some, Option.isSome_none, Option.isSome_some, ite_true, ite_false, reduceIte, reduceCtorEq, and_true, true_and, eq_self, Option.some.injEq, Sum.inr.injEq, Sum.inl.injEq, Prod.mk.injEq, g, w.obj, kg5, v_rf, r, ne]
      rfl
theorem k_why (h : WV σ M V) (x : Int32) : ∃ σ', M_X8_why [.ref 0, .int x] σ = some (some (.int (rWhy V x)), σ') ∧ WV σ' M V := by
  have h' := h
  obtain ⟨P, C, T, fi, er, nu, po, w, v⟩ := h
  unfold rWhy
  refine ⟨σ, mV_eq w.2.1 rfl rfl ?_, h'⟩
  unfold B_X8_why
  cases c : inB x (nI 0) (nI 2) with
  | false =>
    unfold inB at c
    cases g : i_ge x (nI 0) with
    | false =>
      have g' : i_ge x 0 = false := g
      simp only [x_k, x_i, x_r, x_nil, x_add, x_sub, x_mul, x_div, x_rem, x_get, x_getR, x_ald, x_aldR, x_len, x_lenR, x_if, xa_nil, xa_ci, xa_cr, x_callI, x_callR, x_new, x_newa, x_newq, x_max, x_min, xc_cmp, xc_cmp0, xc_null, xc_nn, xc_not, xc_and, xc_or, xc_if, xs_skip, xs_seq, xs_decI, xs_decR, xs_setI, xs_inc, xs_if, xs_blk, xs_retI, xs_retB, xs_retR, xs_retD, xs_ret0, xs_putI, xs_putZ, xs_putR, xs_putop, xs_ast, xs_astop, xs_astR, xs_callV, xs_callP, xs_super, xs_sw, s_go_inl, s_go_inr, s_cut_inl, s_cut_inr, o_void_n, v_i_int, v_i_none, v_r_ref, v_r_null, v_r_rf, h_set_some, o_some_s, zB_ne0, zB_ite, zB_ite2, g_Vn, g_Pi, nI_add, Option.bind_some, Option.map_some, Option.bind_none, Option.map_none, List.getElem?_cons_zero, List.getElem?_cons_succ, List.set_cons_zero, List.set_cons_succ, List.cons_append, List.nil_append, List.take_succ_cons, List.take_zero, List.length_cons, List.length_nil, Nat.zero_add, Nat.reduceAdd, Nat.reduceLT, if_true, if_false, Bool.false_eq_true, Bool.true_eq_false, decide_eq_true_eq, decide_true, decide_false, Bool.not_true, Bool.not_false, Option.isNone_none, Option.isNone_some, Option.isSome_none, Option.isSome_some, ite_true, ite_false, reduceIte, reduceCtorEq, and_true, true_and, eq_self, Option.some.injEq, Sum.inr.injEq, Sum.inl.injEq, Prod.mk.injEq, nlt_ge, g']
    | true =>
      rw [g, Bool.true_and] at c
      have g' : i_ge x 0 = true := g
      simp only [x_k, x_i, x_r, x_nil, x_add, x_sub, x_mul, x_div, x_rem, x_get, x_getR, x_ald, x_aldR, x_len, x_lenR, x_if, xa_nil, xa_ci, xa_cr, x_callI, x_callR, x_new, x_newa, x_newq, x_max, x_min, xc_cmp, xc_cmp0, xc_null, xc_nn, xc_not, xc_and, xc_or, xc_if, xs_skip, xs_seq, xs_decI, xs_decR, xs_setI, xs_inc, xs_if, xs_blk, xs_retI, xs_retB, xs_retR, xs_retD, xs_ret0, xs_putI, xs_putZ, xs_putR, xs_putop, xs_ast, xs_astop, xs_astR, xs_callV, xs_callP, xs_super, xs_sw, s_go_inl, s_go_inr, s_cut_inl, s_cut_inr, o_void_n, v_i_int, v_i_none, v_r_ref, v_r_null, v_r_rf, h_set_some, o_some_s, zB_ne0, zB_ite, zB_ite2, g_Vn, g_Pi, nI_add, Option.bind_some, Option.map_some, Option.bind_none, Option.map_none, List.getElem?_cons_zero, List.getElem?_cons_succ, List.set_cons_zero, List.set_cons_succ, List.cons_append, List.nil_append, List.take_succ_cons, List.take_zero, List.length_cons, List.length_nil, Nat.zero_add, Nat.reduceAdd, Nat.reduceLT, if_true, if_false, Bool.false_eq_true, Bool.true_eq_false, decide_eq_true_eq, decide_true, decide_false, Bool.not_true, Bool.not_false, Option.isNone_none, Option.isNone_some, Option.isSome_none, Option.isSome_some, ite_true, ite_false, reduceIte, reduceCtorEq, and_true, true_and, eq_self, Option.some.injEq, Sum.inr.injEq, Sum.inl.injEq, Prod.mk.injEq, nlt_ge, ngt_le, g', c]
  | true =>
    obtain ⟨k, -, hk, rfl⟩ := inB_t (by omega) (by omega) c
    cases e : V.2.2.2.2 with
    | none =>
      have e0 := v.2.2.2.1 e
      subst e0
      simp (disch := omega) only [x_k, x_i, x_r, x_nil, x_add, x_sub, x_mul, x_div, x_rem, x_get, x_getR, x_ald, x_aldR, x_len, x_lenR, x_if, xa_nil, xa_ci, xa_cr, x_callI, x_callR, x_new, x_newa, x_newq, x_max, x_min, xc_cmp, xc_cmp0, xc_null, xc_nn, xc_not, xc_and, xc_or, xc_if, xs_skip, xs_seq, xs_decI, xs_decR, xs_setI, xs_inc, xs_if, xs_blk, xs_retI, xs_retB, xs_retR, xs_retD, xs_ret0, xs_putI, xs_putZ, xs_putR, xs_putop, xs_ast, xs_astop, xs_astR, xs_callV, xs_callP, xs_super, xs_sw, s_go_inl, s_go_inr, s_cut_inl, s_cut_inr, o_void_n, v_i_int, v_i_none, v_r_ref, v_r_null, v_r_rf, h_set_some, o_some_s, zB_ne0, zB_ite, zB_ite2, g_Vn, g_Pi, nI_add, Option.bind_some, Option.map_some, Option.bind_none, Option.map_none, List.getElem?_cons_zero, List.getElem?_cons_succ, List.set_cons_zero, List.set_cons_succ, List.cons_append, List.nil_append, List.take_succ_cons, List.take_zero, List.length_cons, List.length_nil, Nat.zero_add, Nat.reduceAdd, Nat.reduceLT, if_true, if_false, Bool.false_eq_true, Bool.true_eq_false, decide_eq_true_eq, decide_true, decide_false, Bool.not_true, Bool.not_false, Option.isNone_none, Option.isNone_some, Option.isSome_none, Option.isSome_some, ite_true, ite_false, reduceIte, reduceCtorEq, and_true, true_and, eq_self, Option.some.injEq, Sum.inr.injEq, Sum.inl.injEq, Prod.mk.injEq, j_lt0, j_gt, show ¬ 2 < k by omega, w.obj, kg8, show i_eq (nI 0) 0 = true by decide]
    | some t =>
      obtain ⟨e1, e2, e3, e4⟩ := v.2.2.2.2 t e
      have en : i_eq er 0 = false := decide_eq_false (fun z => by rw [← e1, z] at e2; exact absurd e2 (by decide))
      have en' : i_eq t.1 0 = false := by rw [← e1]; exact en
      rcases (show k = 0 ∨ k = 1 ∨ k = 2 by omega) with rfl | rfl | rfl
      · simp (disch := omega) only [x_k, x_i, x_r, x_nil, x_add, x_sub, x_mul, x_div, x_rem, x_get, x_getR, x_ald, x_aldR, x_len, x_lenR, x_if, xa_nil, xa_ci, xa_cr, x_callI, x_callR, x_new, x_newa, x_newq, x_max, x_min, xc_cmp, xc_cmp0, xc_null, xc_nn, xc_not, xc_and, xc_or, xc_if, xs_skip, xs_seq, xs_decI, xs_decR, xs_setI, xs_inc, xs_if, xs_blk, xs_retI, xs_retB, xs_retR, xs_retD, xs_ret0, xs_putI, xs_putZ, xs_putR, xs_putop, xs_ast, xs_astop, xs_astR, xs_callV, xs_callP, xs_super, xs_sw, s_go_inl, s_go_inr, s_cut_inl, s_cut_inr, o_void_n, v_i_int, v_i_none, v_r_ref, v_r_null, v_r_rf, h_set_some, o_some_s, zB_ne0, zB_ite, zB_ite2, g_Vn, g_Pi, nI_add, Option.bind_some, Option.map_some, Option.bind_none, Option.map_none, List.getElem?_cons_zero, List.getElem?_cons_succ, List.set_cons_zero, List.set_cons_succ, List.cons_append, List.nil_append, List.take_succ_cons, List.take_zero, List.length_cons, List.length_nil, Nat.zero_add, Nat.reduceAdd, Nat.reduceLT, if_true, if_false, Bool.false_eq_true, Bool.true_eq_false, decide_eq_true_eq, decide_true, decide_false, Bool.not_true, Bool.not_false, Option.isNone_none, Option.isNone_some, Option.isSome_none, Option.isSome_some, ite_true, ite_false, reduceIte, reduceCtorEq, and_true, true_and, eq_self, Option.some.injEq, Sum.inr.injEq, Sum.inl.injEq, Prod.mk.injEq, not_true_eq_false, not_false_eq_true, Bool.decide_eq_true, n0_ne, n1_ne, xz_ret, zb_if, n1_if, n0_if, v_rf, h_ix_nI, nI_clamp, zB_t, zB_f, uN_uN, uN_ap, Nat.reduceEqDiff, Nat.reduceMul, Nat.reduceSub, j_lt0, j_gt, show ¬ 2 < 0 by omega, w.obj, kg8, en', nI_eq, e1]
      · simp (disch := omega) only [x_k, x_i, x_r, x_nil, x_add, x_sub, x_mul, x_div, x_rem, x_get, x_getR, x_ald, x_aldR, x_len, x_lenR, x_if, xa_nil, xa_ci, xa_cr, x_callI, x_callR, x_new, x_newa, x_newq, x_max, x_min, xc_cmp, xc_cmp0, xc_null, xc_nn, xc_not, xc_and, xc_or, xc_if, xs_skip, xs_seq, xs_decI, xs_decR, xs_setI, xs_inc, xs_if, xs_blk, xs_retI, xs_retB, xs_retR, xs_retD, xs_ret0, xs_putI, xs_putZ, xs_putR, xs_putop, xs_ast, xs_astop, xs_astR, xs_callV, xs_callP, xs_super, xs_sw, s_go_inl, s_go_inr, s_cut_inl, s_cut_inr, o_void_n, v_i_int, v_i_none, v_r_ref, v_r_null, v_r_rf, h_set_some, o_some_s, zB_ne0, zB_ite, zB_ite2, g_Vn, g_Pi, nI_add, Option.bind_some, Option.map_some, Option.bind_none, Option.map_none, List.getElem?_cons_zero, List.getElem?_cons_succ, List.set_cons_zero, List.set_cons_succ, List.cons_append, List.nil_append, List.take_succ_cons, List.take_zero, List.length_cons, List.length_nil, Nat.zero_add, Nat.reduceAdd, Nat.reduceLT, if_true, if_false, Bool.false_eq_true, Bool.true_eq_false, decide_eq_true_eq, decide_true, decide_false, Bool.not_true, Bool.not_false, Option.isNone_none, Option.isNone_some, Option.isSome_none, Option.isSome_some, ite_true, ite_false, reduceIte, reduceCtorEq, and_true, true_and, eq_self, Option.some.injEq, Sum.inr.injEq, Sum.inl.injEq, Prod.mk.injEq, not_true_eq_false, not_false_eq_true, Bool.decide_eq_true, n0_ne, n1_ne, xz_ret, zb_if, n1_if, n0_if, v_rf, h_ix_nI, nI_clamp, zB_t, zB_f, uN_uN, uN_ap, Nat.reduceEqDiff, Nat.reduceMul, Nat.reduceSub, j_lt0, j_gt, show ¬ 2 < 1 by omega, w.obj, kg8, kg9, en, nI_eq, e3]
      · simp (disch := omega) only [x_k, x_i, x_r, x_nil, x_add, x_sub, x_mul, x_div, x_rem, x_get, x_getR, x_ald, x_aldR, x_len, x_lenR, x_if, xa_nil, xa_ci, xa_cr, x_callI, x_callR, x_new, x_newa, x_newq, x_max, x_min, xc_cmp, xc_cmp0, xc_null, xc_nn, xc_not, xc_and, xc_or, xc_if, xs_skip, xs_seq, xs_decI, xs_decR, xs_setI, xs_inc, xs_if, xs_blk, xs_retI, xs_retB, xs_retR, xs_retD, xs_ret0, xs_putI, xs_putZ, xs_putR, xs_putop, xs_ast, xs_astop, xs_astR, xs_callV, xs_callP, xs_super, xs_sw, s_go_inl, s_go_inr, s_cut_inl, s_cut_inr, o_void_n, v_i_int, v_i_none, v_r_ref, v_r_null, v_r_rf, h_set_some, o_some_s, zB_ne0, zB_ite, zB_ite2, g_Vn, g_Pi, nI_add, Option.bind_some, Option.map_some, Option.bind_none, Option.map_none, List.getElem?_cons_zero, List.getElem?_cons_succ, List.set_cons_zero, List.set_cons_succ, List.cons_append, List.nil_append, List.take_succ_cons, List.take_zero, List.length_cons, List.length_nil, Nat.zero_add, Nat.reduceAdd, Nat.reduceLT, if_true, if_false, Bool.false_eq_true, Bool.true_eq_false, decide_eq_true_eq, decide_true, decide_false, Bool.not_true, Bool.not_false, Option.isNone_none, Option.isNone_some, Option.isSome_none, Option.isSome_some, ite_true, ite_false, reduceIte, reduceCtorEq, and_true, true_and, eq_self, Option.some.injEq, Sum.inr.injEq, Sum.inl.injEq, Prod.mk.injEq, not_true_eq_false, not_false_eq_true, Bool.decide_eq_true, n0_ne, n1_ne, xz_ret, zb_if, n1_if, n0_if, v_rf, h_ix_nI, nI_clamp, zB_t, zB_f, uN_uN, uN_ap, Nat.reduceEqDiff, Nat.reduceMul, Nat.reduceSub, j_lt0, j_gt, show ¬ 2 < 2 by omega, w.obj, kg8, kg10, en, nI_eq, e4]
end
