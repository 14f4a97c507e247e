/-! StairKin's constructor (own work) -/
def iA (n : Nat) : sAC := .inr (.inl (n, fun _ => 0))
def iS (a : Nat) : List sAC := [.inl (5, [.ref (a + 1), .ref (a + 2), .int 0, .int 0, .int (nI 2), .int 0]), iA 12, .inl (0, [.ref (a + 3), .ref (a + 4), .ref (a + 5), .int 0]), iA 16, iA 16, iA 16]
theorem it0 (X l : List sAC) (c : sAC) : (X ++ c :: l)[X.length]? = some c := by simp
theorem it1 (X l : List sAC) (c c0 : sAC) : (X ++ c0 :: c :: l)[X.length + 1]? = some c := by simp
theorem it2 (X l : List sAC) (c c0 c1 : sAC) : (X ++ c0 :: c1 :: c :: l)[X.length + 2]? = some c := by simp
theorem is0 (X l : List sAC) (c d : sAC) : (X ++ c :: l).set X.length d = X ++ d :: l := by simp
theorem is1 (X l : List sAC) (c c0 d : sAC) : (X ++ c0 :: c :: l).set (X.length + 1) d = X ++ c0 :: d :: l := by simp
theorem is2 (X l : List sAC) (c c0 c1 d : sAC) : (X ++ c0 :: c1 :: c :: l).set (X.length + 2) d = X ++ c0 :: c1 :: d :: l := by simp
theorem il (X l : List sAC) : (X ++ l).length = X.length + l.length := List.length_append
theorem iy (X l : List sAC) (c : sAC) : (X ++ l) ++ [c] = X ++ (l ++ [c]) := List.append_assoc _ _ _
theorem ini0 (X : List sAC) (c0 c1 : sAC) (n : Nat) : M_X0_init [.ref (X.length + 2)] (X ++ [c0, c1, .inl (0, [.null, .null, .null, .int 0])], n) = some (none, (X ++ [c0, c1, .inl (0, [.ref (X.length + 3), .ref (X.length + 4), .ref (X.length + 5), .int 0]), iA 16, iA 16, iA 16], n + 48)) := by
  refine m_eq rfl rfl ?_
  have z : 0 ≤ (nI 16).toInt ∧ (nI 16).toInt ≤ 100000 := by decide
  have z2 : (nI 16).toNatClampNeg = 16 := by decide
  unfold B_X0_init
  simp only [x_and, x_or, x_shl, x_shr, x_k, x_i, x_r, x_nil, x_add, x_sub, x_mul, x_div, x_rem, x_get, x_getR, x_ald, x_aldR, x_len, x_lenR, x_if, xa_nil, xa_ci, xa_cr, x_callI, x_callR, x_new, x_newa, x_newq, x_max, x_min, xc_cmp, xc_cmp0, xc_null, xc_nn, xc_not, xc_and, xc_or, xc_if, xs_skip, xs_seq, xs_decI, xs_decR, xs_setI, xs_inc, xs_if, xs_blk, xs_retI, xs_retB, xs_retR, xs_retD, xs_ret0, xs_putI, xs_putZ, xs_putR, xs_putop, xs_ast, xs_astop, xs_astR, xs_callV, xs_callP, xs_super, xs_sw, s_go_inl, s_go_inr, s_cut_inl, s_cut_inr, o_void_n, v_i_int, v_i_none, v_r_ref, v_r_null, v_r_rf, h_set_some, o_some_s, zB_ne0, zB_ite, zB_ite2, g_Vn, g_Pi, nI_add, Option.bind_some, Option.map_some, Option.bind_none, Option.map_none, List.getElem?_cons_zero, List.getElem?_cons_succ, List.set_cons_zero, List.set_cons_succ, List.cons_append, List.nil_append, List.take_succ_cons, List.take_zero, List.length_cons, List.length_nil, Nat.zero_add, Nat.reduceAdd, Nat.reduceLT, if_true, if_false, Bool.false_eq_true, Bool.true_eq_false, decide_eq_true_eq, decide_true, decide_false, Bool.not_true, Bool.not_false, Option.isNone_none, Option.isNone_some, Option.isSome_none, Option.isSome_some, ite_true, ite_false, reduceIte, reduceCtorEq, and_true, true_and, eq_self, Option.some.injEq, Sum.inr.injEq, Sum.inl.injEq, Prod.mk.injEq, h_obj, h_set, it2, is2, il, iy, z, z2]
  rfl
theorem iniS (X : List sAC) (n : Nat) (L : List Value) : e_new 5 [.null, .null, .int 0, .int 0, .int 0, .int 0] M_X6_init a_nil L (X, n) = some (some X.length, (X ++ iS X.length, n + 70)) := by
  have z : 0 ≤ (nI 12).toInt ∧ (nI 12).toInt ≤ 100000 := by decide
  have z2 : (nI 12).toNatClampNeg = 12 := by decide
  have m : M_X6_init [.ref X.length] (X ++ [.inl (5, [.null, .null, .int 0, .int 0, .int 0, .int 0])], n + 6) = some (none, (X ++ iS X.length, n + 70)) := by
    refine m_eq rfl rfl ?_
    unfold B_X6_init
    simp only [x_and, x_or, x_shl, x_shr, x_k, x_i, x_r, x_nil, x_add, x_sub, x_mul, x_div, x_rem, x_get, x_getR, x_ald, x_aldR, x_len, x_lenR, x_if, xa_nil, xa_ci, xa_cr, x_callI, x_callR, x_new, x_newa, x_newq, x_max, x_min, xc_cmp, xc_cmp0, xc_null, xc_nn, xc_not, xc_and, xc_or, xc_if, xs_skip, xs_seq, xs_decI, xs_decR, xs_setI, xs_inc, xs_if, xs_blk, xs_retI, xs_retB, xs_retR, xs_retD, xs_ret0, xs_putI, xs_putZ, xs_putR, xs_putop, xs_ast, xs_astop, xs_astR, xs_callV, xs_callP, xs_super, xs_sw, s_go_inl, s_go_inr, s_cut_inl, s_cut_inr, o_void_n, v_i_int, v_i_none, v_r_ref, v_r_null, v_r_rf, h_set_some, o_some_s, zB_ne0, zB_ite, zB_ite2, g_Vn, g_Pi, nI_add, Option.bind_some, Option.map_some, Option.bind_none, Option.map_none, List.getElem?_cons_zero, List.getElem?_cons_succ, List.set_cons_zero, List.set_cons_succ, List.cons_append, List.nil_append, List.take_succ_cons, List.take_zero, List.length_cons, List.length_nil, Nat.zero_add, Nat.reduceAdd, Nat.reduceLT, if_true, if_false, Bool.false_eq_true, Bool.true_eq_false, decide_eq_true_eq, decide_true, decide_false, Bool.not_true, Bool.not_false, Option.isNone_none, Option.isNone_some, Option.isSome_none, Option.isSome_some, ite_true, ite_false, reduceIte, reduceCtorEq, and_true, true_and, eq_self, Option.some.injEq, Sum.inr.injEq, Sum.inl.injEq, Prod.mk.injEq, h_obj, h_set, it0, is0, il, iy, z, z2, ini0]
    rfl
  rw [x_new]
  show (M_X6_init [.ref X.length] (X ++ [.inl (5, [.null, .null, .int 0, .int 0, .int 0, .int 0])], n + 6)).bind (fun q => o_void X.length q) = _
  rw [m]
  rfl
theorem iniP (X : List sAC) (n : Nat) (L : List Value) : e_new 4 [.null, .int 0, .int 0, .int 0, .int 0, .int 0, .int 0, .int 0, .int 0] M_X4_init a_nil L (X, n) = some (some X.length, (X ++ [.inl (4, [.ref (X.length + 1), .int 0, .int 0, .int 0, .int 0, .int 0, .int 0, .int 0, .int 0]), iA 60], n + 69)) := by
  have z : 0 ≤ (nI 60).toInt ∧ (nI 60).toInt ≤ 100000 := by decide
  have z2 : (nI 60).toNatClampNeg = 60 := by decide
  have m : M_X4_init [.ref X.length] (X ++ [.inl (4, [.null, .int 0, .int 0, .int 0, .int 0, .int 0, .int 0, .int 0, .int 0])], n + 9) = some (none, (X ++ [.inl (4, [.ref (X.length + 1), .int 0, .int 0, .int 0, .int 0, .int 0, .int 0, .int 0, .int 0]), iA 60], n + 69)) := by
    refine m_eq rfl rfl ?_
    unfold B_X4_init
    simp only [x_and, x_or, x_shl, x_shr, x_k, x_i, x_r, x_nil, x_add, x_sub, x_mul, x_div, x_rem, x_get, x_getR, x_ald, x_aldR, x_len, x_lenR, x_if, xa_nil, xa_ci, xa_cr, x_callI, x_callR, x_new, x_newa, x_newq, x_max, x_min, xc_cmp, xc_cmp0, xc_null, xc_nn, xc_not, xc_and, xc_or, xc_if, xs_skip, xs_seq, xs_decI, xs_decR, xs_setI, xs_inc, xs_if, xs_blk, xs_retI, xs_retB, xs_retR, xs_retD, xs_ret0, xs_putI, xs_putZ, xs_putR, xs_putop, xs_ast, xs_astop, xs_astR, xs_callV, xs_callP, xs_super, xs_sw, s_go_inl, s_go_inr, s_cut_inl, s_cut_inr, o_void_n, v_i_int, v_i_none, v_r_ref, v_r_null, v_r_rf, h_set_some, o_some_s, zB_ne0, zB_ite, zB_ite2, g_Vn, g_Pi, nI_add, Option.bind_some, Option.map_some, Option.bind_none, Option.map_none, List.getElem?_cons_zero, List.getElem?_cons_succ, List.set_cons_zero, List.set_cons_succ, List.cons_append, List.nil_append, List.take_succ_cons, List.take_zero, List.length_cons, List.length_nil, Nat.zero_add, Nat.reduceAdd, Nat.reduceLT, if_true, if_false, Bool.false_eq_true, Bool.true_eq_false, decide_eq_true_eq, decide_true, decide_false, Bool.not_true, Bool.not_false, Option.isNone_none, Option.isNone_some, Option.isSome_none, Option.isSome_some, ite_true, ite_false, reduceIte, reduceCtorEq, and_true, true_and, eq_self, Option.some.injEq, Sum.inr.injEq, Sum.inl.injEq, Prod.mk.injEq, h_obj, h_set, it0, is0, il, iy, z, z2]
    rfl
  rw [x_new]
  show (M_X4_init [.ref X.length] (X ++ [.inl (4, [.null, .int 0, .int 0, .int 0, .int 0, .int 0, .int 0, .int 0, .int 0])], n + 9)).bind (fun q => o_void X.length q) = _
  rw [m]
  rfl
theorem iniF (X : List sAC) (n : Nat) (L : List Value) : e_new 2 [.null, .int 0] M_X2_init a_nil L (X, n) = some (some X.length, (X ++ [.inl (2, [.ref (X.length + 1), .int 0]), iA 12], n + 14)) := by
  have z : 0 ≤ (nI 12).toInt ∧ (nI 12).toInt ≤ 100000 := by decide
  have z2 : (nI 12).toNatClampNeg = 12 := by decide
  have m : M_X2_init [.ref X.length] (X ++ [.inl (2, [.null, .int 0])], n + 2) = some (none, (X ++ [.inl (2, [.ref (X.length + 1), .int 0]), iA 12], n + 14)) := by
    refine m_eq rfl rfl ?_
    unfold B_X2_init
    simp only [x_and, x_or, x_shl, x_shr, x_k, x_i, x_r, x_nil, x_add, x_sub, x_mul, x_div, x_rem, x_get, x_getR, x_ald, x_aldR, x_len, x_lenR, x_if, xa_nil, xa_ci, xa_cr, x_callI, x_callR, x_new, x_newa, x_newq, x_max, x_min, xc_cmp, xc_cmp0, xc_null, xc_nn, xc_not, xc_and, xc_or, xc_if, xs_skip, xs_seq, xs_decI, xs_decR, xs_setI, xs_inc, xs_if, xs_blk, xs_retI, xs_retB, xs_retR, xs_retD, xs_ret0, xs_putI, xs_putZ, xs_putR, xs_putop, xs_ast, xs_astop, xs_astR, xs_callV, xs_callP, xs_super, xs_sw, s_go_inl, s_go_inr, s_cut_inl, s_cut_inr, o_void_n, v_i_int, v_i_none, v_r_ref, v_r_null, v_r_rf, h_set_some, o_some_s, zB_ne0, zB_ite, zB_ite2, g_Vn, g_Pi, nI_add, Option.bind_some, Option.map_some, Option.bind_none, Option.map_none, List.getElem?_cons_zero, List.getElem?_cons_succ, List.set_cons_zero, List.set_cons_succ, List.cons_append, List.nil_append, List.take_succ_cons, List.take_zero, List.length_cons, List.length_nil, Nat.zero_add, Nat.reduceAdd, Nat.reduceLT, if_true, if_false, Bool.false_eq_true, Bool.true_eq_false, decide_eq_true_eq, decide_true, decide_false, Bool.not_true, Bool.not_false, Option.isNone_none, Option.isNone_some, Option.isSome_none, Option.isSome_some, ite_true, ite_false, reduceIte, reduceCtorEq, and_true, true_and, eq_self, Option.some.injEq, Sum.inr.injEq, Sum.inl.injEq, Prod.mk.injEq, h_obj, h_set, it0, is0, il, iy, z, z2]
    rfl
  rw [x_new]
  show (M_X2_init [.ref X.length] (X ++ [.inl (2, [.null, .int 0])], n + 2)).bind (fun q => o_void X.length q) = _
  rw [m]
  rfl
theorem iniC (X : List sAC) (n : Nat) (L : List Value) : e_new 1 [.null, .int 0, .int 0, .int 0, .int 0, .null, .null, .null] M_X1_init a_nil L (X, n) = some (some X.length, (X ++ [.inl (1, [.ref (X.length + 1), .int 0, .int 0, .int 0, .int 0, .ref (X.length + 2), .ref (X.length + 3), .ref (X.length + 4)]), iA 12, iA 12, iA 12, iA 12], n + 56)) := by
  have z : 0 ≤ (nI 12).toInt ∧ (nI 12).toInt ≤ 100000 := by decide
  have z2 : (nI 12).toNatClampNeg = 12 := by decide
  have m : M_X1_init [.ref X.length] (X ++ [.inl (1, [.null, .int 0, .int 0, .int 0, .int 0, .null, .null, .null])], n + 8) = some (none, (X ++ [.inl (1, [.ref (X.length + 1), .int 0, .int 0, .int 0, .int 0, .ref (X.length + 2), .ref (X.length + 3), .ref (X.length + 4)]), iA 12, iA 12, iA 12, iA 12], n + 56)) := by
    refine m_eq rfl rfl ?_
    unfold B_X1_init
    simp only [x_and, x_or, x_shl, x_shr, x_k, x_i, x_r, x_nil, x_add, x_sub, x_mul, x_div, x_rem, x_get, x_getR, x_ald, x_aldR, x_len, x_lenR, x_if, xa_nil, xa_ci, xa_cr, x_callI, x_callR, x_new, x_newa, x_newq, x_max, x_min, xc_cmp, xc_cmp0, xc_null, xc_nn, xc_not, xc_and, xc_or, xc_if, xs_skip, xs_seq, xs_decI, xs_decR, xs_setI, xs_inc, xs_if, xs_blk, xs_retI, xs_retB, xs_retR, xs_retD, xs_ret0, xs_putI, xs_putZ, xs_putR, xs_putop, xs_ast, xs_astop, xs_astR, xs_callV, xs_callP, xs_super, xs_sw, s_go_inl, s_go_inr, s_cut_inl, s_cut_inr, o_void_n, v_i_int, v_i_none, v_r_ref, v_r_null, v_r_rf, h_set_some, o_some_s, zB_ne0, zB_ite, zB_ite2, g_Vn, g_Pi, nI_add, Option.bind_some, Option.map_some, Option.bind_none, Option.map_none, List.getElem?_cons_zero, List.getElem?_cons_succ, List.set_cons_zero, List.set_cons_succ, List.cons_append, List.nil_append, List.take_succ_cons, List.take_zero, List.length_cons, List.length_nil, Nat.zero_add, Nat.reduceAdd, Nat.reduceLT, if_true, if_false, Bool.false_eq_true, Bool.true_eq_false, decide_eq_true_eq, decide_true, decide_false, Bool.not_true, Bool.not_false, Option.isNone_none, Option.isNone_some, Option.isSome_none, Option.isSome_some, ite_true, ite_false, reduceIte, reduceCtorEq, and_true, true_and, eq_self, Option.some.injEq, Sum.inr.injEq, Sum.inl.injEq, Prod.mk.injEq, h_obj, h_set, it0, is0, il, iy, z, z2]
    rfl
  rw [x_new]
  show (M_X1_init [.ref X.length] (X ++ [.inl (1, [.null, .int 0, .int 0, .int 0, .int 0, .null, .null, .null])], n + 8)).bind (fun q => o_void X.length q) = _
  rw [m]
  rfl
/-- the ring's states -/
theorem iniH1 (X l : List sAC) (n : Nat) (f : Nat → Option Nat) {i : Nat} (hi : i < 5) : W_X3_init_1 [.ref X.length, .int (nI i)] (X ++ .inl (3, [.ref (X.length + 1), .int 0, .int 0]) :: .inr (.inr (5, f)) :: l, n) = some (.inr ([.ref X.length, .int (nI (i + 1))], (X ++ .inl (3, [.ref (X.length + 1), .int 0, .int 0]) :: .inr (.inr (5, va_up f i (some (X.length + l.length + 2)))) :: (l ++ iS (X.length + l.length + 2)), n + 70))) := by
  obtain ⟨Y, hY⟩ : ∃ Y, Y = X ++ .inl (3, [.ref (X.length + 1), .int 0, .int 0]) :: .inr (.inr (5, f)) :: l := ⟨_, rfl⟩
  have yl : Y.length = X.length + l.length + 2 := by rw [hY, il]; rfl
  have e := iniS Y n [.ref X.length, .int (nI i)]
  rw [yl] at e
  have o1 : h_obj (Y, n) (some X.length) 3 = some [.ref (X.length + 1), .int 0, .int 0] := h_obj_eq (by rw [hY]; exact it0 _ _ _)
  have hc : Y ++ iS (X.length + l.length + 2) = X ++ .inl (3, [.ref (X.length + 1), .int 0, .int 0]) :: .inr (.inr (5, f)) :: (l ++ iS (X.length + l.length + 2)) := by
    rw [hY, List.append_assoc]
    rfl
  have o2 : h_rar (Y ++ iS (X.length + l.length + 2), n + 70) (some (X.length + 1)) = some (5, f) := h_rar_eq (by rw [hc]; exact it1 _ _ _ _)
  have o3 : h_obj (Y ++ iS (X.length + l.length + 2), n + 70) (some (X.length + l.length + 2)) 5 = some [.ref (X.length + l.length + 2 + 1), .ref (X.length + l.length + 2 + 2), .int 0, .int 0, .int (nI 2), .int 0] := h_obj_eq (by rw [← yl]; exact it0 _ _ _)
  obtain ⟨E, hE⟩ : ∃ E : sEx (Option Nat), E = e_new 5 [.null, .null, .int 0, .int 0, .int 0, .int 0] M_X6_init a_nil := ⟨_, rfl⟩
  have hW : ∀ (L : List Value) (τ : sSt), W_X3_init_1 L τ = (s_seq (s_astR 5 (e_getR 3 0 (e_r 0)) (e_i 1) E) (s_inc 1 (nI 1))) L τ := fun L τ => by rw [hE]
  rw [← hE] at e
  rw [← hY, hW]
  simp (disch := omega) only [x_and, x_or, x_shl, x_shr, x_k, x_i, x_r, x_nil, x_add, x_sub, x_mul, x_div, x_rem, x_get, x_getR, x_ald, x_aldR, x_len, x_lenR, x_if, xa_nil, xa_ci, xa_cr, x_callI, x_callR, x_new, x_newa, x_newq, x_max, x_min, xc_cmp, xc_cmp0, xc_null, xc_nn, xc_not, xc_and, xc_or, xc_if, xs_skip, xs_seq, xs_decI, xs_decR, xs_setI, xs_inc, xs_if, xs_blk, xs_retI, xs_retB, xs_retR, xs_retD, xs_ret0, xs_putI, xs_putZ, xs_putR, xs_putop, xs_ast, xs_astop, xs_astR, xs_callV, xs_callP, xs_super, xs_sw, s_go_inl, s_go_inr, s_cut_inl, s_cut_inr, o_void_n, v_i_int, v_i_none, v_r_ref, v_r_null, v_r_rf, h_set_some, o_some_s, zB_ne0, zB_ite, zB_ite2, g_Vn, g_Pi, nI_add, Option.bind_some, Option.map_some, Option.bind_none, Option.map_none, List.getElem?_cons_zero, List.getElem?_cons_succ, List.set_cons_zero, List.set_cons_succ, List.cons_append, List.nil_append, List.take_succ_cons, List.take_zero, List.length_cons, List.length_nil, Nat.zero_add, Nat.reduceAdd, Nat.reduceLT, if_true, if_false, Bool.false_eq_true, Bool.true_eq_false, decide_eq_true_eq, decide_true, decide_false, Bool.not_true, Bool.not_false, Option.isNone_none, Option.isNone_some, Option.isSome_none, Option.isSome_some, ite_true, ite_false, reduceIte, reduceCtorEq, and_true, true_and, eq_self, Option.some.injEq, Sum.inr.injEq, Sum.inl.injEq, Prod.mk.injEq, not_true_eq_false, not_false_eq_true, Bool.decide_eq_true, n0_ne, n1_ne, xz_ret, zb_if, n1_if, n0_if, v_rf, h_ix_nI, nI_clamp, zB_t, zB_f, uN_uN, uN_ap, Nat.reduceEqDiff, Nat.reduceMul, Nat.reduceSub, o1, o2, o3, e, h_ix_nI, nI_clamp, hi]
  rw [hc, is1]
/-- the history -/
def ring (X : List sAC) (f : Nat → Option Nat) : List sAC := X ++ .inl (3, [.ref (X.length + 1), .int 0, .int 0]) :: .inr (.inr (5, f)) :: (iS (X.length + 2) ++ (iS (X.length + 8) ++ (iS (X.length + 14) ++ (iS (X.length + 20) ++ iS (X.length + 26)))))
def rF (a : Nat) : Nat → Option Nat := va_up (va_up (va_up (va_up (va_up (fun _ => none) 0 (some (a + 2))) 1 (some (a + 8))) 2 (some (a + 14))) 3 (some (a + 20))) 4 (some (a + 26))
theorem iniH (X : List sAC) (n : Nat) (L : List Value) : e_new 3 [.null, .int 0, .int 0] M_X3_init a_nil L (X, n) = some (some X.length, (ring X (rF X.length), n + 358)) := by
  have z : 0 ≤ (nI 5).toInt ∧ (nI 5).toInt ≤ 100000 := by decide
  have z2 : (nI 5).toNatClampNeg = 5 := by decide
  have hc : ∀ {i : Nat} {f : Nat → Option Nat} {l : List sAC} {n : Nat}, C_X3_init_1 [.ref X.length, .int (nI i)] (X ++ .inl (3, [.ref (X.length + 1), .int 0, .int 0]) :: .inr (.inr (5, f)) :: l, n) = some (i_lt (nI i) (nI 5), (X ++ .inl (3, [.ref (X.length + 1), .int 0, .int 0]) :: .inr (.inr (5, f)) :: l, n)) := fun {i f l n} => by
    have o1 : h_obj (X ++ .inl (3, [.ref (X.length + 1), .int 0, .int 0]) :: .inr (.inr (5, f)) :: l, n) (some X.length) 3 = some [.ref (X.length + 1), .int 0, .int 0] := h_obj_eq (it0 _ _ _)
    have o2 : h_rar (X ++ .inl (3, [.ref (X.length + 1), .int 0, .int 0]) :: .inr (.inr (5, f)) :: l, n) (some (X.length + 1)) = some (5, f) := h_rar_eq (it1 _ _ _ _)
    simp only [x_and, x_or, x_shl, x_shr, x_k, x_i, x_r, x_nil, x_add, x_sub, x_mul, x_div, x_rem, x_get, x_getR, x_ald, x_aldR, x_len, x_lenR, x_if, xa_nil, xa_ci, xa_cr, x_callI, x_callR, x_new, x_newa, x_newq, x_max, x_min, xc_cmp, xc_cmp0, xc_null, xc_nn, xc_not, xc_and, xc_or, xc_if, xs_skip, xs_seq, xs_decI, xs_decR, xs_setI, xs_inc, xs_if, xs_blk, xs_retI, xs_retB, xs_retR, xs_retD, xs_ret0, xs_putI, xs_putZ, xs_putR, xs_putop, xs_ast, xs_astop, xs_astR, xs_callV, xs_callP, xs_super, xs_sw, s_go_inl, s_go_inr, s_cut_inl, s_cut_inr, o_void_n, v_i_int, v_i_none, v_r_ref, v_r_null, v_r_rf, h_set_some, o_some_s, zB_ne0, zB_ite, zB_ite2, g_Vn, g_Pi, nI_add, Option.bind_some, Option.map_some, Option.bind_none, Option.map_none, List.getElem?_cons_zero, List.getElem?_cons_succ, List.set_cons_zero, List.set_cons_succ, List.cons_append, List.nil_append, List.take_succ_cons, List.take_zero, List.length_cons, List.length_nil, Nat.zero_add, Nat.reduceAdd, Nat.reduceLT, if_true, if_false, Bool.false_eq_true, Bool.true_eq_false, decide_eq_true_eq, decide_true, decide_false, Bool.not_true, Bool.not_false, Option.isNone_none, Option.isNone_some, Option.isSome_none, Option.isSome_some, ite_true, ite_false, reduceIte, reduceCtorEq, and_true, true_and, eq_self, Option.some.injEq, Sum.inr.injEq, Sum.inl.injEq, Prod.mk.injEq, not_true_eq_false, not_false_eq_true, Bool.decide_eq_true, n0_ne, n1_ne, xz_ret, zb_if, n1_if, n0_if, v_rf, h_ix_nI, nI_clamp, zB_t, zB_f, uN_uN, uN_ap, Nat.reduceEqDiff, Nat.reduceMul, Nat.reduceSub, o1, o2]
    rfl
  have lt : ∀ {i : Nat}, i < 5 → i_lt (nI i) (nI 5) = true := fun {i} hi => by rw [j_lt (by omega) (by omega)]; exact decide_eq_true hi
  have m : M_X3_init [.ref X.length] (X ++ [.inl (3, [.null, .int 0, .int 0])], n + 3) = some (none, (ring X (rF X.length), n + 358)) := by
    refine m_eq rfl rfl ?_
    have w0 := iniH1 X [] (n + 8) (fun _ => none) (i := 0) (by omega)
    have w1 := iniH1 X (iS (X.length + 2)) (n + 78) (va_up (fun _ => none) 0 (some (X.length + 2))) (i := 1) (by omega)
    have w2 := iniH1 X (iS (X.length + 2) ++ iS (X.length + 8)) (n + 148) (va_up (va_up (fun _ => none) 0 (some (X.length + 2))) 1 (some (X.length + 8))) (i := 2) (by omega)
    have w3 := iniH1 X ((iS (X.length + 2) ++ iS (X.length + 8)) ++ iS (X.length + 14)) (n + 218) (va_up (va_up (va_up (fun _ => none) 0 (some (X.length + 2))) 1 (some (X.length + 8))) 2 (some (X.length + 14))) (i := 3) (by omega)
    have w4 := iniH1 X (((iS (X.length + 2) ++ iS (X.length + 8)) ++ iS (X.length + 14)) ++ iS (X.length + 20)) (n + 288) (va_up (va_up (va_up (va_up (fun _ => none) 0 (some (X.length + 2))) 1 (some (X.length + 8))) 2 (some (X.length + 14))) 3 (some (X.length + 20))) (i := 4) (by omega)
    have w : s_while C_X3_init_1 W_X3_init_1 [.ref X.length, .int (nI 0)] (X ++ [.inl (3, [.ref (X.length + 1), .int 0, .int 0]), .inr (.inr (5, fun _ => none))], n + 8) = some (.inr ([.ref X.length, .int (nI 5)], (X ++ .inl (3, [.ref (X.length + 1), .int 0, .int 0]) :: .inr (.inr (5, rF X.length)) :: ((((iS (X.length + 2) ++ iS (X.length + 8)) ++ iS (X.length + 14)) ++ iS (X.length + 20)) ++ iS (X.length + 26)), n + 358))) :=
      (wh_T (F := 999999999999) hc w0).trans ((wh_T (F := 999999999998) hc w1).trans ((wh_T (F := 999999999997) hc w2).trans ((wh_T (F := 999999999996) hc w3).trans ((wh_T (F := 999999999995) hc w4).trans (wh_F (F := 999999999994) hc)))))
    unfold B_X3_init
    refine (seq_r (L1 := [.ref X.length]) (σ1 := (ring X (rF X.length), n + 358)) ?_).trans rfl
    refine (seq_r (L1 := [.ref X.length]) (σ1 := (X ++ [.inl (3, [.null, .int 0, .int 0])], n + 3)) ?_).trans ((seq_r (L1 := [.ref X.length]) (σ1 := (X ++ [.inl (3, [.ref (X.length + 1), .int 0, .int 0]), .inr (.inr (5, fun _ => none))], n + 8)) ?_).trans ?_)
    · rfl
    · simp only [x_and, x_or, x_shl, x_shr, x_k, x_i, x_r, x_nil, x_add, x_sub, x_mul, x_div, x_rem, x_get, x_getR, x_ald, x_aldR, x_len, x_lenR, x_if, xa_nil, xa_ci, xa_cr, x_callI, x_callR, x_new, x_newa, x_newq, x_max, x_min, xc_cmp, xc_cmp0, xc_null, xc_nn, xc_not, xc_and, xc_or, xc_if, xs_skip, xs_seq, xs_decI, xs_decR, xs_setI, xs_inc, xs_if, xs_blk, xs_retI, xs_retB, xs_retR, xs_retD, xs_ret0, xs_putI, xs_putZ, xs_putR, xs_putop, xs_ast, xs_astop, xs_astR, xs_callV, xs_callP, xs_super, xs_sw, s_go_inl, s_go_inr, s_cut_inl, s_cut_inr, o_void_n, v_i_int, v_i_none, v_r_ref, v_r_null, v_r_rf, h_set_some, o_some_s, zB_ne0, zB_ite, zB_ite2, g_Vn, g_Pi, nI_add, Option.bind_some, Option.map_some, Option.bind_none, Option.map_none, List.getElem?_cons_zero, List.getElem?_cons_succ, List.set_cons_zero, List.set_cons_succ, List.cons_append, List.nil_append, List.take_succ_cons, List.take_zero, List.length_cons, List.length_nil, Nat.zero_add, Nat.reduceAdd, Nat.reduceLT, if_true, if_false, Bool.false_eq_true, Bool.true_eq_false, decide_eq_true_eq, decide_true, decide_false, Bool.not_true, Bool.not_false, Option.isNone_none, Option.isNone_some, Option.isSome_none, Option.isSome_some, ite_true, ite_false, reduceIte, reduceCtorEq, and_true, true_and, eq_self, Option.some.injEq, Sum.inr.injEq, Sum.inl.injEq, Prod.mk.injEq, h_obj, h_set, it0, is0, il, iy, z, z2]
      rfl
    · simp only [x_and, x_or, x_shl, x_shr, x_k, x_i, x_r, x_nil, x_add, x_sub, x_mul, x_div, x_rem, x_get, x_getR, x_ald, x_aldR, x_len, x_lenR, x_if, xa_nil, xa_ci, xa_cr, x_callI, x_callR, x_new, x_newa, x_newq, x_max, x_min, xc_cmp, xc_cmp0, xc_null, xc_nn, xc_not, xc_and, xc_or, xc_if, xs_skip, xs_seq, xs_decI, xs_decR, xs_setI, xs_inc, xs_if, xs_blk, xs_retI, xs_retB, xs_retR, xs_retD, xs_ret0, xs_putI, xs_putZ, xs_putR, xs_putop, xs_ast, xs_astop, xs_astR, xs_callV, xs_callP, xs_super, xs_sw, s_go_inl, s_go_inr, s_cut_inl, s_cut_inr, o_void_n, v_i_int, v_i_none, v_r_ref, v_r_null, v_r_rf, h_set_some, o_some_s, zB_ne0, zB_ite, zB_ite2, g_Vn, g_Pi, nI_add, Option.bind_some, Option.map_some, Option.bind_none, Option.map_none, List.getElem?_cons_zero, List.getElem?_cons_succ, List.set_cons_zero, List.set_cons_succ, List.cons_append, List.nil_append, List.take_succ_cons, List.take_zero, List.length_cons, List.length_nil, Nat.zero_add, Nat.reduceAdd, Nat.reduceLT, if_true, if_false, Bool.false_eq_true, Bool.true_eq_false, decide_eq_true_eq, decide_true, decide_false, Bool.not_true, Bool.not_false, Option.isNone_none, Option.isNone_some, Option.isSome_none, Option.isSome_some, ite_true, ite_false, reduceIte, reduceCtorEq, and_true, true_and, eq_self, Option.some.injEq, Sum.inr.injEq, Sum.inl.injEq, Prod.mk.injEq, w]
      unfold ring
      simp only [List.append_assoc]
  rw [x_new]
  show (M_X3_init [.ref X.length] (X ++ [.inl (3, [.null, .int 0, .int 0])], n + 3)).bind (fun q => o_void X.length q) = _
  rw [m]
  rfl
