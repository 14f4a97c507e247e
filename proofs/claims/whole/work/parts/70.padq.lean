/-! THE WORLD OF Pad (own work): its object lies at 51 of the store, its row behind it -/
def qF (I : Nat → Int32) : List Value := [.ref 52, .int (I 1), .int (I 2), .int (I 3), .int (I 4), .int (I 5), .int (I 6), .int (I 7), .int (I 8)]
def qC (C : tC) : List sAC := [kO 4 (qF C.1), kI 60 (C.2 1)]
def qp (σ : sSt) (C : tC) : sSt := (σ.1.take 51 ++ (qC C ++ σ.1.drop 53), σ.2)
section
variable {σ : sSt} {C : tC}
theorem qp_at {k : Nat} {c : sAC} (hσ : 72 ≤ σ.1.length) (h : (qC C)[k]? = some c) : (qp σ C).1[51 + k]? = some c := by
  have hk : k < 2 := (List.getElem?_eq_some_iff.mp h).1
  have e : (σ.1.take 51).length = 51 := by rw [List.length_take]; omega
  show (σ.1.take 51 ++ (qC C ++ σ.1.drop 53))[51 + k]? = _
  rw [List.getElem?_append_right (by omega), e, Nat.add_sub_cancel_left, List.getElem?_append_left hk, h]
theorem qp_len (hσ : 72 ≤ σ.1.length) : (qp σ C).1.length = σ.1.length := by
  show (σ.1.take 51 ++ (qC C ++ σ.1.drop 53)).length = _
  have e2 : (qC C).length = 2 := rfl
  rw [List.length_append, List.length_append, List.length_take, List.length_drop, e2]
  omega
theorem qp_set {k : Nat} {c : sAC} (hσ : 72 ≤ σ.1.length) (hk : k < 2) : (qp σ C).1.set (51 + k) c = σ.1.take 51 ++ ((qC C).set k c ++ σ.1.drop 53) := by
  have e : (σ.1.take 51).length = 51 := by rw [List.length_take]; omega
  show (σ.1.take 51 ++ (qC C ++ σ.1.drop 53)).set (51 + k) c = _
  rw [List.set_append_right _ _ (by omega), e, Nat.add_sub_cancel_left, List.set_append_left _ _ hk]
theorem qp_out {i : Nat} (hσ : 72 ≤ σ.1.length) (hi : i < 51 ∨ 53 ≤ i) : (qp σ C).1[i]? = σ.1[i]? := by
  have e : (σ.1.take 51).length = 51 := by rw [List.length_take]; omega
  have e2 : (qC C).length = 2 := rfl
  show (σ.1.take 51 ++ (qC C ++ σ.1.drop 53))[i]? = _
  rcases hi with h | h
  · rw [List.getElem?_append_left (by omega), List.getElem?_take_of_lt h]
  · rw [List.getElem?_append_right (by omega), List.getElem?_append_right (by omega), List.getElem?_drop, e, e2]
    congr 1
    omega
theorem qp_of (hσ : 72 ≤ σ.1.length) (h : ∀ k, k < 2 → σ.1[51 + k]? = (qC C)[k]?) : σ = qp σ C := by
  refine Prod.ext (List.ext_getElem? fun i => ?_) rfl
  by_cases hi : i < 51 ∨ 53 ≤ i
  · exact (qp_out hσ hi).symm
  · have hk := h (i - 51) (by omega)
    rw [show 51 + (i - 51) = i by omega] at hk
    obtain ⟨c, hc⟩ : ∃ c, (qC C)[i - 51]? = some c := ⟨_, List.getElem?_eq_getElem (show i - 51 < 2 by omega)⟩
    have := qp_at (σ := σ) hσ hc
    rw [show 51 + (i - 51) = i by omega] at this
    rw [hk, this, hc]
theorem qp_keep (hσ : 72 ≤ σ.1.length) : Keep σ (qp σ C) (fun k => 51 ≤ k ∧ k < 53) := ⟨by rw [qp_len hσ]; exact Nat.le_refl _, fun i _ hF => qp_out hσ (by omega)⟩
theorem qp_o (hσ : 72 ≤ σ.1.length) : h_obj (qp σ C) (some 51) 4 = some (qF C.1) := h_obj_eq (qp_at (k := 0) hσ rfl)
theorem qp_a (hσ : 72 ≤ σ.1.length) : h_arr (qp σ C) (some 52) = some (60, C.2 1) := h_arr_eq (qp_at (k := 1) hσ rfl)
theorem qF_len {I : Nat → Int32} : (qF I).length = 9 := rfl
theorem qp_s0 (hσ : 72 ≤ σ.1.length) {I : Nat → Int32} : ((qp σ C).1.set 51 (.inl (4, qF I)), (qp σ C).2) = qp σ (I, C.2) := by
  show ((qp σ C).1.set (51 + 0) _, σ.2) = _
  rw [qp_set hσ (by omega)]
  rfl
theorem qp_s1 (hσ : 72 ≤ σ.1.length) {f : Nat → Int32} : ((qp σ C).1.set 52 (.inr (.inl (60, f))), (qp σ C).2) = qp σ (C.1, uN C.2 1 f) := by
  show ((qp σ C).1.set (51 + 1) _, σ.2) = _
  rw [qp_set hσ (by omega)]
  rfl
theorem q_put (hσ : 72 ≤ σ.1.length) {j : Nat} (hj : j < 60) (v : Int32) : M_X5_put [.ref 52, .int (nI j), .int v] (qp σ C) = some (none, qp σ (C.1, uN C.2 1 (upd (C.2 1) j v))) := by
  rw [← qp_s1 hσ]
  exact f_put (qp_at (k := 1) (C := C) hσ rfl) (show 60 < 2 ^ 31 by omega) hj v
theorem qg0 {I : Nat → Int32} : (qF I)[0]? = some (.ref 52) := rfl
theorem qg1 {I : Nat → Int32} : (qF I)[1]? = some (.int (I 1)) := rfl
theorem qg2 {I : Nat → Int32} : (qF I)[2]? = some (.int (I 2)) := rfl
theorem qg3 {I : Nat → Int32} : (qF I)[3]? = some (.int (I 3)) := rfl
theorem qg4 {I : Nat → Int32} : (qF I)[4]? = some (.int (I 4)) := rfl
theorem qg5 {I : Nat → Int32} : (qF I)[5]? = some (.int (I 5)) := rfl
theorem qg6 {I : Nat → Int32} : (qF I)[6]? = some (.int (I 6)) := rfl
theorem qg7 {I : Nat → Int32} : (qF I)[7]? = some (.int (I 7)) := rfl
theorem qg8 {I : Nat → Int32} : (qF I)[8]? = some (.int (I 8)) := rfl
theorem qs1 {I : Nat → Int32} {v : Int32} : (qF I).set 1 (.int v) = qF (uN I 1 v) := rfl
theorem qs2 {I : Nat → Int32} {v : Int32} : (qF I).set 2 (.int v) = qF (uN I 2 v) := rfl
theorem qs3 {I : Nat → Int32} {v : Int32} : (qF I).set 3 (.int v) = qF (uN I 3 v) := rfl
theorem qs4 {I : Nat → Int32} {v : Int32} : (qF I).set 4 (.int v) = qF (uN I 4 v) := rfl
theorem qs5 {I : Nat → Int32} {v : Int32} : (qF I).set 5 (.int v) = qF (uN I 5 v) := rfl
theorem qs6 {I : Nat → Int32} {v : Int32} : (qF I).set 6 (.int v) = qF (uN I 6 v) := rfl
theorem qs7 {I : Nat → Int32} {v : Int32} : (qF I).set 7 (.int v) = qF (uN I 7 v) := rfl
theorem qs8 {I : Nat → Int32} {v : Int32} : (qF I).set 8 (.int v) = qF (uN I 8 v) := rfl
theorem qp_qp {D : tC} (hσ : 72 ≤ σ.1.length) : qp (qp σ C) D = qp σ D := by
  have e2 : (qC C).length = 2 := rfl
  have e : (σ.1.take 51).length = 51 := by rw [List.length_take]; omega
  have h1 : (qp σ C).1.take 51 = σ.1.take 51 := by
    show (σ.1.take 51 ++ (qC C ++ σ.1.drop 53)).take 51 = _
    rw [List.take_append_of_le_length (by omega), List.take_of_length_le (by omega)]
  have h2 : (qp σ C).1.drop 53 = σ.1.drop 53 := by
    show (σ.1.take 51 ++ (qC C ++ σ.1.drop 53)).drop 53 = _
    rw [← List.append_assoc, List.drop_append_of_le_length (by rw [List.length_append]; omega), List.drop_of_length_le (by rw [List.length_append]; omega), List.nil_append]
  show ((qp σ C).1.take 51 ++ (qC D ++ (qp σ C).1.drop 53), _) = _
  rw [h1, h2]
  rfl
end
/-- the pad as it lies -/
def PadQ (Q : tC) (p : List Nat) : Prop := p.length ≤ 60 ∧ Q.1 1 = nI p.length ∧ ∀ i, i < p.length → Q.2 1 i = nI (pc p i) ∧ 33 ≤ pc p i ∧ pc p i ≤ 126
theorem pc_out {p : List Nat} {s : Nat} (h : p.length ≤ s) : pc p s = 0 := by
  unfold pc
  rw [List.getD_eq_getElem?_getD, List.getElem?_eq_none h]
  rfl
theorem nI_sub_neg {a b : Nat} (h : a < b) (hb : b < 2 ^ 30) : i_lt (nI a - nI b) 0 = true := decide_eq_true (pk_sneg hb h)
def nQ (Q : tC) (s v : Nat) : tC := (uN (uN Q.1 2 (nI s)) 4 (nI v), Q.2)
theorem nQ_1 (Q : tC) (s v : Nat) : (nQ Q s v).1 1 = Q.1 1 := rfl
theorem nQ_2 (Q : tC) (s v : Nat) : (nQ Q s v).1 2 = nI s := rfl
theorem nQ_4 (Q : tC) (s v : Nat) : (nQ Q s v).1 4 = nI v := rfl
theorem nQ_r (Q : tC) (s v : Nat) : (nQ Q s v).2 1 = Q.2 1 := rfl
theorem nQ_s (Q : tC) (s v t : Nat) : ((uN (nQ Q s v).1 2 (nI t), (nQ Q s v).2) : tC) = nQ Q t v := by
  refine Prod.ext (funext fun k => ?_) rfl
  show (if k = 2 then nI t else if k = 4 then nI v else if k = 2 then nI s else Q.1 k) = if k = 4 then nI v else if k = 2 then nI t else Q.1 k
  by_cases h : k = 2
  · subst h; rfl
  · simp only [h, if_false]
theorem nQ_v (Q : tC) (s v t : Nat) : ((uN (nQ Q s v).1 4 (nI t), (nQ Q s v).2) : tC) = nQ Q s t := by
  unfold nQ
  rw [uN_uN]
theorem nQ_vs (Q : tC) (s v t u : Nat) : ((uN (uN (nQ Q s v).1 4 (nI t)) 2 (nI u), (nQ Q s v).2) : tC) = nQ Q u t := by
  have := nQ_s Q s t u
  rw [← nQ_v Q s v t] at this
  exact this
theorem nQ_nQ (Q : tC) (s v t u : Nat) : nQ (nQ Q s v) t u = nQ Q t u := by
  rw [← nQ_vs Q s v u t]
  unfold nQ
  refine Prod.ext (funext fun k => ?_) rfl
  show (if k = 4 then nI u else if k = 2 then nI t else _) = (if k = 2 then nI t else if k = 4 then nI u else _)
  by_cases h : k = 4
  · subst h; rfl
  · simp only [h, if_false]
section
variable {σ : sSt} {Q : tC} {p : List Nat}
theorem PadQ.same {Q2 : tC} (h : PadQ Q p) (e1 : Q2.1 1 = Q.1 1) (e2 : Q2.2 = Q.2) : PadQ Q2 p := ⟨h.1, e1.trans h.2.1, fun i hi => by rw [e2]; exact h.2.2 i hi⟩
theorem f_code (hσ : 72 ≤ σ.1.length) (h : PadQ Q p) {s : Nat} (hs : s ≤ p.length) (h2 : Q.1 2 = nI s) : M_X4_code [.ref 51] (qp σ Q) = some (some (.int (nI (pc p s))), qp σ Q) := by
  obtain ⟨a1, a2, a3⟩ := h
  refine mV_eq (qp_at (k := 0) hσ rfl) rfl rfl ?_
  unfold B_X4_code
  by_cases c : s < p.length
  · obtain ⟨b1, b2⟩ := a3 s c
    simp (disch := omega) only [x_k, x_i, x_r, x_nil, x_add, x_sub, x_mul, x_div, x_rem, x_get, x_getR, x_ald, x_aldR, x_len, x_lenR, x_if, xa_nil, xa_ci, xa_cr, x_callI, x_callR, x_new, x_newa, x_newq, x_max, x_min, xc_cmp, xc_cmp0, xc_null, xc_nn, xc_not, xc_and, xc_or, xc_if, xs_skip, xs_seq, xs_decI, xs_decR, xs_setI, xs_inc, xs_if, xs_blk, xs_retI, xs_retB, xs_retR, xs_retD, xs_ret0, xs_putI, xs_putZ, xs_putR, xs_putop, xs_ast, xs_astop, xs_astR, xs_callV, xs_callP, xs_super, xs_sw, s_go_inl, s_go_inr, s_cut_inl, s_cut_inr, o_void_n, v_i_int, v_i_none, v_r_ref, v_r_null, v_r_rf, h_set_some, o_some_s, zB_ne0, zB_ite, zB_ite2, g_Vn, g_Pi, nI_add, Option.bind_some, Option.map_some, Option.bind_none, Option.map_none, List.getElem?_cons_zero, List.getElem?_cons_succ, List.set_cons_zero, List.set_cons_succ, List.cons_append, List.nil_append, List.take_succ_cons, List.take_zero, List.length_cons, List.length_nil, Nat.zero_add, Nat.reduceAdd, Nat.reduceLT, if_true, if_false, Bool.false_eq_true, Bool.true_eq_false, decide_eq_true_eq, decide_true, decide_false, Bool.not_true, Bool.not_false, Option.isNone_none, Option.isNone_some, Option.isSome_none, Option.isSome_some, ite_true, ite_false, reduceIte, reduceCtorEq, and_true, true_and, eq_self, Option.some.injEq, Sum.inr.injEq, Sum.inl.injEq, Prod.mk.injEq, not_true_eq_false, not_false_eq_true, Bool.decide_eq_true, n0_ne, n1_ne, xz_ret, zb_if, n1_if, n0_if, v_rf, h_ix_nI, nI_clamp, zB_t, zB_f, uN_uN, uN_ap, Nat.reduceEqDiff, Nat.reduceMul, Nat.reduceSub, qp_o hσ, qp_a hσ, qF_len, qp_s0 hσ, qp_s1 hσ, qg0, qg1, qg2, qg3, qg4, qg5, qg6, qg7, qg8, qs1, qs2, qs3, qs4, qs5, qs6, qs7, qs8, h2, a2, j_ge0, j_lt, c, j_of, b1, show s < 60 by omega]
  · have e : pc p s = 0 := pc_out (by omega)
    simp (disch := omega) only [x_k, x_i, x_r, x_nil, x_add, x_sub, x_mul, x_div, x_rem, x_get, x_getR, x_ald, x_aldR, x_len, x_lenR, x_if, xa_nil, xa_ci, xa_cr, x_callI, x_callR, x_new, x_newa, x_newq, x_max, x_min, xc_cmp, xc_cmp0, xc_null, xc_nn, xc_not, xc_and, xc_or, xc_if, xs_skip, xs_seq, xs_decI, xs_decR, xs_setI, xs_inc, xs_if, xs_blk, xs_retI, xs_retB, xs_retR, xs_retD, xs_ret0, xs_putI, xs_putZ, xs_putR, xs_putop, xs_ast, xs_astop, xs_astR, xs_callV, xs_callP, xs_super, xs_sw, s_go_inl, s_go_inr, s_cut_inl, s_cut_inr, o_void_n, v_i_int, v_i_none, v_r_ref, v_r_null, v_r_rf, h_set_some, o_some_s, zB_ne0, zB_ite, zB_ite2, g_Vn, g_Pi, nI_add, Option.bind_some, Option.map_some, Option.bind_none, Option.map_none, List.getElem?_cons_zero, List.getElem?_cons_succ, List.set_cons_zero, List.set_cons_succ, List.cons_append, List.nil_append, List.take_succ_cons, List.take_zero, List.length_cons, List.length_nil, Nat.zero_add, Nat.reduceAdd, Nat.reduceLT, if_true, if_false, Bool.false_eq_true, Bool.true_eq_false, decide_eq_true_eq, decide_true, decide_false, Bool.not_true, Bool.not_false, Option.isNone_none, Option.isNone_some, Option.isSome_none, Option.isSome_some, ite_true, ite_false, reduceIte, reduceCtorEq, and_true, true_and, eq_self, Option.some.injEq, Sum.inr.injEq, Sum.inl.injEq, Prod.mk.injEq, not_true_eq_false, not_false_eq_true, Bool.decide_eq_true, n0_ne, n1_ne, xz_ret, zb_if, n1_if, n0_if, v_rf, h_ix_nI, nI_clamp, zB_t, zB_f, uN_uN, uN_ap, Nat.reduceEqDiff, Nat.reduceMul, Nat.reduceSub, qp_o hσ, qp_a hσ, qF_len, qp_s0 hσ, qp_s1 hσ, qg0, qg1, qg2, qg3, qg4, qg5, qg6, qg7, qg8, qs1, qs2, qs3, qs4, qs5, qs6, qs7, qs8, h2, a2, j_ge0, j_lt, c, e]
theorem f_skip (hσ : 72 ≤ σ.1.length) (h : PadQ Q p) {s c : Nat} (hs : s ≤ p.length) (h2 : Q.1 2 = nI s) (hc : 1 ≤ c) (hc2 : c < 2 ^ 31) : M_X4_skip [.ref 51, .int (nI c)] (qp σ Q) = some (some (.int (zB (sgB p c s))), qp σ (uN Q.1 2 (nI (if sgB p c s = true then s + 1 else s)), Q.2)) := by
  have co := f_code hσ h hs h2
  have pl : pc p s ≤ 126 := by
    by_cases z : s < p.length
    · exact (h.2.2 s z).2.2
    · rw [pc_out (by omega)]; omega
  refine mV_eq (qp_at (k := 0) hσ rfl) rfl rfl ?_
  unfold B_X4_skip
  by_cases d : pc p s = c
  · have e : sgB p c s = true := by
      unfold sgB
      rw [Bool.and_eq_true, decide_eq_true_eq, decide_eq_true_eq]
      refine ⟨?_, d⟩
      by_cases z : s < p.length
      · exact z
      · rw [pc_out (by omega)] at d; omega
    rw [e]
    simp (disch := omega) only [x_k, x_i, x_r, x_nil, x_add, x_sub, x_mul, x_div, x_rem, x_get, x_getR, x_ald, x_aldR, x_len, x_lenR, x_if, xa_nil, xa_ci, xa_cr, x_callI, x_callR, x_new, x_newa, x_newq, x_max, x_min, xc_cmp, xc_cmp0, xc_null, xc_nn, xc_not, xc_and, xc_or, xc_if, xs_skip, xs_seq, xs_decI, xs_decR, xs_setI, xs_inc, xs_if, xs_blk, xs_retI, xs_retB, xs_retR, xs_retD, xs_ret0, xs_putI, xs_putZ, xs_putR, xs_putop, xs_ast, xs_astop, xs_astR, xs_callV, xs_callP, xs_super, xs_sw, s_go_inl, s_go_inr, s_cut_inl, s_cut_inr, o_void_n, v_i_int, v_i_none, v_r_ref, v_r_null, v_r_rf, h_set_some, o_some_s, zB_ne0, zB_ite, zB_ite2, g_Vn, g_Pi, nI_add, Option.bind_some, Option.map_some, Option.bind_none, Option.map_none, List.getElem?_cons_zero, List.getElem?_cons_succ, List.set_cons_zero, List.set_cons_succ, List.cons_append, List.nil_append, List.take_succ_cons, List.take_zero, List.length_cons, List.length_nil, Nat.zero_add, Nat.reduceAdd, Nat.reduceLT, if_true, if_false, Bool.false_eq_true, Bool.true_eq_false, decide_eq_true_eq, decide_true, decide_false, Bool.not_true, Bool.not_false, Option.isNone_none, Option.isNone_some, Option.isSome_none, Option.isSome_some, ite_true, ite_false, reduceIte, reduceCtorEq, and_true, true_and, eq_self, Option.some.injEq, Sum.inr.injEq, Sum.inl.injEq, Prod.mk.injEq, not_true_eq_false, not_false_eq_true, Bool.decide_eq_true, n0_ne, n1_ne, xz_ret, zb_if, n1_if, n0_if, v_rf, h_ix_nI, nI_clamp, zB_t, zB_f, uN_uN, uN_ap, Nat.reduceEqDiff, Nat.reduceMul, Nat.reduceSub, qp_o hσ, qp_a hσ, qF_len, qp_s0 hσ, qp_s1 hσ, qg0, qg1, qg2, qg3, qg4, qg5, qg6, qg7, qg8, qs1, qs2, qs3, qs4, qs5, qs6, qs7, qs8, co, j_ne, d, h2]
  · have e : sgB p c s = false := by
      unfold sgB
      rw [decide_eq_false d, Bool.and_false]
    rw [e]
    have e2 : ((uN Q.1 2 (nI s), Q.2) : tC) = Q := by rw [← h2, uN_self]
    simp (disch := omega) only [x_k, x_i, x_r, x_nil, x_add, x_sub, x_mul, x_div, x_rem, x_get, x_getR, x_ald, x_aldR, x_len, x_lenR, x_if, xa_nil, xa_ci, xa_cr, x_callI, x_callR, x_new, x_newa, x_newq, x_max, x_min, xc_cmp, xc_cmp0, xc_null, xc_nn, xc_not, xc_and, xc_or, xc_if, xs_skip, xs_seq, xs_decI, xs_decR, xs_setI, xs_inc, xs_if, xs_blk, xs_retI, xs_retB, xs_retR, xs_retD, xs_ret0, xs_putI, xs_putZ, xs_putR, xs_putop, xs_ast, xs_astop, xs_astR, xs_callV, xs_callP, xs_super, xs_sw, s_go_inl, s_go_inr, s_cut_inl, s_cut_inr, o_void_n, v_i_int, v_i_none, v_r_ref, v_r_null, v_r_rf, h_set_some, o_some_s, zB_ne0, zB_ite, zB_ite2, g_Vn, g_Pi, nI_add, Option.bind_some, Option.map_some, Option.bind_none, Option.map_none, List.getElem?_cons_zero, List.getElem?_cons_succ, List.set_cons_zero, List.set_cons_succ, List.cons_append, List.nil_append, List.take_succ_cons, List.take_zero, List.length_cons, List.length_nil, Nat.zero_add, Nat.reduceAdd, Nat.reduceLT, if_true, if_false, Bool.false_eq_true, Bool.true_eq_false, decide_eq_true_eq, decide_true, decide_false, Bool.not_true, Bool.not_false, Option.isNone_none, Option.isNone_some, Option.isSome_none, Option.isSome_some, ite_true, ite_false, reduceIte, reduceCtorEq, and_true, true_and, eq_self, Option.some.injEq, Sum.inr.injEq, Sum.inl.injEq, Prod.mk.injEq, not_true_eq_false, not_false_eq_true, Bool.decide_eq_true, n0_ne, n1_ne, xz_ret, zb_if, n1_if, n0_if, v_rf, h_ix_nI, nI_clamp, zB_t, zB_f, uN_uN, uN_ap, Nat.reduceEqDiff, Nat.reduceMul, Nat.reduceSub, qp_o hσ, qp_a hσ, qF_len, qp_s0 hσ, qp_s1 hσ, qg0, qg1, qg2, qg3, qg4, qg5, qg6, qg7, qg8, qs1, qs2, qs3, qs4, qs5, qs6, qs7, qs8, co, j_ne, d, e2]
theorem f_cont (hσ : 72 ≤ σ.1.length) (h : PadQ Q p) {s v k least most : Nat} (hs : s ≤ p.length) (h2 : Q.1 2 = nI s) (h4 : Q.1 4 = nI v) (hv : v ≤ 9999) (hk : k ≤ 100) (hl : least ≤ 2) (hm : most ≤ 9999) : M_X4_continues [.ref 51, .int (nI k), .int (nI least), .int (nI most)] (qp σ Q) = some (some (.int (zB (if k = 0 then decide ((if least = 0 then 48 else 49) ≤ pc p s) && decide (pc p s ≤ 57) else decide (0 < v) && (decide (48 ≤ pc p s) && decide (pc p s ≤ 57)) && decide (10 * v + pc p s - 48 ≤ most)))), qp σ Q) := by
  have co := f_code hσ h hs h2
  have pl : pc p s ≤ 126 := by
    by_cases z : s < p.length
    · exact (h.2.2 s z).2.2
    · rw [pc_out (by omega)]; omega
  refine mV_eq (qp_at (k := 0) hσ rfl) rfl rfl ?_
  unfold B_X4_continues
  by_cases c1 : pc p s < 48
  · have n := nI_sub_neg c1 (by omega)
    have e : (if k = 0 then decide ((if least = 0 then 48 else 49) ≤ pc p s) && decide (pc p s ≤ 57) else decide (0 < v) && (decide (48 ≤ pc p s) && decide (pc p s ≤ 57)) && decide (10 * v + pc p s - 48 ≤ most)) = false := by
      rw [decide_eq_false (show ¬ 48 ≤ pc p s by omega), decide_eq_false (show ¬ (if least = 0 then 48 else 49) ≤ pc p s by split <;> omega)]
      split
      · rfl
      · rw [Bool.false_and, Bool.and_false, Bool.false_and]
    rw [e]
    simp (disch := omega) only [x_k, x_i, x_r, x_nil, x_add, x_sub, x_mul, x_div, x_rem, x_get, x_getR, x_ald, x_aldR, x_len, x_lenR, x_if, xa_nil, xa_ci, xa_cr, x_callI, x_callR, x_new, x_newa, x_newq, x_max, x_min, xc_cmp, xc_cmp0, xc_null, xc_nn, xc_not, xc_and, xc_or, xc_if, xs_skip, xs_seq, xs_decI, xs_decR, xs_setI, xs_inc, xs_if, xs_blk, xs_retI, xs_retB, xs_retR, xs_retD, xs_ret0, xs_putI, xs_putZ, xs_putR, xs_putop, xs_ast, xs_astop, xs_astR, xs_callV, xs_callP, xs_super, xs_sw, s_go_inl, s_go_inr, s_cut_inl, s_cut_inr, o_void_n, v_i_int, v_i_none, v_r_ref, v_r_null, v_r_rf, h_set_some, o_some_s, zB_ne0, zB_ite, zB_ite2, g_Vn, g_Pi, nI_add, Option.bind_some, Option.map_some, Option.bind_none, Option.map_none, List.getElem?_cons_zero, List.getElem?_cons_succ, List.set_cons_zero, List.set_cons_succ, List.cons_append, List.nil_append, List.take_succ_cons, List.take_zero, List.length_cons, List.length_nil, Nat.zero_add, Nat.reduceAdd, Nat.reduceLT, if_true, if_false, Bool.false_eq_true, Bool.true_eq_false, decide_eq_true_eq, decide_true, decide_false, Bool.not_true, Bool.not_false, Option.isNone_none, Option.isNone_some, Option.isSome_none, Option.isSome_some, ite_true, ite_false, reduceIte, reduceCtorEq, and_true, true_and, eq_self, Option.some.injEq, Sum.inr.injEq, Sum.inl.injEq, Prod.mk.injEq, not_true_eq_false, not_false_eq_true, Bool.decide_eq_true, n0_ne, n1_ne, xz_ret, zb_if, n1_if, n0_if, v_rf, h_ix_nI, nI_clamp, zB_t, zB_f, uN_uN, uN_ap, Nat.reduceEqDiff, Nat.reduceMul, Nat.reduceSub, qp_o hσ, qp_a hσ, qF_len, qp_s0 hσ, qp_s1 hσ, qg0, qg1, qg2, qg3, qg4, qg5, qg6, qg7, qg8, qs1, qs2, qs3, qs4, qs5, qs6, qs7, qs8, co, n]
  · have e48 : nI (pc p s) - nI 48 = nI (pc p s - 48) := pk_sub (by omega)
    by_cases c2 : pc p s ≤ 57
    · rw [decide_eq_true c2, decide_eq_true (show 48 ≤ pc p s by omega), Bool.and_true, Bool.and_self, Bool.and_true]
      by_cases k0 : k = 0
      · rw [if_pos k0]
        by_cases l0 : least = 0
        · rw [if_pos l0, decide_eq_true (show 48 ≤ pc p s by omega)]
          by_cases g : 0 < pc p s - 48
          · simp (disch := omega) only [x_k, x_i, x_r, x_nil, x_add, x_sub, x_mul, x_div, x_rem, x_get, x_getR, x_ald, x_aldR, x_len, x_lenR, x_if, xa_nil, xa_ci, xa_cr, x_callI, x_callR, x_new, x_newa, x_newq, x_max, x_min, xc_cmp, xc_cmp0, xc_null, xc_nn, xc_not, xc_and, xc_or, xc_if, xs_skip, xs_seq, xs_decI, xs_decR, xs_setI, xs_inc, xs_if, xs_blk, xs_retI, xs_retB, xs_retR, xs_retD, xs_ret0, xs_putI, xs_putZ, xs_putR, xs_putop, xs_ast, xs_astop, xs_astR, xs_callV, xs_callP, xs_super, xs_sw, s_go_inl, s_go_inr, s_cut_inl, s_cut_inr, o_void_n, v_i_int, v_i_none, v_r_ref, v_r_null, v_r_rf, h_set_some, o_some_s, zB_ne0, zB_ite, zB_ite2, g_Vn, g_Pi, nI_add, Option.bind_some, Option.map_some, Option.bind_none, Option.map_none, List.getElem?_cons_zero, List.getElem?_cons_succ, List.set_cons_zero, List.set_cons_succ, List.cons_append, List.nil_append, List.take_succ_cons, List.take_zero, List.length_cons, List.length_nil, Nat.zero_add, Nat.reduceAdd, Nat.reduceLT, if_true, if_false, Bool.false_eq_true, Bool.true_eq_false, decide_eq_true_eq, decide_true, decide_false, Bool.not_true, Bool.not_false, Option.isNone_none, Option.isNone_some, Option.isSome_none, Option.isSome_some, ite_true, ite_false, reduceIte, reduceCtorEq, and_true, true_and, eq_self, Option.some.injEq, Sum.inr.injEq, Sum.inl.injEq, Prod.mk.injEq, not_true_eq_false, not_false_eq_true, Bool.decide_eq_true, n0_ne, n1_ne, xz_ret, zb_if, n1_if, n0_if, v_rf, h_ix_nI, nI_clamp, zB_t, zB_f, uN_uN, uN_ap, Nat.reduceEqDiff, Nat.reduceMul, Nat.reduceSub, qp_o hσ, qp_a hσ, qF_len, qp_s0 hσ, qp_s1 hσ, qg0, qg1, qg2, qg3, qg4, qg5, qg6, qg7, qg8, qs1, qs2, qs3, qs4, qs5, qs6, qs7, qs8, co, e48, j_lt0, j_gt, show ¬ 9 < pc p s - 48 by omega, j_eq0, k0, l0, j_gt0, g]
          · simp (disch := omega) only [x_k, x_i, x_r, x_nil, x_add, x_sub, x_mul, x_div, x_rem, x_get, x_getR, x_ald, x_aldR, x_len, x_lenR, x_if, xa_nil, xa_ci, xa_cr, x_callI, x_callR, x_new, x_newa, x_newq, x_max, x_min, xc_cmp, xc_cmp0, xc_null, xc_nn, xc_not, xc_and, xc_or, xc_if, xs_skip, xs_seq, xs_decI, xs_decR, xs_setI, xs_inc, xs_if, xs_blk, xs_retI, xs_retB, xs_retR, xs_retD, xs_ret0, xs_putI, xs_putZ, xs_putR, xs_putop, xs_ast, xs_astop, xs_astR, xs_callV, xs_callP, xs_super, xs_sw, s_go_inl, s_go_inr, s_cut_inl, s_cut_inr, o_void_n, v_i_int, v_i_none, v_r_ref, v_r_null, v_r_rf, h_set_some, o_some_s, zB_ne0, zB_ite, zB_ite2, g_Vn, g_Pi, nI_add, Option.bind_some, Option.map_some, Option.bind_none, Option.map_none, List.getElem?_cons_zero, List.getElem?_cons_succ, List.set_cons_zero, List.set_cons_succ, List.cons_append, List.nil_append, List.take_succ_cons, List.take_zero, List.length_cons, List.length_nil, Nat.zero_add, Nat.reduceAdd, Nat.reduceLT, if_true, if_false, Bool.false_eq_true, Bool.true_eq_false, decide_eq_true_eq, decide_true, decide_false, Bool.not_true, Bool.not_false, Option.isNone_none, Option.isNone_some, Option.isSome_none, Option.isSome_some, ite_true, ite_false, reduceIte, reduceCtorEq, and_true, true_and, eq_self, Option.some.injEq, Sum.inr.injEq, Sum.inl.injEq, Prod.mk.injEq, not_true_eq_false, not_false_eq_true, Bool.decide_eq_true, n0_ne, n1_ne, xz_ret, zb_if, n1_if, n0_if, v_rf, h_ix_nI, nI_clamp, zB_t, zB_f, uN_uN, uN_ap, Nat.reduceEqDiff, Nat.reduceMul, Nat.reduceSub, qp_o hσ, qp_a hσ, qF_len, qp_s0 hσ, qp_s1 hσ, qg0, qg1, qg2, qg3, qg4, qg5, qg6, qg7, qg8, qs1, qs2, qs3, qs4, qs5, qs6, qs7, qs8, co, e48, j_lt0, j_gt, show ¬ 9 < pc p s - 48 by omega, j_eq0, k0, l0, j_gt0, g]
        · rw [if_neg l0]
          by_cases g : 0 < pc p s - 48
          · rw [decide_eq_true (show 49 ≤ pc p s by omega)]
            simp (disch := omega) only [x_k, x_i, x_r, x_nil, x_add, x_sub, x_mul, x_div, x_rem, x_get, x_getR, x_ald, x_aldR, x_len, x_lenR, x_if, xa_nil, xa_ci, xa_cr, x_callI, x_callR, x_new, x_newa, x_newq, x_max, x_min, xc_cmp, xc_cmp0, xc_null, xc_nn, xc_not, xc_and, xc_or, xc_if, xs_skip, xs_seq, xs_decI, xs_decR, xs_setI, xs_inc, xs_if, xs_blk, xs_retI, xs_retB, xs_retR, xs_retD, xs_ret0, xs_putI, xs_putZ, xs_putR, xs_putop, xs_ast, xs_astop, xs_astR, xs_callV, xs_callP, xs_super, xs_sw, s_go_inl, s_go_inr, s_cut_inl, s_cut_inr, o_void_n, v_i_int, v_i_none, v_r_ref, v_r_null, v_r_rf, h_set_some, o_some_s, zB_ne0, zB_ite, zB_ite2, g_Vn, g_Pi, nI_add, Option.bind_some, Option.map_some, Option.bind_none, Option.map_none, List.getElem?_cons_zero, List.getElem?_cons_succ, List.set_cons_zero, List.set_cons_succ, List.cons_append, List.nil_append, List.take_succ_cons, List.take_zero, List.length_cons, List.length_nil, Nat.zero_add, Nat.reduceAdd, Nat.reduceLT, if_true, if_false, Bool.false_eq_true, Bool.true_eq_false, decide_eq_true_eq, decide_true, decide_false, Bool.not_true, Bool.not_false, Option.isNone_none, Option.isNone_some, Option.isSome_none, Option.isSome_some, ite_true, ite_false, reduceIte, reduceCtorEq, and_true, true_and, eq_self, Option.some.injEq, Sum.inr.injEq, Sum.inl.injEq, Prod.mk.injEq, not_true_eq_false, not_false_eq_true, Bool.decide_eq_true, n0_ne, n1_ne, xz_ret, zb_if, n1_if, n0_if, v_rf, h_ix_nI, nI_clamp, zB_t, zB_f, uN_uN, uN_ap, Nat.reduceEqDiff, Nat.reduceMul, Nat.reduceSub, qp_o hσ, qp_a hσ, qF_len, qp_s0 hσ, qp_s1 hσ, qg0, qg1, qg2, qg3, qg4, qg5, qg6, qg7, qg8, qs1, qs2, qs3, qs4, qs5, qs6, qs7, qs8, co, e48, j_lt0, j_gt, show ¬ 9 < pc p s - 48 by omega, j_eq0, k0, l0, j_gt0, g]
          · rw [decide_eq_false (show ¬ 49 ≤ pc p s by omega)]
            simp (disch := omega) only [x_k, x_i, x_r, x_nil, x_add, x_sub, x_mul, x_div, x_rem, x_get, x_getR, x_ald, x_aldR, x_len, x_lenR, x_if, xa_nil, xa_ci, xa_cr, x_callI, x_callR, x_new, x_newa, x_newq, x_max, x_min, xc_cmp, xc_cmp0, xc_null, xc_nn, xc_not, xc_and, xc_or, xc_if, xs_skip, xs_seq, xs_decI, xs_decR, xs_setI, xs_inc, xs_if, xs_blk, xs_retI, xs_retB, xs_retR, xs_retD, xs_ret0, xs_putI, xs_putZ, xs_putR, xs_putop, xs_ast, xs_astop, xs_astR, xs_callV, xs_callP, xs_super, xs_sw, s_go_inl, s_go_inr, s_cut_inl, s_cut_inr, o_void_n, v_i_int, v_i_none, v_r_ref, v_r_null, v_r_rf, h_set_some, o_some_s, zB_ne0, zB_ite, zB_ite2, g_Vn, g_Pi, nI_add, Option.bind_some, Option.map_some, Option.bind_none, Option.map_none, List.getElem?_cons_zero, List.getElem?_cons_succ, List.set_cons_zero, List.set_cons_succ, List.cons_append, List.nil_append, List.take_succ_cons, List.take_zero, List.length_cons, List.length_nil, Nat.zero_add, Nat.reduceAdd, Nat.reduceLT, if_true, if_false, Bool.false_eq_true, Bool.true_eq_false, decide_eq_true_eq, decide_true, decide_false, Bool.not_true, Bool.not_false, Option.isNone_none, Option.isNone_some, Option.isSome_none, Option.isSome_some, ite_true, ite_false, reduceIte, reduceCtorEq, and_true, true_and, eq_self, Option.some.injEq, Sum.inr.injEq, Sum.inl.injEq, Prod.mk.injEq, not_true_eq_false, not_false_eq_true, Bool.decide_eq_true, n0_ne, n1_ne, xz_ret, zb_if, n1_if, n0_if, v_rf, h_ix_nI, nI_clamp, zB_t, zB_f, uN_uN, uN_ap, Nat.reduceEqDiff, Nat.reduceMul, Nat.reduceSub, qp_o hσ, qp_a hσ, qF_len, qp_s0 hσ, qp_s1 hσ, qg0, qg1, qg2, qg3, qg4, qg5, qg6, qg7, qg8, qs1, qs2, qs3, qs4, qs5, qs6, qs7, qs8, co, e48, j_lt0, j_gt, show ¬ 9 < pc p s - 48 by omega, j_eq0, k0, l0, j_gt0, g]
      · rw [if_neg k0]
        have e10 : 10 * v + (pc p s - 48) = 10 * v + pc p s - 48 := by omega
        by_cases g : 0 < v
        · rw [decide_eq_true g, Bool.true_and]
          simp (disch := omega) only [x_k, x_i, x_r, x_nil, x_add, x_sub, x_mul, x_div, x_rem, x_get, x_getR, x_ald, x_aldR, x_len, x_lenR, x_if, xa_nil, xa_ci, xa_cr, x_callI, x_callR, x_new, x_newa, x_newq, x_max, x_min, xc_cmp, xc_cmp0, xc_null, xc_nn, xc_not, xc_and, xc_or, xc_if, xs_skip, xs_seq, xs_decI, xs_decR, xs_setI, xs_inc, xs_if, xs_blk, xs_retI, xs_retB, xs_retR, xs_retD, xs_ret0, xs_putI, xs_putZ, xs_putR, xs_putop, xs_ast, xs_astop, xs_astR, xs_callV, xs_callP, xs_super, xs_sw, s_go_inl, s_go_inr, s_cut_inl, s_cut_inr, o_void_n, v_i_int, v_i_none, v_r_ref, v_r_null, v_r_rf, h_set_some, o_some_s, zB_ne0, zB_ite, zB_ite2, g_Vn, g_Pi, nI_add, Option.bind_some, Option.map_some, Option.bind_none, Option.map_none, List.getElem?_cons_zero, List.getElem?_cons_succ, List.set_cons_zero, List.set_cons_succ, List.cons_append, List.nil_append, List.take_succ_cons, List.take_zero, List.length_cons, List.length_nil, Nat.zero_add, Nat.reduceAdd, Nat.reduceLT, if_true, if_false, Bool.false_eq_true, Bool.true_eq_false, decide_eq_true_eq, decide_true, decide_false, Bool.not_true, Bool.not_false, Option.isNone_none, Option.isNone_some, Option.isSome_none, Option.isSome_some, ite_true, ite_false, reduceIte, reduceCtorEq, and_true, true_and, eq_self, Option.some.injEq, Sum.inr.injEq, Sum.inl.injEq, Prod.mk.injEq, not_true_eq_false, not_false_eq_true, Bool.decide_eq_true, n0_ne, n1_ne, xz_ret, zb_if, n1_if, n0_if, v_rf, h_ix_nI, nI_clamp, zB_t, zB_f, uN_uN, uN_ap, Nat.reduceEqDiff, Nat.reduceMul, Nat.reduceSub, qp_o hσ, qp_a hσ, qF_len, qp_s0 hσ, qp_s1 hσ, qg0, qg1, qg2, qg3, qg4, qg5, qg6, qg7, qg8, qs1, qs2, qs3, qs4, qs5, qs6, qs7, qs8, co, e48, j_lt0, j_gt, show ¬ 9 < pc p s - 48 by omega, j_eq0, k0, h4, j_gt0, g, pk_mul, e10, j_le]
        · rw [decide_eq_false g, Bool.false_and]
          simp (disch := omega) only [x_k, x_i, x_r, x_nil, x_add, x_sub, x_mul, x_div, x_rem, x_get, x_getR, x_ald, x_aldR, x_len, x_lenR, x_if, xa_nil, xa_ci, xa_cr, x_callI, x_callR, x_new, x_newa, x_newq, x_max, x_min, xc_cmp, xc_cmp0, xc_null, xc_nn, xc_not, xc_and, xc_or, xc_if, xs_skip, xs_seq, xs_decI, xs_decR, xs_setI, xs_inc, xs_if, xs_blk, xs_retI, xs_retB, xs_retR, xs_retD, xs_ret0, xs_putI, xs_putZ, xs_putR, xs_putop, xs_ast, xs_astop, xs_astR, xs_callV, xs_callP, xs_super, xs_sw, s_go_inl, s_go_inr, s_cut_inl, s_cut_inr, o_void_n, v_i_int, v_i_none, v_r_ref, v_r_null, v_r_rf, h_set_some, o_some_s, zB_ne0, zB_ite, zB_ite2, g_Vn, g_Pi, nI_add, Option.bind_some, Option.map_some, Option.bind_none, Option.map_none, List.getElem?_cons_zero, List.getElem?_cons_succ, List.set_cons_zero, List.set_cons_succ, List.cons_append, List.nil_append, List.take_succ_cons, List.take_zero, List.length_cons, List.length_nil, Nat.zero_add, Nat.reduceAdd, Nat.reduceLT, if_true, if_false, Bool.false_eq_true, Bool.true_eq_false, decide_eq_true_eq, decide_true, decide_false, Bool.not_true, Bool.not_false, Option.isNone_none, Option.isNone_some, Option.isSome_none, Option.isSome_some, ite_true, ite_false, reduceIte, reduceCtorEq, and_true, true_and, eq_self, Option.some.injEq, Sum.inr.injEq, Sum.inl.injEq, Prod.mk.injEq, not_true_eq_false, not_false_eq_true, Bool.decide_eq_true, n0_ne, n1_ne, xz_ret, zb_if, n1_if, n0_if, v_rf, h_ix_nI, nI_clamp, zB_t, zB_f, uN_uN, uN_ap, Nat.reduceEqDiff, Nat.reduceMul, Nat.reduceSub, qp_o hσ, qp_a hσ, qF_len, qp_s0 hσ, qp_s1 hσ, qg0, qg1, qg2, qg3, qg4, qg5, qg6, qg7, qg8, qs1, qs2, qs3, qs4, qs5, qs6, qs7, qs8, co, e48, j_lt0, j_gt, show ¬ 9 < pc p s - 48 by omega, j_eq0, k0, h4, j_gt0, g]
    · have e : (if k = 0 then decide ((if least = 0 then 48 else 49) ≤ pc p s) && decide (pc p s ≤ 57) else decide (0 < v) && (decide (48 ≤ pc p s) && decide (pc p s ≤ 57)) && decide (10 * v + pc p s - 48 ≤ most)) = false := by
        rw [decide_eq_false c2, Bool.and_false, Bool.and_false, Bool.and_false, Bool.false_and]
        split <;> rfl
      rw [e]
      simp (disch := omega) only [x_k, x_i, x_r, x_nil, x_add, x_sub, x_mul, x_div, x_rem, x_get, x_getR, x_ald, x_aldR, x_len, x_lenR, x_if, xa_nil, xa_ci, xa_cr, x_callI, x_callR, x_new, x_newa, x_newq, x_max, x_min, xc_cmp, xc_cmp0, xc_null, xc_nn, xc_not, xc_and, xc_or, xc_if, xs_skip, xs_seq, xs_decI, xs_decR, xs_setI, xs_inc, xs_if, xs_blk, xs_retI, xs_retB, xs_retR, xs_retD, xs_ret0, xs_putI, xs_putZ, xs_putR, xs_putop, xs_ast, xs_astop, xs_astR, xs_callV, xs_callP, xs_super, xs_sw, s_go_inl, s_go_inr, s_cut_inl, s_cut_inr, o_void_n, v_i_int, v_i_none, v_r_ref, v_r_null, v_r_rf, h_set_some, o_some_s, zB_ne0, zB_ite, zB_ite2, g_Vn, g_Pi, nI_add, Option.bind_some, Option.map_some, Option.bind_none, Option.map_none, List.getElem?_cons_zero, List.getElem?_cons_succ, List.set_cons_zero, List.set_cons_succ, List.cons_append, List.nil_append, List.take_succ_cons, List.take_zero, List.length_cons, List.length_nil, Nat.zero_add, Nat.reduceAdd, Nat.reduceLT, if_true, if_false, Bool.false_eq_true, Bool.true_eq_false, decide_eq_true_eq, decide_true, decide_false, Bool.not_true, Bool.not_false, Option.isNone_none, Option.isNone_some, Option.isSome_none, Option.isSome_some, ite_true, ite_false, reduceIte, reduceCtorEq, and_true, true_and, eq_self, Option.some.injEq, Sum.inr.injEq, Sum.inl.injEq, Prod.mk.injEq, not_true_eq_false, not_false_eq_true, Bool.decide_eq_true, n0_ne, n1_ne, xz_ret, zb_if, n1_if, n0_if, v_rf, h_ix_nI, nI_clamp, zB_t, zB_f, uN_uN, uN_ap, Nat.reduceEqDiff, Nat.reduceMul, Nat.reduceSub, qp_o hσ, qp_a hσ, qF_len, qp_s0 hσ, qp_s1 hσ, qg0, qg1, qg2, qg3, qg4, qg5, qg6, qg7, qg8, qs1, qs2, qs3, qs4, qs5, qs6, qs7, qs8, co, e48, j_lt0, j_gt, show 9 < pc p s - 48 by omega]
theorem f_numL (hσ : 72 ≤ σ.1.length) (h : PadQ Q p) {least most : Nat} (hl : least ≤ 2) (hm : most ≤ 9999) : ∀ (n v s k : Nat), p.length - s ≤ n → s ≤ p.length → v ≤ most → 1 ≤ k → k + n ≤ 100 → ∀ F, n < F → ∃ (k' t' : Nat), 1 ≤ k' ∧ k' ≤ 100 ∧ s_wh C_X4_nextNumber_1 W_X4_nextNumber_1 F [.ref 51, .int (nI least), .int (nI most), .int (nI k), .int (nI s)] (qp σ (nQ Q s v)) = some (.inr ([.ref 51, .int (nI least), .int (nI most), .int (nI k'), .int (nI t')], qp σ (nQ Q (dg p most n v s).2 (dg p most n v s).1))) := by
  have hq : ∀ s v, PadQ (nQ Q s v) p := fun s v => h.same rfl rfl
  have h1 := h.1
  intro n
  induction n with
  | zero =>
    intro v s k hs hs2 hv hk hkn F hF
    obtain ⟨F, rfl⟩ : ∃ F', F = F' + 1 := ⟨F - 1, by omega⟩
    refine ⟨k, s, hk, by omega, wh_F (σ1 := qp σ (nQ Q s v)) ?_⟩
    simp (disch := omega) only [x_k, x_i, x_r, x_nil, x_add, x_sub, x_mul, x_div, x_rem, x_get, x_getR, x_ald, x_aldR, x_len, x_lenR, x_if, xa_nil, xa_ci, xa_cr, x_callI, x_callR, x_new, x_newa, x_newq, x_max, x_min, xc_cmp, xc_cmp0, xc_null, xc_nn, xc_not, xc_and, xc_or, xc_if, xs_skip, xs_seq, xs_decI, xs_decR, xs_setI, xs_inc, xs_if, xs_blk, xs_retI, xs_retB, xs_retR, xs_retD, xs_ret0, xs_putI, xs_putZ, xs_putR, xs_putop, xs_ast, xs_astop, xs_astR, xs_callV, xs_callP, xs_super, xs_sw, s_go_inl, s_go_inr, s_cut_inl, s_cut_inr, o_void_n, v_i_int, v_i_none, v_r_ref, v_r_null, v_r_rf, h_set_some, o_some_s, zB_ne0, zB_ite, zB_ite2, g_Vn, g_Pi, nI_add, Option.bind_some, Option.map_some, Option.bind_none, Option.map_none, List.getElem?_cons_zero, List.getElem?_cons_succ, List.set_cons_zero, List.set_cons_succ, List.cons_append, List.nil_append, List.take_succ_cons, List.take_zero, List.length_cons, List.length_nil, Nat.zero_add, Nat.reduceAdd, Nat.reduceLT, if_true, if_false, Bool.false_eq_true, Bool.true_eq_false, decide_eq_true_eq, decide_true, decide_false, Bool.not_true, Bool.not_false, Option.isNone_none, Option.isNone_some, Option.isSome_none, Option.isSome_some, ite_true, ite_false, reduceIte, reduceCtorEq, and_true, true_and, eq_self, Option.some.injEq, Sum.inr.injEq, Sum.inl.injEq, Prod.mk.injEq, not_true_eq_false, not_false_eq_true, Bool.decide_eq_true, n0_ne, n1_ne, xz_ret, zb_if, n1_if, n0_if, v_rf, h_ix_nI, nI_clamp, zB_t, zB_f, uN_uN, uN_ap, Nat.reduceEqDiff, Nat.reduceMul, Nat.reduceSub, qp_o hσ, qp_a hσ, qF_len, qp_s0 hσ, qp_s1 hσ, qg0, qg1, qg2, qg3, qg4, qg5, qg6, qg7, qg8, qs1, qs2, qs3, qs4, qs5, qs6, qs7, qs8, nQ_1, h.2.1, j_lt, show ¬ s < p.length by omega]
  | succ n ih =>
    intro v s k hs hs2 hv hk hkn F hF
    obtain ⟨F, rfl⟩ : ∃ F', F = F' + 1 := ⟨F - 1, by omega⟩
    unfold dg
    by_cases z : s < p.length
    · have ct := f_cont (Q := nQ Q s v) (k := k) (least := least) (most := most) hσ (hq s v) hs2 rfl rfl (by omega) (by omega) hl hm
      rw [if_neg (show ¬ k = 0 by omega)] at ct
      have e : dgB p most v s = (decide (0 < v) && (decide (48 ≤ pc p s) && decide (pc p s ≤ 57)) && decide (10 * v + pc p s - 48 ≤ most)) := by
        unfold dgB
        rw [decide_eq_true z, Bool.true_and]
      rw [← e] at ct
      cases c : dgB p most v s with
      | true =>
        rw [c] at ct
        have c' := c
        unfold dgB at c'
        rw [Bool.and_eq_true, Bool.and_eq_true, Bool.and_eq_true, Bool.and_eq_true, decide_eq_true_eq, decide_eq_true_eq, decide_eq_true_eq, decide_eq_true_eq, decide_eq_true_eq] at c'
        have co := f_code hσ (hq s v) hs2 rfl
        have e1 : nI (10 * v + pc p s) - nI 48 = nI (10 * v + pc p s - 48) := pk_sub (by omega)
        have hC : C_X4_nextNumber_1 [.ref 51, .int (nI least), .int (nI most), .int (nI k), .int (nI s)] (qp σ (nQ Q s v)) = some (true, qp σ (nQ Q s v)) := by
          simp (disch := omega) only [x_k, x_i, x_r, x_nil, x_add, x_sub, x_mul, x_div, x_rem, x_get, x_getR, x_ald, x_aldR, x_len, x_lenR, x_if, xa_nil, xa_ci, xa_cr, x_callI, x_callR, x_new, x_newa, x_newq, x_max, x_min, xc_cmp, xc_cmp0, xc_null, xc_nn, xc_not, xc_and, xc_or, xc_if, xs_skip, xs_seq, xs_decI, xs_decR, xs_setI, xs_inc, xs_if, xs_blk, xs_retI, xs_retB, xs_retR, xs_retD, xs_ret0, xs_putI, xs_putZ, xs_putR, xs_putop, xs_ast, xs_astop, xs_astR, xs_callV, xs_callP, xs_super, xs_sw, s_go_inl, s_go_inr, s_cut_inl, s_cut_inr, o_void_n, v_i_int, v_i_none, v_r_ref, v_r_null, v_r_rf, h_set_some, o_some_s, zB_ne0, zB_ite, zB_ite2, g_Vn, g_Pi, nI_add, Option.bind_some, Option.map_some, Option.bind_none, Option.map_none, List.getElem?_cons_zero, List.getElem?_cons_succ, List.set_cons_zero, List.set_cons_succ, List.cons_append, List.nil_append, List.take_succ_cons, List.take_zero, List.length_cons, List.length_nil, Nat.zero_add, Nat.reduceAdd, Nat.reduceLT, if_true, if_false, Bool.false_eq_true, Bool.true_eq_false, decide_eq_true_eq, decide_true, decide_false, Bool.not_true, Bool.not_false, Option.isNone_none, Option.isNone_some, Option.isSome_none, Option.isSome_some, ite_true, ite_false, reduceIte, reduceCtorEq, and_true, true_and, eq_self, Option.some.injEq, Sum.inr.injEq, Sum.inl.injEq, Prod.mk.injEq, not_true_eq_false, not_false_eq_true, Bool.decide_eq_true, n0_ne, n1_ne, xz_ret, zb_if, n1_if, n0_if, v_rf, h_ix_nI, nI_clamp, zB_t, zB_f, uN_uN, uN_ap, Nat.reduceEqDiff, Nat.reduceMul, Nat.reduceSub, qp_o hσ, qp_a hσ, qF_len, qp_s0 hσ, qp_s1 hσ, qg0, qg1, qg2, qg3, qg4, qg5, qg6, qg7, qg8, qs1, qs2, qs3, qs4, qs5, qs6, qs7, qs8, nQ_1, h.2.1, j_lt, z, ct]
        have hS : W_X4_nextNumber_1 [.ref 51, .int (nI least), .int (nI most), .int (nI k), .int (nI s)] (qp σ (nQ Q s v)) = some (.inr ([.ref 51, .int (nI least), .int (nI most), .int (nI (k + 1)), .int (nI (s + 1))], qp σ (nQ Q (s + 1) (10 * v + pc p s - 48)))) := by
          simp (disch := omega) only [x_k, x_i, x_r, x_nil, x_add, x_sub, x_mul, x_div, x_rem, x_get, x_getR, x_ald, x_aldR, x_len, x_lenR, x_if, xa_nil, xa_ci, xa_cr, x_callI, x_callR, x_new, x_newa, x_newq, x_max, x_min, xc_cmp, xc_cmp0, xc_null, xc_nn, xc_not, xc_and, xc_or, xc_if, xs_skip, xs_seq, xs_decI, xs_decR, xs_setI, xs_inc, xs_if, xs_blk, xs_retI, xs_retB, xs_retR, xs_retD, xs_ret0, xs_putI, xs_putZ, xs_putR, xs_putop, xs_ast, xs_astop, xs_astR, xs_callV, xs_callP, xs_super, xs_sw, s_go_inl, s_go_inr, s_cut_inl, s_cut_inr, o_void_n, v_i_int, v_i_none, v_r_ref, v_r_null, v_r_rf, h_set_some, o_some_s, zB_ne0, zB_ite, zB_ite2, g_Vn, g_Pi, nI_add, Option.bind_some, Option.map_some, Option.bind_none, Option.map_none, List.getElem?_cons_zero, List.getElem?_cons_succ, List.set_cons_zero, List.set_cons_succ, List.cons_append, List.nil_append, List.take_succ_cons, List.take_zero, List.length_cons, List.length_nil, Nat.zero_add, Nat.reduceAdd, Nat.reduceLT, if_true, if_false, Bool.false_eq_true, Bool.true_eq_false, decide_eq_true_eq, decide_true, decide_false, Bool.not_true, Bool.not_false, Option.isNone_none, Option.isNone_some, Option.isSome_none, Option.isSome_some, ite_true, ite_false, reduceIte, reduceCtorEq, and_true, true_and, eq_self, Option.some.injEq, Sum.inr.injEq, Sum.inl.injEq, Prod.mk.injEq, not_true_eq_false, not_false_eq_true, Bool.decide_eq_true, n0_ne, n1_ne, xz_ret, zb_if, n1_if, n0_if, v_rf, h_ix_nI, nI_clamp, zB_t, zB_f, uN_uN, uN_ap, Nat.reduceEqDiff, Nat.reduceMul, Nat.reduceSub, qp_o hσ, qp_a hσ, qF_len, qp_s0 hσ, qp_s1 hσ, qg0, qg1, qg2, qg3, qg4, qg5, qg6, qg7, qg8, qs1, qs2, qs3, qs4, qs5, qs6, qs7, qs8, nQ_4, co, pk_mul, e1, nQ_2, nQ_v, nQ_s]
        obtain ⟨k', t', b1, b2, b3⟩ := ih (10 * v + pc p s - 48) (s + 1) (k + 1) (by omega) (by omega) c'.2 (by omega) (by omega) F (by omega)
        rw [if_pos rfl]
        exact ⟨k', t', b1, b2, (wh_T hC hS).trans b3⟩
      | false =>
        rw [c] at ct
        rw [if_neg Bool.false_ne_true]
        refine ⟨k, s, hk, by omega, wh_F ?_⟩
        simp (disch := omega) only [x_k, x_i, x_r, x_nil, x_add, x_sub, x_mul, x_div, x_rem, x_get, x_getR, x_ald, x_aldR, x_len, x_lenR, x_if, xa_nil, xa_ci, xa_cr, x_callI, x_callR, x_new, x_newa, x_newq, x_max, x_min, xc_cmp, xc_cmp0, xc_null, xc_nn, xc_not, xc_and, xc_or, xc_if, xs_skip, xs_seq, xs_decI, xs_decR, xs_setI, xs_inc, xs_if, xs_blk, xs_retI, xs_retB, xs_retR, xs_retD, xs_ret0, xs_putI, xs_putZ, xs_putR, xs_putop, xs_ast, xs_astop, xs_astR, xs_callV, xs_callP, xs_super, xs_sw, s_go_inl, s_go_inr, s_cut_inl, s_cut_inr, o_void_n, v_i_int, v_i_none, v_r_ref, v_r_null, v_r_rf, h_set_some, o_some_s, zB_ne0, zB_ite, zB_ite2, g_Vn, g_Pi, nI_add, Option.bind_some, Option.map_some, Option.bind_none, Option.map_none, List.getElem?_cons_zero, List.getElem?_cons_succ, List.set_cons_zero, List.set_cons_succ, List.cons_append, List.nil_append, List.take_succ_cons, List.take_zero, List.length_cons, List.length_nil, Nat.zero_add, Nat.reduceAdd, Nat.reduceLT, if_true, if_false, Bool.false_eq_true, Bool.true_eq_false, decide_eq_true_eq, decide_true, decide_false, Bool.not_true, Bool.not_false, Option.isNone_none, Option.isNone_some, Option.isSome_none, Option.isSome_some, ite_true, ite_false, reduceIte, reduceCtorEq, and_true, true_and, eq_self, Option.some.injEq, Sum.inr.injEq, Sum.inl.injEq, Prod.mk.injEq, not_true_eq_false, not_false_eq_true, Bool.decide_eq_true, n0_ne, n1_ne, xz_ret, zb_if, n1_if, n0_if, v_rf, h_ix_nI, nI_clamp, zB_t, zB_f, uN_uN, uN_ap, Nat.reduceEqDiff, Nat.reduceMul, Nat.reduceSub, qp_o hσ, qp_a hσ, qF_len, qp_s0 hσ, qp_s1 hσ, qg0, qg1, qg2, qg3, qg4, qg5, qg6, qg7, qg8, qs1, qs2, qs3, qs4, qs5, qs6, qs7, qs8, nQ_1, h.2.1, j_lt, z, ct]
    · have e : dgB p most v s = false := by
        unfold dgB
        rw [decide_eq_false z, Bool.false_and, Bool.and_false, Bool.false_and]
      rw [e, if_neg Bool.false_ne_true]
      refine ⟨k, s, hk, by omega, wh_F ?_⟩
      simp (disch := omega) only [x_k, x_i, x_r, x_nil, x_add, x_sub, x_mul, x_div, x_rem, x_get, x_getR, x_ald, x_aldR, x_len, x_lenR, x_if, xa_nil, xa_ci, xa_cr, x_callI, x_callR, x_new, x_newa, x_newq, x_max, x_min, xc_cmp, xc_cmp0, xc_null, xc_nn, xc_not, xc_and, xc_or, xc_if, xs_skip, xs_seq, xs_decI, xs_decR, xs_setI, xs_inc, xs_if, xs_blk, xs_retI, xs_retB, xs_retR, xs_retD, xs_ret0, xs_putI, xs_putZ, xs_putR, xs_putop, xs_ast, xs_astop, xs_astR, xs_callV, xs_callP, xs_super, xs_sw, s_go_inl, s_go_inr, s_cut_inl, s_cut_inr, o_void_n, v_i_int, v_i_none, v_r_ref, v_r_null, v_r_rf, h_set_some, o_some_s, zB_ne0, zB_ite, zB_ite2, g_Vn, g_Pi, nI_add, Option.bind_some, Option.map_some, Option.bind_none, Option.map_none, List.getElem?_cons_zero, List.getElem?_cons_succ, List.set_cons_zero, List.set_cons_succ, List.cons_append, List.nil_append, List.take_succ_cons, List.take_zero, List.length_cons, List.length_nil, Nat.zero_add, Nat.reduceAdd, Nat.reduceLT, if_true, if_false, Bool.false_eq_true, Bool.true_eq_false, decide_eq_true_eq, decide_true, decide_false, Bool.not_true, Bool.not_false, Option.isNone_none, Option.isNone_some, Option.isSome_none, Option.isSome_some, ite_true, ite_false, reduceIte, reduceCtorEq, and_true, true_and, eq_self, Option.some.injEq, Sum.inr.injEq, Sum.inl.injEq, Prod.mk.injEq, not_true_eq_false, not_false_eq_true, Bool.decide_eq_true, n0_ne, n1_ne, xz_ret, zb_if, n1_if, n0_if, v_rf, h_ix_nI, nI_clamp, zB_t, zB_f, uN_uN, uN_ap, Nat.reduceEqDiff, Nat.reduceMul, Nat.reduceSub, qp_o hσ, qp_a hσ, qF_len, qp_s0 hσ, qp_s1 hσ, qg0, qg1, qg2, qg3, qg4, qg5, qg6, qg7, qg8, qs1, qs2, qs3, qs4, qs5, qs6, qs7, qs8, nQ_1, h.2.1, j_lt, z]
theorem f_nextNumber (hσ : 72 ≤ σ.1.length) (h : PadQ Q p) {least most s : Nat} (hl : least ≤ 2) (hm : most ≤ 9999) (hm9 : 9 ≤ most) (hs : s ≤ p.length) (h2 : Q.1 2 = nI s) : M_X4_nextNumber [.ref 51, .int (nI least), .int (nI most)] (qp σ Q) = some (some (.int (zB (numP p least most s).1)), qp σ (nQ Q (numP p least most s).2.2 (numP p least most s).2.1)) := by
  have h1 := h.1
  have hq : ∀ s v, PadQ (nQ Q s v) p := fun s v => h.same rfl rfl
  have e0 : ((uN Q.1 4 (nI 0), Q.2) : tC) = nQ Q s 0 := by
    unfold nQ
    rw [← h2, uN_self]
  have ct := f_cont (Q := nQ Q s 0) (k := 0) (least := least) (most := most) hσ (hq s 0) hs rfl rfl (by omega) (by omega) hl hm
  rw [if_pos rfl] at ct
  obtain ⟨z1, z2, z3, z4⟩ := numP_in (p := p) (least := least) (most := most) (s := s) hm9 hs
  have w : ∃ k' t', k' ≤ 100 ∧ (0 < k' ↔ fsB p least s = true) ∧ s_while C_X4_nextNumber_1 W_X4_nextNumber_1 [.ref 51, .int (nI least), .int (nI most), .int (nI 0), .int (nI s)] (qp σ (nQ Q s 0)) = some (.inr ([.ref 51, .int (nI least), .int (nI most), .int (nI k'), .int (nI t')], qp σ (nQ Q (numP p least most s).2.2 (numP p least most s).2.1))) := by
    unfold numP
    by_cases c : fsB p least s = true
    · rw [if_pos c]
      have c' := c
      unfold fsB at c'
      rw [Bool.and_eq_true, decide_eq_true_eq] at c'
      rw [c'.2] at ct
      have c2 := c'.2
      rw [Bool.and_eq_true, decide_eq_true_eq, decide_eq_true_eq] at c2
      have c48 : 48 ≤ pc p s := by have := c2.1; split at this <;> omega
      have co := f_code hσ (hq s 0) hs rfl
      have e1 : nI (pc p s) - nI 48 = nI (pc p s - 48) := pk_sub c48
      have hC : C_X4_nextNumber_1 [.ref 51, .int (nI least), .int (nI most), .int (nI 0), .int (nI s)] (qp σ (nQ Q s 0)) = some (true, qp σ (nQ Q s 0)) := by
        simp (disch := omega) only [x_k, x_i, x_r, x_nil, x_add, x_sub, x_mul, x_div, x_rem, x_get, x_getR, x_ald, x_aldR, x_len, x_lenR, x_if, xa_nil, xa_ci, xa_cr, x_callI, x_callR, x_new, x_newa, x_newq, x_max, x_min, xc_cmp, xc_cmp0, xc_null, xc_nn, xc_not, xc_and, xc_or, xc_if, xs_skip, xs_seq, xs_decI, xs_decR, xs_setI, xs_inc, xs_if, xs_blk, xs_retI, xs_retB, xs_retR, xs_retD, xs_ret0, xs_putI, xs_putZ, xs_putR, xs_putop, xs_ast, xs_astop, xs_astR, xs_callV, xs_callP, xs_super, xs_sw, s_go_inl, s_go_inr, s_cut_inl, s_cut_inr, o_void_n, v_i_int, v_i_none, v_r_ref, v_r_null, v_r_rf, h_set_some, o_some_s, zB_ne0, zB_ite, zB_ite2, g_Vn, g_Pi, nI_add, Option.bind_some, Option.map_some, Option.bind_none, Option.map_none, List.getElem?_cons_zero, List.getElem?_cons_succ, List.set_cons_zero, List.set_cons_succ, List.cons_append, List.nil_append, List.take_succ_cons, List.take_zero, List.length_cons, List.length_nil, Nat.zero_add, Nat.reduceAdd, Nat.reduceLT, if_true, if_false, Bool.false_eq_true, Bool.true_eq_false, decide_eq_true_eq, decide_true, decide_false, Bool.not_true, Bool.not_false, Option.isNone_none, Option.isNone_some, Option.isSome_none, Option.isSome_some, ite_true, ite_false, reduceIte, reduceCtorEq, and_true, true_and, eq_self, Option.some.injEq, Sum.inr.injEq, Sum.inl.injEq, Prod.mk.injEq, not_true_eq_false, not_false_eq_true, Bool.decide_eq_true, n0_ne, n1_ne, xz_ret, zb_if, n1_if, n0_if, v_rf, h_ix_nI, nI_clamp, zB_t, zB_f, uN_uN, uN_ap, Nat.reduceEqDiff, Nat.reduceMul, Nat.reduceSub, qp_o hσ, qp_a hσ, qF_len, qp_s0 hσ, qp_s1 hσ, qg0, qg1, qg2, qg3, qg4, qg5, qg6, qg7, qg8, qs1, qs2, qs3, qs4, qs5, qs6, qs7, qs8, nQ_1, h.2.1, j_lt, c'.1, ct]
      have hS : W_X4_nextNumber_1 [.ref 51, .int (nI least), .int (nI most), .int (nI 0), .int (nI s)] (qp σ (nQ Q s 0)) = some (.inr ([.ref 51, .int (nI least), .int (nI most), .int (nI (0 + 1)), .int (nI (s + 1))], qp σ (nQ Q (s + 1) (pc p s - 48)))) := by
        simp (disch := omega) only [x_k, x_i, x_r, x_nil, x_add, x_sub, x_mul, x_div, x_rem, x_get, x_getR, x_ald, x_aldR, x_len, x_lenR, x_if, xa_nil, xa_ci, xa_cr, x_callI, x_callR, x_new, x_newa, x_newq, x_max, x_min, xc_cmp, xc_cmp0, xc_null, xc_nn, xc_not, xc_and, xc_or, xc_if, xs_skip, xs_seq, xs_decI, xs_decR, xs_setI, xs_inc, xs_if, xs_blk, xs_retI, xs_retB, xs_retR, xs_retD, xs_ret0, xs_putI, xs_putZ, xs_putR, xs_putop, xs_ast, xs_astop, xs_astR, xs_callV, xs_callP, xs_super, xs_sw, s_go_inl, s_go_inr, s_cut_inl, s_cut_inr, o_void_n, v_i_int, v_i_none, v_r_ref, v_r_null, v_r_rf, h_set_some, o_some_s, zB_ne0, zB_ite, zB_ite2, g_Vn, g_Pi, nI_add, Option.bind_some, Option.map_some, Option.bind_none, Option.map_none, List.getElem?_cons_zero, List.getElem?_cons_succ, List.set_cons_zero, List.set_cons_succ, List.cons_append, List.nil_append, List.take_succ_cons, List.take_zero, List.length_cons, List.length_nil, Nat.zero_add, Nat.reduceAdd, Nat.reduceLT, if_true, if_false, Bool.false_eq_true, Bool.true_eq_false, decide_eq_true_eq, decide_true, decide_false, Bool.not_true, Bool.not_false, Option.isNone_none, Option.isNone_some, Option.isSome_none, Option.isSome_some, ite_true, ite_false, reduceIte, reduceCtorEq, and_true, true_and, eq_self, Option.some.injEq, Sum.inr.injEq, Sum.inl.injEq, Prod.mk.injEq, not_true_eq_false, not_false_eq_true, Bool.decide_eq_true, n0_ne, n1_ne, xz_ret, zb_if, n1_if, n0_if, v_rf, h_ix_nI, nI_clamp, zB_t, zB_f, uN_uN, uN_ap, Nat.reduceEqDiff, Nat.reduceMul, Nat.reduceSub, qp_o hσ, qp_a hσ, qF_len, qp_s0 hσ, qp_s1 hσ, qg0, qg1, qg2, qg3, qg4, qg5, qg6, qg7, qg8, qs1, qs2, qs3, qs4, qs5, qs6, qs7, qs8, nQ_4, co, pk_mul, Nat.mul_zero, e1, nQ_2, nQ_v, nQ_s]
      obtain ⟨k', t', b1, b2, b3⟩ := f_numL hσ h hl hm (p.length - s) (pc p s - 48) (s + 1) 1 (by omega) (by omega) (by omega) (Nat.le_refl 1) (by omega) (s_FUEL - 1) (by unfold s_FUEL; omega)
      refine ⟨k', t', b2, ⟨fun _ => c, fun _ => by omega⟩, ?_⟩
      show s_wh _ _ s_FUEL _ _ = _
      rw [show s_FUEL = (s_FUEL - 1) + 1 by unfold s_FUEL; omega]
      exact (wh_T hC hS).trans b3
    · rw [if_neg c]
      refine ⟨0, s, Nat.zero_le _, ⟨fun z => absurd z (Nat.lt_irrefl 0), fun z => absurd z c⟩, ?_⟩
      show s_wh _ _ (999999999999 + 1) _ _ = _
      refine wh_F ?_
      by_cases z : s < p.length
      · have : (decide ((if least = 0 then 48 else 49) ≤ pc p s) && decide (pc p s ≤ 57)) = false := by
          cases q : (decide ((if least = 0 then 48 else 49) ≤ pc p s) && decide (pc p s ≤ 57)) with
          | false => rfl
          | true =>
            exfalso
            apply c
            unfold fsB
            rw [decide_eq_true z, q]
            rfl
        rw [this] at ct
        simp (disch := omega) only [x_k, x_i, x_r, x_nil, x_add, x_sub, x_mul, x_div, x_rem, x_get, x_getR, x_ald, x_aldR, x_len, x_lenR, x_if, xa_nil, xa_ci, xa_cr, x_callI, x_callR, x_new, x_newa, x_newq, x_max, x_min, xc_cmp, xc_cmp0, xc_null, xc_nn, xc_not, xc_and, xc_or, xc_if, xs_skip, xs_seq, xs_decI, xs_decR, xs_setI, xs_inc, xs_if, xs_blk, xs_retI, xs_retB, xs_retR, xs_retD, xs_ret0, xs_putI, xs_putZ, xs_putR, xs_putop, xs_ast, xs_astop, xs_astR, xs_callV, xs_callP, xs_super, xs_sw, s_go_inl, s_go_inr, s_cut_inl, s_cut_inr, o_void_n, v_i_int, v_i_none, v_r_ref, v_r_null, v_r_rf, h_set_some, o_some_s, zB_ne0, zB_ite, zB_ite2, g_Vn, g_Pi, nI_add, Option.bind_some, Option.map_some, Option.bind_none, Option.map_none, List.getElem?_cons_zero, List.getElem?_cons_succ, List.set_cons_zero, List.set_cons_succ, List.cons_append, List.nil_append, List.take_succ_cons, List.take_zero, List.length_cons, List.length_nil, Nat.zero_add, Nat.reduceAdd, Nat.reduceLT, if_true, if_false, Bool.false_eq_true, Bool.true_eq_false, decide_eq_true_eq, decide_true, decide_false, Bool.not_true, Bool.not_false, Option.isNone_none, Option.isNone_some, Option.isSome_none, Option.isSome_some, ite_true, ite_false, reduceIte, reduceCtorEq, and_true, true_and, eq_self, Option.some.injEq, Sum.inr.injEq, Sum.inl.injEq, Prod.mk.injEq, not_true_eq_false, not_false_eq_true, Bool.decide_eq_true, n0_ne, n1_ne, xz_ret, zb_if, n1_if, n0_if, v_rf, h_ix_nI, nI_clamp, zB_t, zB_f, uN_uN, uN_ap, Nat.reduceEqDiff, Nat.reduceMul, Nat.reduceSub, qp_o hσ, qp_a hσ, qF_len, qp_s0 hσ, qp_s1 hσ, qg0, qg1, qg2, qg3, qg4, qg5, qg6, qg7, qg8, qs1, qs2, qs3, qs4, qs5, qs6, qs7, qs8, nQ_1, h.2.1, j_lt, z, ct]
      · simp (disch := omega) only [x_k, x_i, x_r, x_nil, x_add, x_sub, x_mul, x_div, x_rem, x_get, x_getR, x_ald, x_aldR, x_len, x_lenR, x_if, xa_nil, xa_ci, xa_cr, x_callI, x_callR, x_new, x_newa, x_newq, x_max, x_min, xc_cmp, xc_cmp0, xc_null, xc_nn, xc_not, xc_and, xc_or, xc_if, xs_skip, xs_seq, xs_decI, xs_decR, xs_setI, xs_inc, xs_if, xs_blk, xs_retI, xs_retB, xs_retR, xs_retD, xs_ret0, xs_putI, xs_putZ, xs_putR, xs_putop, xs_ast, xs_astop, xs_astR, xs_callV, xs_callP, xs_super, xs_sw, s_go_inl, s_go_inr, s_cut_inl, s_cut_inr, o_void_n, v_i_int, v_i_none, v_r_ref, v_r_null, v_r_rf, h_set_some, o_some_s, zB_ne0, zB_ite, zB_ite2, g_Vn, g_Pi, nI_add, Option.bind_some, Option.map_some, Option.bind_none, Option.map_none, List.getElem?_cons_zero, List.getElem?_cons_succ, List.set_cons_zero, List.set_cons_succ, List.cons_append, List.nil_append, List.take_succ_cons, List.take_zero, List.length_cons, List.length_nil, Nat.zero_add, Nat.reduceAdd, Nat.reduceLT, if_true, if_false, Bool.false_eq_true, Bool.true_eq_false, decide_eq_true_eq, decide_true, decide_false, Bool.not_true, Bool.not_false, Option.isNone_none, Option.isNone_some, Option.isSome_none, Option.isSome_some, ite_true, ite_false, reduceIte, reduceCtorEq, and_true, true_and, eq_self, Option.some.injEq, Sum.inr.injEq, Sum.inl.injEq, Prod.mk.injEq, not_true_eq_false, not_false_eq_true, Bool.decide_eq_true, n0_ne, n1_ne, xz_ret, zb_if, n1_if, n0_if, v_rf, h_ix_nI, nI_clamp, zB_t, zB_f, uN_uN, uN_ap, Nat.reduceEqDiff, Nat.reduceMul, Nat.reduceSub, qp_o hσ, qp_a hσ, qF_len, qp_s0 hσ, qp_s1 hσ, qg0, qg1, qg2, qg3, qg4, qg5, qg6, qg7, qg8, qs1, qs2, qs3, qs4, qs5, qs6, qs7, qs8, nQ_1, h.2.1, j_lt, z]
  obtain ⟨k', t', k60, kf, w⟩ := w
  refine mV_eq (qp_at (k := 0) hσ rfl) rfl rfl ?_
  have ok : (numP p least most s).1 = (decide (0 < k') && decide (least ≤ (numP p least most s).2.1)) := by
    unfold numP at z4 ⊢
    by_cases c : fsB p least s = true
    · rw [if_pos c, decide_eq_true (kf.mpr c), Bool.true_and]
    · rw [if_neg c, decide_eq_false (fun q => c (kf.mp q)), Bool.false_and]
  obtain ⟨N, hN⟩ : ∃ N, N = numP p least most s := ⟨_, rfl⟩
  rw [← hN] at w ok z1 z2 z3 ⊢
  rw [ok]
  unfold B_X4_nextNumber
  by_cases c : 0 < k'
  · simp (disch := omega) only [x_k, x_i, x_r, x_nil, x_add, x_sub, x_mul, x_div, x_rem, x_get, x_getR, x_ald, x_aldR, x_len, x_lenR, x_if, xa_nil, xa_ci, xa_cr, x_callI, x_callR, x_new, x_newa, x_newq, x_max, x_min, xc_cmp, xc_cmp0, xc_null, xc_nn, xc_not, xc_and, xc_or, xc_if, xs_skip, xs_seq, xs_decI, xs_decR, xs_setI, xs_inc, xs_if, xs_blk, xs_retI, xs_retB, xs_retR, xs_retD, xs_ret0, xs_putI, xs_putZ, xs_putR, xs_putop, xs_ast, xs_astop, xs_astR, xs_callV, xs_callP, xs_super, xs_sw, s_go_inl, s_go_inr, s_cut_inl, s_cut_inr, o_void_n, v_i_int, v_i_none, v_r_ref, v_r_null, v_r_rf, h_set_some, o_some_s, zB_ne0, zB_ite, zB_ite2, g_Vn, g_Pi, nI_add, Option.bind_some, Option.map_some, Option.bind_none, Option.map_none, List.getElem?_cons_zero, List.getElem?_cons_succ, List.set_cons_zero, List.set_cons_succ, List.cons_append, List.nil_append, List.take_succ_cons, List.take_zero, List.length_cons, List.length_nil, Nat.zero_add, Nat.reduceAdd, Nat.reduceLT, if_true, if_false, Bool.false_eq_true, Bool.true_eq_false, decide_eq_true_eq, decide_true, decide_false, Bool.not_true, Bool.not_false, Option.isNone_none, Option.isNone_some, Option.isSome_none, Option.isSome_some, ite_true, ite_false, reduceIte, reduceCtorEq, and_true, true_and, eq_self, Option.some.injEq, Sum.inr.injEq, Sum.inl.injEq, Prod.mk.injEq, not_true_eq_false, not_false_eq_true, Bool.decide_eq_true, n0_ne, n1_ne, xz_ret, zb_if, n1_if, n0_if, v_rf, h_ix_nI, nI_clamp, zB_t, zB_f, uN_uN, uN_ap, Nat.reduceEqDiff, Nat.reduceMul, Nat.reduceSub, qp_o hσ, qp_a hσ, qF_len, qp_s0 hσ, qp_s1 hσ, qg0, qg1, qg2, qg3, qg4, qg5, qg6, qg7, qg8, qs1, qs2, qs3, qs4, qs5, qs6, qs7, qs8, e0, nQ_2, w, j_gt0, c, nQ_4, j_ge, Bool.true_and]
  · simp (disch := omega) only [x_k, x_i, x_r, x_nil, x_add, x_sub, x_mul, x_div, x_rem, x_get, x_getR, x_ald, x_aldR, x_len, x_lenR, x_if, xa_nil, xa_ci, xa_cr, x_callI, x_callR, x_new, x_newa, x_newq, x_max, x_min, xc_cmp, xc_cmp0, xc_null, xc_nn, xc_not, xc_and, xc_or, xc_if, xs_skip, xs_seq, xs_decI, xs_decR, xs_setI, xs_inc, xs_if, xs_blk, xs_retI, xs_retB, xs_retR, xs_retD, xs_ret0, xs_putI, xs_putZ, xs_putR, xs_putop, xs_ast, xs_astop, xs_astR, xs_callV, xs_callP, xs_super, xs_sw, s_go_inl, s_go_inr, s_cut_inl, s_cut_inr, o_void_n, v_i_int, v_i_none, v_r_ref, v_r_null, v_r_rf, h_set_some, o_some_s, zB_ne0, zB_ite, zB_ite2, g_Vn, g_Pi, nI_add, Option.bind_some, Option.map_some, Option.bind_none, Option.map_none, List.getElem?_cons_zero, List.getElem?_cons_succ, List.set_cons_zero, List.set_cons_succ, List.cons_append, List.nil_append, List.take_succ_cons, List.take_zero, List.length_cons, List.length_nil, Nat.zero_add, Nat.reduceAdd, Nat.reduceLT, if_true, if_false, Bool.false_eq_true, Bool.true_eq_false, decide_eq_true_eq, decide_true, decide_false, Bool.not_true, Bool.not_false, Option.isNone_none, Option.isNone_some, Option.isSome_none, Option.isSome_some, ite_true, ite_false, reduceIte, reduceCtorEq, and_true, true_and, eq_self, Option.some.injEq, Sum.inr.injEq, Sum.inl.injEq, Prod.mk.injEq, not_true_eq_false, not_false_eq_true, Bool.decide_eq_true, n0_ne, n1_ne, xz_ret, zb_if, n1_if, n0_if, v_rf, h_ix_nI, nI_clamp, zB_t, zB_f, uN_uN, uN_ap, Nat.reduceEqDiff, Nat.reduceMul, Nat.reduceSub, qp_o hσ, qp_a hσ, qF_len, qp_s0 hσ, qp_s1 hσ, qg0, qg1, qg2, qg3, qg4, qg5, qg6, qg7, qg8, qs1, qs2, qs3, qs4, qs5, qs6, qs7, qs8, e0, nQ_2, w, j_gt0, c, nQ_4, j_ge, Bool.false_and]
end
