/-! WHAT THE CALLS ANSWER (own work): one picture for both texts. Steps with settings and accounts; states before; the snapshot; the pad; where deeds stopped -/
abbrev tV : Type := tS × List tS × Option tS × List Nat × Option (Int32 × Nat × Nat)
def nN (x : Int32) : Nat := x.toNatClampNeg
theorem nN_n {n : Nat} (h : n < 2 ^ 31) : nN (nI n) = n := nI_clamp h
def inB (x l m : Int32) : Bool := i_ge x l && i_le x m
def prI (x : Int32) : Bool := i_ge x (nI 0) && prB (nN x)
def pushH (h : List tS) (S : tS) : List tS := if h.length = 4 then h.tail ++ [S] else h ++ [S]
/-- a change: what was goes into the history -/
def chg (V : tV) (S : tS) : tV := (S, pushH V.2.1 V.1, V.2.2)
def wrap (V : tV) (r : Int32 × tS) : Int32 × tV := if i_lt r.1 0 = true then (r.1, V) else (r.1, chg V r.2)
def dAdd (S : tS) (x y : Int32) : Int32 × tS := if (inB x (nI 0) (nI S.1.length) && inB y (nI 1) (nI 9999)) = true then (if S.1.length = 12 then (-3, S) else (nI (S.1.length + 1), S.1.insertIdx (nN x) (nN y), S.2)) else (-1, S)
def dTake (S : tS) (x : Int32) : Int32 × tS := if stB S x = true then (nI (sN S (nN x)), S.1.eraseIdx (nN x), S.2) else (-1, S)
def dShare (S : tS) (x : Int32) : Int32 × tS := if s2B S x = true then (if 9999 < lcm2 (sN S (nN x)) (sN S (nN x + 1)) then (-3, S) else (nI (Nat.gcd (sN S (nN x)) (sN S (nN x + 1))), shr S (nN x))) else (-1, S)
def dDivide (S : tS) (x : Int32) : Int32 × tS := if s2B S x = true then (if sN S (nN x + 1) % sN S (nN x) = 0 then (nI (sN S (nN x + 1) / sN S (nN x)), spl S (nN x + 1) (sN S (nN x))) else (-2, S)) else (-1, S)
def dStrike (S : tS) (x y : Int32) : Int32 × tS := if (stB S x && prI y) = true then (if sN S (nN x) % nN y = 0 then (nI (sN S (nN x) / nN y), spl S (nN x) (nN y)) else (-2, S)) else (-1, S)
def dSet (S : tS) (x y : Int32) : Int32 × tS := if (i_eq x (nI 0) && inB y (nI 0) (nI 2)) = true then (nI S.2.1, S.1, nN y, S.2.2) else if (i_eq x (nI 1) && inB y (nI 1) (nI 4)) = true then (nI S.2.2.1, S.1, S.2.1, nN y, S.2.2.2) else (-1, S)
def dSettle (S : tS) : Int32 × tS := match sirF 13 S with | some r => (nI r.1, r.2) | none => (-3, S)
/-- the reference holds a picture -/
def MH (M : tM) (h : List tS) : Prop := h.length ≤ 4 ∧ M.1 6 = nI h.length ∧ ∀ k T, h[k]? = some T → SRow (fun z => M.2 2 (1245 * k + z)) T
def MK (M : tM) (k : Option tS) : Prop := M.1 5 = zB k.isSome ∧ ∀ T, k = some T → SRow (M.2 3) T
def MP (M : tM) (p : List Nat) : Prop := p.length ≤ 60 ∧ M.1 9 = nI p.length ∧ ∀ i c, p[i]? = some c → M.2 6 i = nI c ∧ 33 ≤ c ∧ c ≤ 126
def MW (M : tM) (w : Option (Int32 × Nat × Nat)) : Prop := M.1 10 = zB w.isSome ∧ ∀ e, w = some e → M.2 7 0 = e.1 ∧ M.2 7 1 = nI e.2.1 ∧ M.2 7 2 = nI e.2.2
def MV (M : tM) (V : tV) : Prop := PRow (M.2 5) ∧ M.1 7 = nI 0 ∧ SRow (M.2 1) V.1 ∧ MH M V.2.1 ∧ MK M V.2.2.1 ∧ MP M V.2.2.2.1 ∧ MW M V.2.2.2.2
theorem MV.mS {M : tM} {V : tV} (h : MV M V) {f : Nat → Int32} {S : tS} (hf : SRow f S) : MV (mS M f) (S, V.2) := ⟨h.1, h.2.1, hf, h.2.2.2.1, h.2.2.2.2.1, h.2.2.2.2.2.1, h.2.2.2.2.2.2⟩
section
variable {σ : sSt} {M : tM}
theorem g_putsAside (hσ : 72 ≤ σ.1.length) : M_X9_putsAside [.ref 60] (mp σ M) = some (none, mp σ (M.1, uN M.2 4 (fun z => if z < 1245 then M.2 1 z else M.2 4 z))) := by
  let G : Nat → Nat → Int32 := fun j z => if z < j then M.2 1 z else M.2 4 z
  have G0 : ((M.1, uN M.2 4 (G 0)) : tM) = M := by
    have e : G 0 = M.2 4 := by
      funext z
      simp only [G]
      (repeat' split) <;> first | rfl | (exfalso; omega) | (refine congrArg _ ?_; omega) | (congr 1; omega)
    rw [e, uN_self]
  have hw := wh_up (C := C_X9_putsAside_1) (S := W_X9_putsAside_1) (L := [.ref 60, .int (nI 0)]) (σ := mp σ (M.1, uN M.2 4 (G 0))) (fun j => ([.ref 60, .int (nI j)], mp σ (M.1, uN M.2 4 (G j)))) 0 1245 rfl (by omega) (by omega) (fun j hj0 hj => ⟨by
      show C_X9_putsAside_1 [.ref 60, .int (nI j)] (mp σ (M.1, uN M.2 4 (G j))) = some (true, mp σ (M.1, uN M.2 4 (G j)))
      simp (disch := omega) only [x_k, x_i, x_r, x_nil, x_add, x_sub, x_mul, x_div, x_rem, x_get, x_getR, x_ald, x_aldR, x_len, x_lenR, x_if, xa_nil, xa_ci, xa_cr, x_callI, x_callR, x_new, x_newa, x_newq, x_max, x_min, xc_cmp, xc_cmp0, xc_null, xc_nn, xc_not, xc_and, xc_or, xc_if, xs_skip, xs_seq, xs_decI, xs_decR, xs_setI, xs_inc, xs_if, xs_blk, xs_retI, xs_retB, xs_retR, xs_retD, xs_ret0, xs_putI, xs_putZ, xs_putR, xs_putop, xs_ast, xs_astop, xs_astR, xs_callV, xs_callP, xs_super, xs_sw, s_go_inl, s_go_inr, s_cut_inl, s_cut_inr, o_void_n, v_i_int, v_i_none, v_r_ref, v_r_null, v_r_rf, h_set_some, o_some_s, zB_ne0, zB_ite, zB_ite2, g_Vn, g_Pi, nI_add, Option.bind_some, Option.map_some, Option.bind_none, Option.map_none, List.getElem?_cons_zero, List.getElem?_cons_succ, List.set_cons_zero, List.set_cons_succ, List.cons_append, List.nil_append, List.take_succ_cons, List.take_zero, List.length_cons, List.length_nil, Nat.zero_add, Nat.reduceAdd, Nat.reduceLT, if_true, if_false, Bool.false_eq_true, Bool.true_eq_false, decide_eq_true_eq, decide_true, decide_false, Bool.not_true, Bool.not_false, Option.isNone_none, Option.isNone_some, Option.isSome_none, Option.isSome_some, ite_true, ite_false, reduceIte, reduceCtorEq, and_true, true_and, eq_self, Option.some.injEq, Sum.inr.injEq, Sum.inl.injEq, Prod.mk.injEq, j_lt, hj], by
      show W_X9_putsAside_1 [.ref 60, .int (nI j)] (mp σ (M.1, uN M.2 4 (G j))) = some (.inr ([.ref 60, .int (nI (j + 1))], mp σ (M.1, uN M.2 4 (G (j + 1)))))
      have e : upd (G j) j (M.2 1 j) = G (j + 1) := by
        funext z
        simp only [upd, G]
        (repeat' split) <;> first | rfl | (exfalso; omega) | (refine congrArg _ ?_; omega) | (congr 1; omega)
      simp (disch := omega) only [x_k, x_i, x_r, x_nil, x_add, x_sub, x_mul, x_div, x_rem, x_get, x_getR, x_ald, x_aldR, x_len, x_lenR, x_if, xa_nil, xa_ci, xa_cr, x_callI, x_callR, x_new, x_newa, x_newq, x_max, x_min, xc_cmp, xc_cmp0, xc_null, xc_nn, xc_not, xc_and, xc_or, xc_if, xs_skip, xs_seq, xs_decI, xs_decR, xs_setI, xs_inc, xs_if, xs_blk, xs_retI, xs_retB, xs_retR, xs_retD, xs_ret0, xs_putI, xs_putZ, xs_putR, xs_putop, xs_ast, xs_astop, xs_astR, xs_callV, xs_callP, xs_super, xs_sw, s_go_inl, s_go_inr, s_cut_inl, s_cut_inr, o_void_n, v_i_int, v_i_none, v_r_ref, v_r_null, v_r_rf, h_set_some, o_some_s, zB_ne0, zB_ite, zB_ite2, g_Vn, g_Pi, nI_add, Option.bind_some, Option.map_some, Option.bind_none, Option.map_none, List.getElem?_cons_zero, List.getElem?_cons_succ, List.set_cons_zero, List.set_cons_succ, List.cons_append, List.nil_append, List.take_succ_cons, List.take_zero, List.length_cons, List.length_nil, Nat.zero_add, Nat.reduceAdd, Nat.reduceLT, if_true, if_false, Bool.false_eq_true, Bool.true_eq_false, decide_eq_true_eq, decide_true, decide_false, Bool.not_true, Bool.not_false, Option.isNone_none, Option.isNone_some, Option.isSome_none, Option.isSome_some, ite_true, ite_false, reduceIte, reduceCtorEq, and_true, true_and, eq_self, Option.some.injEq, Sum.inr.injEq, Sum.inl.injEq, Prod.mk.injEq, Bool.decide_eq_true, n0_ne, n1_ne, xz_ret, zb_if, n1_if, n0_if, v_rf, h_ix_nI, nI_clamp, zB_t, zB_f, uN_uN, uN_ap, Nat.reduceEqDiff, Nat.reduceMul, Nat.reduceSub, mp_o hσ, mF_len, mp_a1 hσ, mp_a2 hσ, mp_a3 hσ, mp_a4 hσ, mp_a5 hσ, mp_a6 hσ, mp_a7 hσ, mp_a8 hσ, mp_a9 hσ, mp_a10 hσ, mp_a11 hσ, mp_s0 hσ, mp_s1 hσ, mp_s2 hσ, mp_s3 hσ, mp_s4 hσ, mp_s5 hσ, mp_s6 hσ, mp_s7 hσ, mp_s8 hσ, mp_s9 hσ, mp_s10 hσ, mp_s11 hσ, mg0, mg1, mg2, mg3, mg4, mg5, mg6, mg7, mg8, mg9, mg10, mg11, mg12, mg13, mg14, mg15, mg16, mg17, ms5, ms6, ms7, ms9, ms10, ms13, ms14, e]⟩) (by
      show C_X9_putsAside_1 [.ref 60, .int (nI 1245)] (mp σ (M.1, uN M.2 4 (G 1245))) = some (false, mp σ (M.1, uN M.2 4 (G 1245)))
      simp (disch := omega) only [x_k, x_i, x_r, x_nil, x_add, x_sub, x_mul, x_div, x_rem, x_get, x_getR, x_ald, x_aldR, x_len, x_lenR, x_if, xa_nil, xa_ci, xa_cr, x_callI, x_callR, x_new, x_newa, x_newq, x_max, x_min, xc_cmp, xc_cmp0, xc_null, xc_nn, xc_not, xc_and, xc_or, xc_if, xs_skip, xs_seq, xs_decI, xs_decR, xs_setI, xs_inc, xs_if, xs_blk, xs_retI, xs_retB, xs_retR, xs_retD, xs_ret0, xs_putI, xs_putZ, xs_putR, xs_putop, xs_ast, xs_astop, xs_astR, xs_callV, xs_callP, xs_super, xs_sw, s_go_inl, s_go_inr, s_cut_inl, s_cut_inr, o_void_n, v_i_int, v_i_none, v_r_ref, v_r_null, v_r_rf, h_set_some, o_some_s, zB_ne0, zB_ite, zB_ite2, g_Vn, g_Pi, nI_add, Option.bind_some, Option.map_some, Option.bind_none, Option.map_none, List.getElem?_cons_zero, List.getElem?_cons_succ, List.set_cons_zero, List.set_cons_succ, List.cons_append, List.nil_append, List.take_succ_cons, List.take_zero, List.length_cons, List.length_nil, Nat.zero_add, Nat.reduceAdd, Nat.reduceLT, if_true, if_false, Bool.false_eq_true, Bool.true_eq_false, decide_eq_true_eq, decide_true, decide_false, Bool.not_true, Bool.not_false, Option.isNone_none, Option.isNone_some, Option.isSome_none, Option.isSome_some, ite_true, ite_false, reduceIte, reduceCtorEq, and_true, true_and, eq_self, Option.some.injEq, Sum.inr.injEq, Sum.inl.injEq, Prod.mk.injEq, j_lt, Nat.lt_irrefl])
  rw [G0] at hw
  refine mV_eq (mp_at (k := 0) hσ rfl) rfl rfl ?_
  unfold B_X9_putsAside
  simp only [x_k, x_i, x_r, x_nil, x_add, x_sub, x_mul, x_div, x_rem, x_get, x_getR, x_ald, x_aldR, x_len, x_lenR, x_if, xa_nil, xa_ci, xa_cr, x_callI, x_callR, x_new, x_newa, x_newq, x_max, x_min, xc_cmp, xc_cmp0, xc_null, xc_nn, xc_not, xc_and, xc_or, xc_if, xs_skip, xs_seq, xs_decI, xs_decR, xs_setI, xs_inc, xs_if, xs_blk, xs_retI, xs_retB, xs_retR, xs_retD, xs_ret0, xs_putI, xs_putZ, xs_putR, xs_putop, xs_ast, xs_astop, xs_astR, xs_callV, xs_callP, xs_super, xs_sw, s_go_inl, s_go_inr, s_cut_inl, s_cut_inr, o_void_n, v_i_int, v_i_none, v_r_ref, v_r_null, v_r_rf, h_set_some, o_some_s, zB_ne0, zB_ite, zB_ite2, g_Vn, g_Pi, nI_add, Option.bind_some, Option.map_some, Option.bind_none, Option.map_none, List.getElem?_cons_zero, List.getElem?_cons_succ, List.set_cons_zero, List.set_cons_succ, List.cons_append, List.nil_append, List.take_succ_cons, List.take_zero, List.length_cons, List.length_nil, Nat.zero_add, Nat.reduceAdd, Nat.reduceLT, if_true, if_false, Bool.false_eq_true, Bool.true_eq_false, decide_eq_true_eq, decide_true, decide_false, Bool.not_true, Bool.not_false, Option.isNone_none, Option.isNone_some, Option.isSome_none, Option.isSome_some, ite_true, ite_false, reduceIte, reduceCtorEq, and_true, true_and, eq_self, Option.some.injEq, Sum.inr.injEq, Sum.inl.injEq, Prod.mk.injEq, hw]
  rfl
theorem g_putsBack (hσ : 72 ≤ σ.1.length) : M_X9_putsBack [.ref 60] (mp σ M) = some (none, mp σ (mS M (fun z => if z < 1245 then M.2 4 z else M.2 1 z))) := by
  let G : Nat → Nat → Int32 := fun j z => if z < j then M.2 4 z else M.2 1 z
  have G0 : ((M.1, uN M.2 1 (G 0)) : tM) = M := by
    have e : G 0 = M.2 1 := by
      funext z
      simp only [G]
      (repeat' split) <;> first | rfl | (exfalso; omega) | (refine congrArg _ ?_; omega) | (congr 1; omega)
    rw [e, uN_self]
  have hw := wh_up (C := C_X9_putsBack_1) (S := W_X9_putsBack_1) (L := [.ref 60, .int (nI 0)]) (σ := mp σ (M.1, uN M.2 1 (G 0))) (fun j => ([.ref 60, .int (nI j)], mp σ (M.1, uN M.2 1 (G j)))) 0 1245 rfl (by omega) (by omega) (fun j hj0 hj => ⟨by
      show C_X9_putsBack_1 [.ref 60, .int (nI j)] (mp σ (M.1, uN M.2 1 (G j))) = some (true, mp σ (M.1, uN M.2 1 (G j)))
      simp (disch := omega) only [x_k, x_i, x_r, x_nil, x_add, x_sub, x_mul, x_div, x_rem, x_get, x_getR, x_ald, x_aldR, x_len, x_lenR, x_if, xa_nil, xa_ci, xa_cr, x_callI, x_callR, x_new, x_newa, x_newq, x_max, x_min, xc_cmp, xc_cmp0, xc_null, xc_nn, xc_not, xc_and, xc_or, xc_if, xs_skip, xs_seq, xs_decI, xs_decR, xs_setI, xs_inc, xs_if, xs_blk, xs_retI, xs_retB, xs_retR, xs_retD, xs_ret0, xs_putI, xs_putZ, xs_putR, xs_putop, xs_ast, xs_astop, xs_astR, xs_callV, xs_callP, xs_super, xs_sw, s_go_inl, s_go_inr, s_cut_inl, s_cut_inr, o_void_n, v_i_int, v_i_none, v_r_ref, v_r_null, v_r_rf, h_set_some, o_some_s, zB_ne0, zB_ite, zB_ite2, g_Vn, g_Pi, nI_add, Option.bind_some, Option.map_some, Option.bind_none, Option.map_none, List.getElem?_cons_zero, List.getElem?_cons_succ, List.set_cons_zero, List.set_cons_succ, List.cons_append, List.nil_append, List.take_succ_cons, List.take_zero, List.length_cons, List.length_nil, Nat.zero_add, Nat.reduceAdd, Nat.reduceLT, if_true, if_false, Bool.false_eq_true, Bool.true_eq_false, decide_eq_true_eq, decide_true, decide_false, Bool.not_true, Bool.not_false, Option.isNone_none, Option.isNone_some, Option.isSome_none, Option.isSome_some, ite_true, ite_false, reduceIte, reduceCtorEq, and_true, true_and, eq_self, Option.some.injEq, Sum.inr.injEq, Sum.inl.injEq, Prod.mk.injEq, j_lt, hj], by
      show W_X9_putsBack_1 [.ref 60, .int (nI j)] (mp σ (M.1, uN M.2 1 (G j))) = some (.inr ([.ref 60, .int (nI (j + 1))], mp σ (M.1, uN M.2 1 (G (j + 1)))))
      have e : upd (G j) j (M.2 4 j) = G (j + 1) := by
        funext z
        simp only [upd, G]
        (repeat' split) <;> first | rfl | (exfalso; omega) | (refine congrArg _ ?_; omega) | (congr 1; omega)
      simp (disch := omega) only [x_k, x_i, x_r, x_nil, x_add, x_sub, x_mul, x_div, x_rem, x_get, x_getR, x_ald, x_aldR, x_len, x_lenR, x_if, xa_nil, xa_ci, xa_cr, x_callI, x_callR, x_new, x_newa, x_newq, x_max, x_min, xc_cmp, xc_cmp0, xc_null, xc_nn, xc_not, xc_and, xc_or, xc_if, xs_skip, xs_seq, xs_decI, xs_decR, xs_setI, xs_inc, xs_if, xs_blk, xs_retI, xs_retB, xs_retR, xs_retD, xs_ret0, xs_putI, xs_putZ, xs_putR, xs_putop, xs_ast, xs_astop, xs_astR, xs_callV, xs_callP, xs_super, xs_sw, s_go_inl, s_go_inr, s_cut_inl, s_cut_inr, o_void_n, v_i_int, v_i_none, v_r_ref, v_r_null, v_r_rf, h_set_some, o_some_s, zB_ne0, zB_ite, zB_ite2, g_Vn, g_Pi, nI_add, Option.bind_some, Option.map_some, Option.bind_none, Option.map_none, List.getElem?_cons_zero, List.getElem?_cons_succ, List.set_cons_zero, List.set_cons_succ, List.cons_append, List.nil_append, List.take_succ_cons, List.take_zero, List.length_cons, List.length_nil, Nat.zero_add, Nat.reduceAdd, Nat.reduceLT, if_true, if_false, Bool.false_eq_true, Bool.true_eq_false, decide_eq_true_eq, decide_true, decide_false, Bool.not_true, Bool.not_false, Option.isNone_none, Option.isNone_some, Option.isSome_none, Option.isSome_some, ite_true, ite_false, reduceIte, reduceCtorEq, and_true, true_and, eq_self, Option.some.injEq, Sum.inr.injEq, Sum.inl.injEq, Prod.mk.injEq, Bool.decide_eq_true, n0_ne, n1_ne, xz_ret, zb_if, n1_if, n0_if, v_rf, h_ix_nI, nI_clamp, zB_t, zB_f, uN_uN, uN_ap, Nat.reduceEqDiff, Nat.reduceMul, Nat.reduceSub, mp_o hσ, mF_len, mp_a1 hσ, mp_a2 hσ, mp_a3 hσ, mp_a4 hσ, mp_a5 hσ, mp_a6 hσ, mp_a7 hσ, mp_a8 hσ, mp_a9 hσ, mp_a10 hσ, mp_a11 hσ, mp_s0 hσ, mp_s1 hσ, mp_s2 hσ, mp_s3 hσ, mp_s4 hσ, mp_s5 hσ, mp_s6 hσ, mp_s7 hσ, mp_s8 hσ, mp_s9 hσ, mp_s10 hσ, mp_s11 hσ, mg0, mg1, mg2, mg3, mg4, mg5, mg6, mg7, mg8, mg9, mg10, mg11, mg12, mg13, mg14, mg15, mg16, mg17, ms5, ms6, ms7, ms9, ms10, ms13, ms14, e]⟩) (by
      show C_X9_putsBack_1 [.ref 60, .int (nI 1245)] (mp σ (M.1, uN M.2 1 (G 1245))) = some (false, mp σ (M.1, uN M.2 1 (G 1245)))
      simp (disch := omega) only [x_k, x_i, x_r, x_nil, x_add, x_sub, x_mul, x_div, x_rem, x_get, x_getR, x_ald, x_aldR, x_len, x_lenR, x_if, xa_nil, xa_ci, xa_cr, x_callI, x_callR, x_new, x_newa, x_newq, x_max, x_min, xc_cmp, xc_cmp0, xc_null, xc_nn, xc_not, xc_and, xc_or, xc_if, xs_skip, xs_seq, xs_decI, xs_decR, xs_setI, xs_inc, xs_if, xs_blk, xs_retI, xs_retB, xs_retR, xs_retD, xs_ret0, xs_putI, xs_putZ, xs_putR, xs_putop, xs_ast, xs_astop, xs_astR, xs_callV, xs_callP, xs_super, xs_sw, s_go_inl, s_go_inr, s_cut_inl, s_cut_inr, o_void_n, v_i_int, v_i_none, v_r_ref, v_r_null, v_r_rf, h_set_some, o_some_s, zB_ne0, zB_ite, zB_ite2, g_Vn, g_Pi, nI_add, Option.bind_some, Option.map_some, Option.bind_none, Option.map_none, List.getElem?_cons_zero, List.getElem?_cons_succ, List.set_cons_zero, List.set_cons_succ, List.cons_append, List.nil_append, List.take_succ_cons, List.take_zero, List.length_cons, List.length_nil, Nat.zero_add, Nat.reduceAdd, Nat.reduceLT, if_true, if_false, Bool.false_eq_true, Bool.true_eq_false, decide_eq_true_eq, decide_true, decide_false, Bool.not_true, Bool.not_false, Option.isNone_none, Option.isNone_some, Option.isSome_none, Option.isSome_some, ite_true, ite_false, reduceIte, reduceCtorEq, and_true, true_and, eq_self, Option.some.injEq, Sum.inr.injEq, Sum.inl.injEq, Prod.mk.injEq, j_lt, Nat.lt_irrefl])
  rw [G0] at hw
  refine mV_eq (mp_at (k := 0) hσ rfl) rfl rfl ?_
  unfold B_X9_putsBack
  simp only [x_k, x_i, x_r, x_nil, x_add, x_sub, x_mul, x_div, x_rem, x_get, x_getR, x_ald, x_aldR, x_len, x_lenR, x_if, xa_nil, xa_ci, xa_cr, x_callI, x_callR, x_new, x_newa, x_newq, x_max, x_min, xc_cmp, xc_cmp0, xc_null, xc_nn, xc_not, xc_and, xc_or, xc_if, xs_skip, xs_seq, xs_decI, xs_decR, xs_setI, xs_inc, xs_if, xs_blk, xs_retI, xs_retB, xs_retR, xs_retD, xs_ret0, xs_putI, xs_putZ, xs_putR, xs_putop, xs_ast, xs_astop, xs_astR, xs_callV, xs_callP, xs_super, xs_sw, s_go_inl, s_go_inr, s_cut_inl, s_cut_inr, o_void_n, v_i_int, v_i_none, v_r_ref, v_r_null, v_r_rf, h_set_some, o_some_s, zB_ne0, zB_ite, zB_ite2, g_Vn, g_Pi, nI_add, Option.bind_some, Option.map_some, Option.bind_none, Option.map_none, List.getElem?_cons_zero, List.getElem?_cons_succ, List.set_cons_zero, List.set_cons_succ, List.cons_append, List.nil_append, List.take_succ_cons, List.take_zero, List.length_cons, List.length_nil, Nat.zero_add, Nat.reduceAdd, Nat.reduceLT, if_true, if_false, Bool.false_eq_true, Bool.true_eq_false, decide_eq_true_eq, decide_true, decide_false, Bool.not_true, Bool.not_false, Option.isNone_none, Option.isNone_some, Option.isSome_none, Option.isSome_some, ite_true, ite_false, reduceIte, reduceCtorEq, and_true, true_and, eq_self, Option.some.injEq, Sum.inr.injEq, Sum.inl.injEq, Prod.mk.injEq, hw]
  rfl
theorem g_chL2 (hσ : 72 ≤ σ.1.length) {p : Nat} (hp : p ≤ 3) (h6 : M.1 6 = nI p) : s_while C_X9_changes_2 W_X9_changes_2 [.ref 60, .int (nI 0)] (mp σ M) = some (.inr ([.ref 60, .int (nI 1245)], mp σ (M.1, uN M.2 2 (fun z => if 1245 * p ≤ z ∧ z < 1245 * p + 1245 then M.2 1 (z - 1245 * p) else M.2 2 z)))) := by
  let G : Nat → Nat → Int32 := fun j z => if 1245 * p ≤ z ∧ z < 1245 * p + j then M.2 1 (z - 1245 * p) else M.2 2 z
  have G0 : ((M.1, uN M.2 2 (G 0)) : tM) = M := by
    have e : G 0 = M.2 2 := by
      funext z
      simp only [G]
      (repeat' split) <;> first | rfl | (exfalso; omega) | (refine congrArg _ ?_; omega) | (congr 1; omega)
    rw [e, uN_self]
  have hw := wh_up (C := C_X9_changes_2) (S := W_X9_changes_2) (L := [.ref 60, .int (nI 0)]) (σ := mp σ (M.1, uN M.2 2 (G 0))) (fun j => ([.ref 60, .int (nI j)], mp σ (M.1, uN M.2 2 (G j)))) 0 1245 rfl (by omega) (by omega) (fun j hj0 hj => ⟨by
      show C_X9_changes_2 [.ref 60, .int (nI j)] (mp σ (M.1, uN M.2 2 (G j))) = some (true, mp σ (M.1, uN M.2 2 (G j)))
      simp (disch := omega) only [x_k, x_i, x_r, x_nil, x_add, x_sub, x_mul, x_div, x_rem, x_get, x_getR, x_ald, x_aldR, x_len, x_lenR, x_if, xa_nil, xa_ci, xa_cr, x_callI, x_callR, x_new, x_newa, x_newq, x_max, x_min, xc_cmp, xc_cmp0, xc_null, xc_nn, xc_not, xc_and, xc_or, xc_if, xs_skip, xs_seq, xs_decI, xs_decR, xs_setI, xs_inc, xs_if, xs_blk, xs_retI, xs_retB, xs_retR, xs_retD, xs_ret0, xs_putI, xs_putZ, xs_putR, xs_putop, xs_ast, xs_astop, xs_astR, xs_callV, xs_callP, xs_super, xs_sw, s_go_inl, s_go_inr, s_cut_inl, s_cut_inr, o_void_n, v_i_int, v_i_none, v_r_ref, v_r_null, v_r_rf, h_set_some, o_some_s, zB_ne0, zB_ite, zB_ite2, g_Vn, g_Pi, nI_add, Option.bind_some, Option.map_some, Option.bind_none, Option.map_none, List.getElem?_cons_zero, List.getElem?_cons_succ, List.set_cons_zero, List.set_cons_succ, List.cons_append, List.nil_append, List.take_succ_cons, List.take_zero, List.length_cons, List.length_nil, Nat.zero_add, Nat.reduceAdd, Nat.reduceLT, if_true, if_false, Bool.false_eq_true, Bool.true_eq_false, decide_eq_true_eq, decide_true, decide_false, Bool.not_true, Bool.not_false, Option.isNone_none, Option.isNone_some, Option.isSome_none, Option.isSome_some, ite_true, ite_false, reduceIte, reduceCtorEq, and_true, true_and, eq_self, Option.some.injEq, Sum.inr.injEq, Sum.inl.injEq, Prod.mk.injEq, j_lt, hj], by
      show W_X9_changes_2 [.ref 60, .int (nI j)] (mp σ (M.1, uN M.2 2 (G j))) = some (.inr ([.ref 60, .int (nI (j + 1))], mp σ (M.1, uN M.2 2 (G (j + 1)))))
      have e : upd (G j) (1245 * p + j) (M.2 1 j) = G (j + 1) := by
        funext z
        simp only [upd, G]
        (repeat' split) <;> first | rfl | (exfalso; omega) | (refine congrArg _ ?_; omega) | (congr 1; omega)
      simp (disch := omega) only [x_k, x_i, x_r, x_nil, x_add, x_sub, x_mul, x_div, x_rem, x_get, x_getR, x_ald, x_aldR, x_len, x_lenR, x_if, xa_nil, xa_ci, xa_cr, x_callI, x_callR, x_new, x_newa, x_newq, x_max, x_min, xc_cmp, xc_cmp0, xc_null, xc_nn, xc_not, xc_and, xc_or, xc_if, xs_skip, xs_seq, xs_decI, xs_decR, xs_setI, xs_inc, xs_if, xs_blk, xs_retI, xs_retB, xs_retR, xs_retD, xs_ret0, xs_putI, xs_putZ, xs_putR, xs_putop, xs_ast, xs_astop, xs_astR, xs_callV, xs_callP, xs_super, xs_sw, s_go_inl, s_go_inr, s_cut_inl, s_cut_inr, o_void_n, v_i_int, v_i_none, v_r_ref, v_r_null, v_r_rf, h_set_some, o_some_s, zB_ne0, zB_ite, zB_ite2, g_Vn, g_Pi, nI_add, Option.bind_some, Option.map_some, Option.bind_none, Option.map_none, List.getElem?_cons_zero, List.getElem?_cons_succ, List.set_cons_zero, List.set_cons_succ, List.cons_append, List.nil_append, List.take_succ_cons, List.take_zero, List.length_cons, List.length_nil, Nat.zero_add, Nat.reduceAdd, Nat.reduceLT, if_true, if_false, Bool.false_eq_true, Bool.true_eq_false, decide_eq_true_eq, decide_true, decide_false, Bool.not_true, Bool.not_false, Option.isNone_none, Option.isNone_some, Option.isSome_none, Option.isSome_some, ite_true, ite_false, reduceIte, reduceCtorEq, and_true, true_and, eq_self, Option.some.injEq, Sum.inr.injEq, Sum.inl.injEq, Prod.mk.injEq, Bool.decide_eq_true, n0_ne, n1_ne, xz_ret, zb_if, n1_if, n0_if, v_rf, h_ix_nI, nI_clamp, zB_t, zB_f, uN_uN, uN_ap, Nat.reduceEqDiff, Nat.reduceMul, Nat.reduceSub, mp_o hσ, mF_len, mp_a1 hσ, mp_a2 hσ, mp_a3 hσ, mp_a4 hσ, mp_a5 hσ, mp_a6 hσ, mp_a7 hσ, mp_a8 hσ, mp_a9 hσ, mp_a10 hσ, mp_a11 hσ, mp_s0 hσ, mp_s1 hσ, mp_s2 hσ, mp_s3 hσ, mp_s4 hσ, mp_s5 hσ, mp_s6 hσ, mp_s7 hσ, mp_s8 hσ, mp_s9 hσ, mp_s10 hσ, mp_s11 hσ, mg0, mg1, mg2, mg3, mg4, mg5, mg6, mg7, mg8, mg9, mg10, mg11, mg12, mg13, mg14, mg15, mg16, mg17, ms5, ms6, ms7, ms9, ms10, ms13, ms14, h6, pk_mul, e]⟩) (by
      show C_X9_changes_2 [.ref 60, .int (nI 1245)] (mp σ (M.1, uN M.2 2 (G 1245))) = some (false, mp σ (M.1, uN M.2 2 (G 1245)))
      simp (disch := omega) only [x_k, x_i, x_r, x_nil, x_add, x_sub, x_mul, x_div, x_rem, x_get, x_getR, x_ald, x_aldR, x_len, x_lenR, x_if, xa_nil, xa_ci, xa_cr, x_callI, x_callR, x_new, x_newa, x_newq, x_max, x_min, xc_cmp, xc_cmp0, xc_null, xc_nn, xc_not, xc_and, xc_or, xc_if, xs_skip, xs_seq, xs_decI, xs_decR, xs_setI, xs_inc, xs_if, xs_blk, xs_retI, xs_retB, xs_retR, xs_retD, xs_ret0, xs_putI, xs_putZ, xs_putR, xs_putop, xs_ast, xs_astop, xs_astR, xs_callV, xs_callP, xs_super, xs_sw, s_go_inl, s_go_inr, s_cut_inl, s_cut_inr, o_void_n, v_i_int, v_i_none, v_r_ref, v_r_null, v_r_rf, h_set_some, o_some_s, zB_ne0, zB_ite, zB_ite2, g_Vn, g_Pi, nI_add, Option.bind_some, Option.map_some, Option.bind_none, Option.map_none, List.getElem?_cons_zero, List.getElem?_cons_succ, List.set_cons_zero, List.set_cons_succ, List.cons_append, List.nil_append, List.take_succ_cons, List.take_zero, List.length_cons, List.length_nil, Nat.zero_add, Nat.reduceAdd, Nat.reduceLT, if_true, if_false, Bool.false_eq_true, Bool.true_eq_false, decide_eq_true_eq, decide_true, decide_false, Bool.not_true, Bool.not_false, Option.isNone_none, Option.isNone_some, Option.isSome_none, Option.isSome_some, ite_true, ite_false, reduceIte, reduceCtorEq, and_true, true_and, eq_self, Option.some.injEq, Sum.inr.injEq, Sum.inl.injEq, Prod.mk.injEq, j_lt, Nat.lt_irrefl])
  rw [G0] at hw
  exact hw
theorem g_changes (hσ : 72 ≤ σ.1.length) (hr : M.1 7 = nI 0) {n : Nat} (hn : n ≤ 4) (h6 : M.1 6 = nI n) : ∃ F, M_X9_changes [.ref 60] (mp σ M) = some (none, mp σ (uN M.1 6 (nI (if n = 4 then 4 else n + 1)), uN M.2 2 F)) ∧ (∀ z, z < 1245 → F (1245 * (if n = 4 then 3 else n) + z) = M.2 1 z) ∧ (∀ z, z < 1245 * (if n = 4 then 3 else n) → F z = M.2 2 (if n = 4 then z + 1245 else z)) := by
  by_cases h4 : n = 4
  · simp only [if_pos h4]
    let G : Nat → Nat → Int32 := fun j z => if z < j then M.2 2 (z + 1245) else M.2 2 z
    have G0 : ((M.1, uN M.2 2 (G 0)) : tM) = M := by
      have e : G 0 = M.2 2 := by
        funext z
        simp only [G]
        (repeat' split) <;> first | rfl | (exfalso; omega) | (refine congrArg _ ?_; omega) | (congr 1; omega)
      rw [e, uN_self]
    have hw := wh_up (C := C_X9_changes_1) (S := W_X9_changes_1) (L := [.ref 60, .int (nI 0)]) (σ := mp σ (M.1, uN M.2 2 (G 0))) (fun j => ([.ref 60, .int (nI j)], mp σ (M.1, uN M.2 2 (G j)))) 0 3735 rfl (by omega) (by omega) (fun j hj0 hj => ⟨by
        show C_X9_changes_1 [.ref 60, .int (nI j)] (mp σ (M.1, uN M.2 2 (G j))) = some (true, mp σ (M.1, uN M.2 2 (G j)))
        simp (disch := omega) only [x_k, x_i, x_r, x_nil, x_add, x_sub, x_mul, x_div, x_rem, x_get, x_getR, x_ald, x_aldR, x_len, x_lenR, x_if, xa_nil, xa_ci, xa_cr, x_callI, x_callR, x_new, x_newa, x_newq, x_max, x_min, xc_cmp, xc_cmp0, xc_null, xc_nn, xc_not, xc_and, xc_or, xc_if, xs_skip, xs_seq, xs_decI, xs_decR, xs_setI, xs_inc, xs_if, xs_blk, xs_retI, xs_retB, xs_retR, xs_retD, xs_ret0, xs_putI, xs_putZ, xs_putR, xs_putop, xs_ast, xs_astop, xs_astR, xs_callV, xs_callP, xs_super, xs_sw, s_go_inl, s_go_inr, s_cut_inl, s_cut_inr, o_void_n, v_i_int, v_i_none, v_r_ref, v_r_null, v_r_rf, h_set_some, o_some_s, zB_ne0, zB_ite, zB_ite2, g_Vn, g_Pi, nI_add, Option.bind_some, Option.map_some, Option.bind_none, Option.map_none, List.getElem?_cons_zero, List.getElem?_cons_succ, List.set_cons_zero, List.set_cons_succ, List.cons_append, List.nil_append, List.take_succ_cons, List.take_zero, List.length_cons, List.length_nil, Nat.zero_add, Nat.reduceAdd, Nat.reduceLT, if_true, if_false, Bool.false_eq_true, Bool.true_eq_false, decide_eq_true_eq, decide_true, decide_false, Bool.not_true, Bool.not_false, Option.isNone_none, Option.isNone_some, Option.isSome_none, Option.isSome_some, ite_true, ite_false, reduceIte, reduceCtorEq, and_true, true_and, eq_self, Option.some.injEq, Sum.inr.injEq, Sum.inl.injEq, Prod.mk.injEq, j_lt, hj], by
        show W_X9_changes_1 [.ref 60, .int (nI j)] (mp σ (M.1, uN M.2 2 (G j))) = some (.inr ([.ref 60, .int (nI (j + 1))], mp σ (M.1, uN M.2 2 (G (j + 1)))))
        have e : upd (G j) j (G j (j + 1245)) = G (j + 1) := by
          funext z
          simp only [upd, G]
          (repeat' split) <;> first | rfl | (exfalso; omega) | (refine congrArg _ ?_; omega) | (congr 1; omega)
        simp (disch := omega) only [x_k, x_i, x_r, x_nil, x_add, x_sub, x_mul, x_div, x_rem, x_get, x_getR, x_ald, x_aldR, x_len, x_lenR, x_if, xa_nil, xa_ci, xa_cr, x_callI, x_callR, x_new, x_newa, x_newq, x_max, x_min, xc_cmp, xc_cmp0, xc_null, xc_nn, xc_not, xc_and, xc_or, xc_if, xs_skip, xs_seq, xs_decI, xs_decR, xs_setI, xs_inc, xs_if, xs_blk, xs_retI, xs_retB, xs_retR, xs_retD, xs_ret0, xs_putI, xs_putZ, xs_putR, xs_putop, xs_ast, xs_astop, xs_astR, xs_callV, xs_callP, xs_super, xs_sw, s_go_inl, s_go_inr, s_cut_inl, s_cut_inr, o_void_n, v_i_int, v_i_none, v_r_ref, v_r_null, v_r_rf, h_set_some, o_some_s, zB_ne0, zB_ite, zB_ite2, g_Vn, g_Pi, nI_add, Option.bind_some, Option.map_some, Option.bind_none, Option.map_none, List.getElem?_cons_zero, List.getElem?_cons_succ, List.set_cons_zero, List.set_cons_succ, List.cons_append, List.nil_append, List.take_succ_cons, List.take_zero, List.length_cons, List.length_nil, Nat.zero_add, Nat.reduceAdd, Nat.reduceLT, if_true, if_false, Bool.false_eq_true, Bool.true_eq_false, decide_eq_true_eq, decide_true, decide_false, Bool.not_true, Bool.not_false, Option.isNone_none, Option.isNone_some, Option.isSome_none, Option.isSome_some, ite_true, ite_false, reduceIte, reduceCtorEq, and_true, true_and, eq_self, Option.some.injEq, Sum.inr.injEq, Sum.inl.injEq, Prod.mk.injEq, Bool.decide_eq_true, n0_ne, n1_ne, xz_ret, zb_if, n1_if, n0_if, v_rf, h_ix_nI, nI_clamp, zB_t, zB_f, uN_uN, uN_ap, Nat.reduceEqDiff, Nat.reduceMul, Nat.reduceSub, mp_o hσ, mF_len, mp_a1 hσ, mp_a2 hσ, mp_a3 hσ, mp_a4 hσ, mp_a5 hσ, mp_a6 hσ, mp_a7 hσ, mp_a8 hσ, mp_a9 hσ, mp_a10 hσ, mp_a11 hσ, mp_s0 hσ, mp_s1 hσ, mp_s2 hσ, mp_s3 hσ, mp_s4 hσ, mp_s5 hσ, mp_s6 hσ, mp_s7 hσ, mp_s8 hσ, mp_s9 hσ, mp_s10 hσ, mp_s11 hσ, mg0, mg1, mg2, mg3, mg4, mg5, mg6, mg7, mg8, mg9, mg10, mg11, mg12, mg13, mg14, mg15, mg16, mg17, ms5, ms6, ms7, ms9, ms10, ms13, ms14, e]⟩) (by
        show C_X9_changes_1 [.ref 60, .int (nI 3735)] (mp σ (M.1, uN M.2 2 (G 3735))) = some (false, mp σ (M.1, uN M.2 2 (G 3735)))
        simp (disch := omega) only [x_k, x_i, x_r, x_nil, x_add, x_sub, x_mul, x_div, x_rem, x_get, x_getR, x_ald, x_aldR, x_len, x_lenR, x_if, xa_nil, xa_ci, xa_cr, x_callI, x_callR, x_new, x_newa, x_newq, x_max, x_min, xc_cmp, xc_cmp0, xc_null, xc_nn, xc_not, xc_and, xc_or, xc_if, xs_skip, xs_seq, xs_decI, xs_decR, xs_setI, xs_inc, xs_if, xs_blk, xs_retI, xs_retB, xs_retR, xs_retD, xs_ret0, xs_putI, xs_putZ, xs_putR, xs_putop, xs_ast, xs_astop, xs_astR, xs_callV, xs_callP, xs_super, xs_sw, s_go_inl, s_go_inr, s_cut_inl, s_cut_inr, o_void_n, v_i_int, v_i_none, v_r_ref, v_r_null, v_r_rf, h_set_some, o_some_s, zB_ne0, zB_ite, zB_ite2, g_Vn, g_Pi, nI_add, Option.bind_some, Option.map_some, Option.bind_none, Option.map_none, List.getElem?_cons_zero, List.getElem?_cons_succ, List.set_cons_zero, List.set_cons_succ, List.cons_append, List.nil_append, List.take_succ_cons, List.take_zero, List.length_cons, List.length_nil, Nat.zero_add, Nat.reduceAdd, Nat.reduceLT, if_true, if_false, Bool.false_eq_true, Bool.true_eq_false, decide_eq_true_eq, decide_true, decide_false, Bool.not_true, Bool.not_false, Option.isNone_none, Option.isNone_some, Option.isSome_none, Option.isSome_some, ite_true, ite_false, reduceIte, reduceCtorEq, and_true, true_and, eq_self, Option.some.injEq, Sum.inr.injEq, Sum.inl.injEq, Prod.mk.injEq, j_lt, Nat.lt_irrefl])
    rw [G0] at hw
    have hw2 := g_chL2 (M := (uN M.1 6 (nI 3), uN M.2 2 (G 3735))) hσ (p := 3) (by omega) rfl
    refine ⟨fun z => if 1245 * 3 ≤ z ∧ z < 1245 * 3 + 1245 then M.2 1 (z - 1245 * 3) else G 3735 z, mV_eq (mp_at (k := 0) hσ rfl) rfl rfl ?_, ?_, ?_⟩
    · unfold B_X9_changes
      have e7 : i_ne (nI 0) 0 = false := by decide
      have e6 : i_eq (nI 4) (nI 4) = true := by decide
      have e3 : nI 4 - nI 1 = nI 3 := by decide
      simp (disch := omega) only [x_k, x_i, x_r, x_nil, x_add, x_sub, x_mul, x_div, x_rem, x_get, x_getR, x_ald, x_aldR, x_len, x_lenR, x_if, xa_nil, xa_ci, xa_cr, x_callI, x_callR, x_new, x_newa, x_newq, x_max, x_min, xc_cmp, xc_cmp0, xc_null, xc_nn, xc_not, xc_and, xc_or, xc_if, xs_skip, xs_seq, xs_decI, xs_decR, xs_setI, xs_inc, xs_if, xs_blk, xs_retI, xs_retB, xs_retR, xs_retD, xs_ret0, xs_putI, xs_putZ, xs_putR, xs_putop, xs_ast, xs_astop, xs_astR, xs_callV, xs_callP, xs_super, xs_sw, s_go_inl, s_go_inr, s_cut_inl, s_cut_inr, o_void_n, v_i_int, v_i_none, v_r_ref, v_r_null, v_r_rf, h_set_some, o_some_s, zB_ne0, zB_ite, zB_ite2, g_Vn, g_Pi, nI_add, Option.bind_some, Option.map_some, Option.bind_none, Option.map_none, List.getElem?_cons_zero, List.getElem?_cons_succ, List.set_cons_zero, List.set_cons_succ, List.cons_append, List.nil_append, List.take_succ_cons, List.take_zero, List.length_cons, List.length_nil, Nat.zero_add, Nat.reduceAdd, Nat.reduceLT, if_true, if_false, Bool.false_eq_true, Bool.true_eq_false, decide_eq_true_eq, decide_true, decide_false, Bool.not_true, Bool.not_false, Option.isNone_none, Option.isNone_some, Option.isSome_none, Option.isSome_some, ite_true, ite_false, reduceIte, reduceCtorEq, and_true, true_and, eq_self, Option.some.injEq, Sum.inr.injEq, Sum.inl.injEq, Prod.mk.injEq, Bool.decide_eq_true, n0_ne, n1_ne, xz_ret, zb_if, n1_if, n0_if, v_rf, h_ix_nI, nI_clamp, zB_t, zB_f, uN_uN, uN_ap, Nat.reduceEqDiff, Nat.reduceMul, Nat.reduceSub, mp_o hσ, mF_len, mp_a1 hσ, mp_a2 hσ, mp_a3 hσ, mp_a4 hσ, mp_a5 hσ, mp_a6 hσ, mp_a7 hσ, mp_a8 hσ, mp_a9 hσ, mp_a10 hσ, mp_a11 hσ, mp_s0 hσ, mp_s1 hσ, mp_s2 hσ, mp_s3 hσ, mp_s4 hσ, mp_s5 hσ, mp_s6 hσ, mp_s7 hσ, mp_s8 hσ, mp_s9 hσ, mp_s10 hσ, mp_s11 hσ, mg0, mg1, mg2, mg3, mg4, mg5, mg6, mg7, mg8, mg9, mg10, mg11, mg12, mg13, mg14, mg15, mg16, mg17, ms5, ms6, ms7, ms9, ms10, ms13, ms14, hr, e7, h6, h4, e6, hw, e3, hw2]
    · intro z hz
      show (if _ then M.2 1 (1245 * 3 + z - 1245 * 3) else _) = _
      rw [if_pos (by omega), Nat.add_sub_cancel_left]
    · intro z hz
      show (if _ then _ else (if z < 3735 then _ else _)) = _
      rw [if_neg (by omega), if_pos (by omega)]
  · simp only [if_neg h4]
    have hw2 := g_chL2 (M := M) hσ (p := n) (by omega) h6
    refine ⟨fun z => if 1245 * n ≤ z ∧ z < 1245 * n + 1245 then M.2 1 (z - 1245 * n) else M.2 2 z, mV_eq (mp_at (k := 0) hσ rfl) rfl rfl ?_, ?_, ?_⟩
    · unfold B_X9_changes
      have e7 : i_ne (nI 0) 0 = false := by decide
      simp (disch := omega) only [x_k, x_i, x_r, x_nil, x_add, x_sub, x_mul, x_div, x_rem, x_get, x_getR, x_ald, x_aldR, x_len, x_lenR, x_if, xa_nil, xa_ci, xa_cr, x_callI, x_callR, x_new, x_newa, x_newq, x_max, x_min, xc_cmp, xc_cmp0, xc_null, xc_nn, xc_not, xc_and, xc_or, xc_if, xs_skip, xs_seq, xs_decI, xs_decR, xs_setI, xs_inc, xs_if, xs_blk, xs_retI, xs_retB, xs_retR, xs_retD, xs_ret0, xs_putI, xs_putZ, xs_putR, xs_putop, xs_ast, xs_astop, xs_astR, xs_callV, xs_callP, xs_super, xs_sw, s_go_inl, s_go_inr, s_cut_inl, s_cut_inr, o_void_n, v_i_int, v_i_none, v_r_ref, v_r_null, v_r_rf, h_set_some, o_some_s, zB_ne0, zB_ite, zB_ite2, g_Vn, g_Pi, nI_add, Option.bind_some, Option.map_some, Option.bind_none, Option.map_none, List.getElem?_cons_zero, List.getElem?_cons_succ, List.set_cons_zero, List.set_cons_succ, List.cons_append, List.nil_append, List.take_succ_cons, List.take_zero, List.length_cons, List.length_nil, Nat.zero_add, Nat.reduceAdd, Nat.reduceLT, if_true, if_false, Bool.false_eq_true, Bool.true_eq_false, decide_eq_true_eq, decide_true, decide_false, Bool.not_true, Bool.not_false, Option.isNone_none, Option.isNone_some, Option.isSome_none, Option.isSome_some, ite_true, ite_false, reduceIte, reduceCtorEq, and_true, true_and, eq_self, Option.some.injEq, Sum.inr.injEq, Sum.inl.injEq, Prod.mk.injEq, Bool.decide_eq_true, n0_ne, n1_ne, xz_ret, zb_if, n1_if, n0_if, v_rf, h_ix_nI, nI_clamp, zB_t, zB_f, uN_uN, uN_ap, Nat.reduceEqDiff, Nat.reduceMul, Nat.reduceSub, mp_o hσ, mF_len, mp_a1 hσ, mp_a2 hσ, mp_a3 hσ, mp_a4 hσ, mp_a5 hσ, mp_a6 hσ, mp_a7 hσ, mp_a8 hσ, mp_a9 hσ, mp_a10 hσ, mp_a11 hσ, mp_s0 hσ, mp_s1 hσ, mp_s2 hσ, mp_s3 hσ, mp_s4 hσ, mp_s5 hσ, mp_s6 hσ, mp_s7 hσ, mp_s8 hσ, mp_s9 hσ, mp_s10 hσ, mp_s11 hσ, mg0, mg1, mg2, mg3, mg4, mg5, mg6, mg7, mg8, mg9, mg10, mg11, mg12, mg13, mg14, mg15, mg16, mg17, ms5, ms6, ms7, ms9, ms10, ms13, ms14, hr, e7, h6, j_eq, h4, hw2]
    · intro z hz
      show (if _ then M.2 1 (1245 * n + z - 1245 * n) else _) = _
      rw [if_pos (by omega), Nat.add_sub_cancel_left]
    · intro z hz
      show (if _ then _ else _) = _
      rw [if_neg (by omega)]
theorem pushH_len {h : List tS} {S : tS} (hl : h.length ≤ 4) : (pushH h S).length = (if h.length = 4 then 4 else h.length + 1) := by
  unfold pushH
  by_cases h4 : h.length = 4
  · rw [if_pos h4, if_pos h4, List.length_append, List.length_tail, h4]; rfl
  · rw [if_neg h4, if_neg h4, List.length_append]; rfl
/-- behind a change the reference holds the picture of it, its state as it was -/
theorem g_change {V : tV} (hσ : 72 ≤ σ.1.length) (h : MV M V) : ∃ M', M_X9_changes [.ref 60] (mp σ M) = some (none, mp σ M') ∧ MV M' (chg V V.1) ∧ M'.2 1 = M.2 1 := by
  obtain ⟨h1, h2, h3, ⟨a1, a2, a3⟩, h5, h6, h7⟩ := h
  obtain ⟨F, r, f1, f2⟩ := g_changes hσ h2 a1 a2
  refine ⟨_, r, ⟨h1, h2, h3, ⟨by rw [show (chg V V.1).2.1 = pushH V.2.1 V.1 from rfl, pushH_len a1]; split <;> omega, by rw [show (chg V V.1).2.1 = pushH V.2.1 V.1 from rfl, pushH_len a1]; rfl, ?_⟩, h5, h6, h7⟩, rfl⟩
  intro k T hk
  have hk : (pushH V.2.1 V.1)[k]? = some T := hk
  show SRow (fun z => F (1245 * k + z)) T
  unfold pushH at hk
  by_cases h4 : V.2.1.length = 4
  · rw [if_pos h4] at hk
    simp only [if_pos h4] at f1 f2
    have lt : V.2.1.tail.length = 3 := by rw [List.length_tail, h4]
    rcases Nat.lt_trichotomy k 3 with q | q | q
    · rw [List.getElem?_append_left (by omega), List.getElem?_tail] at hk
      refine (a3 _ _ hk).congr (fun z hz => ?_)
      show F _ = _
      rw [f2 _ (by omega)]
      refine congrArg _ ?_
      omega
    · subst q
      rw [List.getElem?_append_right (by omega), lt] at hk
      cases hk
      exact h3.congr (fun z hz => f1 z hz)
    · rw [List.getElem?_append_right (by omega), lt, List.getElem?_eq_none (by show 1 ≤ _; omega)] at hk
      cases hk
  · rw [if_neg h4] at hk
    simp only [if_neg h4] at f1 f2
    rcases Nat.lt_trichotomy k V.2.1.length with q | q | q
    · rw [List.getElem?_append_left q] at hk
      refine (a3 _ _ hk).congr (fun z hz => ?_)
      show F _ = _
      rw [f2 _ (by have := Nat.mul_le_mul_left 1245 (show k + 1 ≤ V.2.1.length from q); omega)]
    · subst q
      rw [List.getElem?_append_right (by omega), Nat.sub_self] at hk
      cases hk
      exact h3.congr (fun z hz => f1 z hz)
    · rw [List.getElem?_append_right (by omega), List.getElem?_eq_none (by show 1 ≤ _; omega)] at hk
      cases hk
end
