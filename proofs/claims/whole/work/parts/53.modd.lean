/-! THE REFERENCE'S DEEDS (own work) -/
theorem getD_set {l : List Nat} {i x k y : Nat} (h : (l.set i x)[k]? = some y) : (k = i ∧ y = x) ∨ (k ≠ i ∧ l[k]? = some y) := by
  by_cases e : i = k
  · subst e
    have hl := (List.getElem?_eq_some_iff.mp h).1
    rw [List.length_set] at hl
    rw [List.getElem?_set_self hl] at h
    cases h
    exact Or.inl ⟨rfl, rfl⟩
  · rw [List.getElem?_set_ne e] at h
    exact Or.inr ⟨fun q => e q.symm, h⟩
theorem erase_set {l : List Nat} {i x : Nat} : (l.set i x).eraseIdx i = l.eraseIdx i := by
  apply List.ext_getElem?
  intro k
  rw [List.getElem?_eraseIdx, List.getElem?_eraseIdx]
  by_cases h : k < i
  · rw [if_pos h, if_pos h, List.getElem?_set_ne (by omega)]
  · rw [if_neg h, if_neg h, List.getElem?_set_ne (by omega)]
theorem ex_pr {p q : Nat} (hp : isPr p) (hq : isPr q) : ex p q = if p = q then 1 else 0 := by
  by_cases e : p = q
  · subst e
    have h1 : ex p (p * 1) = ex p 1 + 1 := ex_mulS hp.1 (Nat.le_refl 1)
    rw [Nat.mul_one, ex_1] at h1
    rw [if_pos rfl, h1]
  · rw [if_neg e]
    refine ex_s (fun z => ?_)
    exact e (pr_dvd hp hq (Nat.dvd_of_mod_eq_zero z.2.2))
section
variable {σ : sSt} {M : tM} {S : tS}
theorem g_takes (hσ : 72 ≤ σ.1.length) (h : SRow (M.2 1) S) {i : Nat} (hi : i < S.1.length) : ∃ f', M_X9_takes [.ref 60, .int (nI i)] (mp σ M) = some (none, mp σ (mS M f')) ∧ SRow f' (S.1.eraseIdx i, S.2) := by
  have hl := h.1.1
  obtain ⟨n, hn⟩ : ∃ n, n + 1 = S.1.length := ⟨S.1.length - 1, by omega⟩
  obtain ⟨f, hf⟩ : ∃ f, f = M.2 1 := ⟨_, rfl⟩
  rw [← hf] at h
  have hs : nI S.1.length - nI 1 = nI n := by rw [pk_sub (by omega), ← hn, Nat.add_sub_cancel]
  let G : Nat → Nat → Int32 := fun k z => if z = 2 then nI n else if 4 + i ≤ z ∧ z < 4 + k then f (z + 1) else f z
  have g2 : ∀ j, G j 2 = nI n := fun j => rfl
  have e0 : upd f 2 (nI n) = G i := by
    funext z
    simp only [upd, G]
    (repeat' split) <;> first | rfl | (exfalso; omega) | (congr 1; omega)
  have hw := wh_up (C := C_X9_takes_1) (S := W_X9_takes_1) (L := [.ref 60, .int (nI i), .int (nI i)]) (σ := mp σ (mS M (G i))) (fun j => ([.ref 60, .int (nI i), .int (nI j)], mp σ (mS M (G j)))) i n rfl (by omega) (by omega) (fun j h1 h2 => ⟨by
      show C_X9_takes_1 [.ref 60, .int (nI i), .int (nI j)] (mp σ (mS M (G j))) = some (true, mp σ (mS M (G j)))
      simp (disch := omega) only [x_k, x_i, x_r, x_nil, x_add, x_sub, x_mul, x_div, x_rem, x_get, x_getR, x_ald, x_aldR, x_len, x_lenR, x_if, xa_nil, xa_ci, xa_cr, x_callI, x_callR, x_new, x_newa, x_newq, x_max, x_min, xc_cmp, xc_cmp0, xc_null, xc_nn, xc_not, xc_and, xc_or, xc_if, xs_skip, xs_seq, xs_decI, xs_decR, xs_setI, xs_inc, xs_if, xs_blk, xs_retI, xs_retB, xs_retR, xs_retD, xs_ret0, xs_putI, xs_putZ, xs_putR, xs_putop, xs_ast, xs_astop, xs_astR, xs_callV, xs_callP, xs_super, xs_sw, s_go_inl, s_go_inr, s_cut_inl, s_cut_inr, o_void_n, v_i_int, v_i_none, v_r_ref, v_r_null, v_r_rf, h_set_some, o_some_s, zB_ne0, zB_ite, zB_ite2, g_Vn, g_Pi, nI_add, Option.bind_some, Option.map_some, Option.bind_none, Option.map_none, List.getElem?_cons_zero, List.getElem?_cons_succ, List.set_cons_zero, List.set_cons_succ, List.cons_append, List.nil_append, List.take_succ_cons, List.take_zero, List.length_cons, List.length_nil, Nat.zero_add, Nat.reduceAdd, Nat.reduceLT, if_true, if_false, Bool.false_eq_true, Bool.true_eq_false, decide_eq_true_eq, decide_true, decide_false, Bool.not_true, Bool.not_false, Option.isNone_none, Option.isNone_some, Option.isSome_none, Option.isSome_some, ite_true, ite_false, reduceIte, reduceCtorEq, and_true, true_and, eq_self, Option.some.injEq, Sum.inr.injEq, Sum.inl.injEq, Prod.mk.injEq, Bool.decide_eq_true, n0_ne, n1_ne, xz_ret, zb_if, n1_if, n0_if, v_rf, h_ix_nI, nI_clamp, zB_t, zB_f, uN_uN, uN_ap, Nat.reduceEqDiff, Nat.reduceMul, Nat.reduceSub, mp_o hσ, mF_len, mp_a1 hσ, mp_a2 hσ, mp_a3 hσ, mp_a4 hσ, mp_a5 hσ, mp_a6 hσ, mp_a7 hσ, mp_a8 hσ, mp_a9 hσ, mp_a10 hσ, mp_a11 hσ, mp_s0 hσ, mp_s1 hσ, mp_s2 hσ, mp_s3 hσ, mp_s4 hσ, mp_s5 hσ, mp_s6 hσ, mp_s7 hσ, mp_s8 hσ, mp_s9 hσ, mp_s10 hσ, mp_s11 hσ, mg0, mg1, mg2, mg3, mg4, mg5, mg6, mg7, mg8, mg9, mg10, mg11, mg12, mg13, mg14, mg15, mg16, mg17, ms5, ms6, ms7, ms9, ms10, ms13, ms14, mS_1, mS_I, g2, j_lt, h2], by
      show W_X9_takes_1 [.ref 60, .int (nI i), .int (nI j)] (mp σ (mS M (G j))) = some (.inr ([.ref 60, .int (nI i), .int (nI (j + 1))], mp σ (mS M (G (j + 1)))))
      have e : upd (G j) (4 + j) (G j (4 + j + 1)) = G (j + 1) := by
        funext z
        simp only [upd, G]
        (repeat' split) <;> first | rfl | (exfalso; omega) | (congr 1; omega)
      simp (disch := omega) only [x_k, x_i, x_r, x_nil, x_add, x_sub, x_mul, x_div, x_rem, x_get, x_getR, x_ald, x_aldR, x_len, x_lenR, x_if, xa_nil, xa_ci, xa_cr, x_callI, x_callR, x_new, x_newa, x_newq, x_max, x_min, xc_cmp, xc_cmp0, xc_null, xc_nn, xc_not, xc_and, xc_or, xc_if, xs_skip, xs_seq, xs_decI, xs_decR, xs_setI, xs_inc, xs_if, xs_blk, xs_retI, xs_retB, xs_retR, xs_retD, xs_ret0, xs_putI, xs_putZ, xs_putR, xs_putop, xs_ast, xs_astop, xs_astR, xs_callV, xs_callP, xs_super, xs_sw, s_go_inl, s_go_inr, s_cut_inl, s_cut_inr, o_void_n, v_i_int, v_i_none, v_r_ref, v_r_null, v_r_rf, h_set_some, o_some_s, zB_ne0, zB_ite, zB_ite2, g_Vn, g_Pi, nI_add, Option.bind_some, Option.map_some, Option.bind_none, Option.map_none, List.getElem?_cons_zero, List.getElem?_cons_succ, List.set_cons_zero, List.set_cons_succ, List.cons_append, List.nil_append, List.take_succ_cons, List.take_zero, List.length_cons, List.length_nil, Nat.zero_add, Nat.reduceAdd, Nat.reduceLT, if_true, if_false, Bool.false_eq_true, Bool.true_eq_false, decide_eq_true_eq, decide_true, decide_false, Bool.not_true, Bool.not_false, Option.isNone_none, Option.isNone_some, Option.isSome_none, Option.isSome_some, ite_true, ite_false, reduceIte, reduceCtorEq, and_true, true_and, eq_self, Option.some.injEq, Sum.inr.injEq, Sum.inl.injEq, Prod.mk.injEq, Bool.decide_eq_true, n0_ne, n1_ne, xz_ret, zb_if, n1_if, n0_if, v_rf, h_ix_nI, nI_clamp, zB_t, zB_f, uN_uN, uN_ap, Nat.reduceEqDiff, Nat.reduceMul, Nat.reduceSub, mp_o hσ, mF_len, mp_a1 hσ, mp_a2 hσ, mp_a3 hσ, mp_a4 hσ, mp_a5 hσ, mp_a6 hσ, mp_a7 hσ, mp_a8 hσ, mp_a9 hσ, mp_a10 hσ, mp_a11 hσ, mp_s0 hσ, mp_s1 hσ, mp_s2 hσ, mp_s3 hσ, mp_s4 hσ, mp_s5 hσ, mp_s6 hσ, mp_s7 hσ, mp_s8 hσ, mp_s9 hσ, mp_s10 hσ, mp_s11 hσ, mg0, mg1, mg2, mg3, mg4, mg5, mg6, mg7, mg8, mg9, mg10, mg11, mg12, mg13, mg14, mg15, mg16, mg17, ms5, ms6, ms7, ms9, ms10, ms13, ms14, mS_1, mS_I, mS_up, e]⟩) (by
      show C_X9_takes_1 [.ref 60, .int (nI i), .int (nI n)] (mp σ (mS M (G n))) = some (false, mp σ (mS M (G n)))
      simp (disch := omega) only [x_k, x_i, x_r, x_nil, x_add, x_sub, x_mul, x_div, x_rem, x_get, x_getR, x_ald, x_aldR, x_len, x_lenR, x_if, xa_nil, xa_ci, xa_cr, x_callI, x_callR, x_new, x_newa, x_newq, x_max, x_min, xc_cmp, xc_cmp0, xc_null, xc_nn, xc_not, xc_and, xc_or, xc_if, xs_skip, xs_seq, xs_decI, xs_decR, xs_setI, xs_inc, xs_if, xs_blk, xs_retI, xs_retB, xs_retR, xs_retD, xs_ret0, xs_putI, xs_putZ, xs_putR, xs_putop, xs_ast, xs_astop, xs_astR, xs_callV, xs_callP, xs_super, xs_sw, s_go_inl, s_go_inr, s_cut_inl, s_cut_inr, o_void_n, v_i_int, v_i_none, v_r_ref, v_r_null, v_r_rf, h_set_some, o_some_s, zB_ne0, zB_ite, zB_ite2, g_Vn, g_Pi, nI_add, Option.bind_some, Option.map_some, Option.bind_none, Option.map_none, List.getElem?_cons_zero, List.getElem?_cons_succ, List.set_cons_zero, List.set_cons_succ, List.cons_append, List.nil_append, List.take_succ_cons, List.take_zero, List.length_cons, List.length_nil, Nat.zero_add, Nat.reduceAdd, Nat.reduceLT, if_true, if_false, Bool.false_eq_true, Bool.true_eq_false, decide_eq_true_eq, decide_true, decide_false, Bool.not_true, Bool.not_false, Option.isNone_none, Option.isNone_some, Option.isSome_none, Option.isSome_some, ite_true, ite_false, reduceIte, reduceCtorEq, and_true, true_and, eq_self, Option.some.injEq, Sum.inr.injEq, Sum.inl.injEq, Prod.mk.injEq, Bool.decide_eq_true, n0_ne, n1_ne, xz_ret, zb_if, n1_if, n0_if, v_rf, h_ix_nI, nI_clamp, zB_t, zB_f, uN_uN, uN_ap, Nat.reduceEqDiff, Nat.reduceMul, Nat.reduceSub, mp_o hσ, mF_len, mp_a1 hσ, mp_a2 hσ, mp_a3 hσ, mp_a4 hσ, mp_a5 hσ, mp_a6 hσ, mp_a7 hσ, mp_a8 hσ, mp_a9 hσ, mp_a10 hσ, mp_a11 hσ, mp_s0 hσ, mp_s1 hσ, mp_s2 hσ, mp_s3 hσ, mp_s4 hσ, mp_s5 hσ, mp_s6 hσ, mp_s7 hσ, mp_s8 hσ, mp_s9 hσ, mp_s10 hσ, mp_s11 hσ, mg0, mg1, mg2, mg3, mg4, mg5, mg6, mg7, mg8, mg9, mg10, mg11, mg12, mg13, mg14, mg15, mg16, mg17, ms5, ms6, ms7, ms9, ms10, ms13, ms14, mS_1, mS_I, g2, j_lt, Nat.lt_irrefl])
  refine ⟨upd (G n) (4 + n) (nI 0), mV_eq (mp_at (k := 0) hσ rfl) rfl rfl ?_, ?_⟩
  · unfold B_X9_takes
    simp (disch := omega) only [x_k, x_i, x_r, x_nil, x_add, x_sub, x_mul, x_div, x_rem, x_get, x_getR, x_ald, x_aldR, x_len, x_lenR, x_if, xa_nil, xa_ci, xa_cr, x_callI, x_callR, x_new, x_newa, x_newq, x_max, x_min, xc_cmp, xc_cmp0, xc_null, xc_nn, xc_not, xc_and, xc_or, xc_if, xs_skip, xs_seq, xs_decI, xs_decR, xs_setI, xs_inc, xs_if, xs_blk, xs_retI, xs_retB, xs_retR, xs_retD, xs_ret0, xs_putI, xs_putZ, xs_putR, xs_putop, xs_ast, xs_astop, xs_astR, xs_callV, xs_callP, xs_super, xs_sw, s_go_inl, s_go_inr, s_cut_inl, s_cut_inr, o_void_n, v_i_int, v_i_none, v_r_ref, v_r_null, v_r_rf, h_set_some, o_some_s, zB_ne0, zB_ite, zB_ite2, g_Vn, g_Pi, nI_add, Option.bind_some, Option.map_some, Option.bind_none, Option.map_none, List.getElem?_cons_zero, List.getElem?_cons_succ, List.set_cons_zero, List.set_cons_succ, List.cons_append, List.nil_append, List.take_succ_cons, List.take_zero, List.length_cons, List.length_nil, Nat.zero_add, Nat.reduceAdd, Nat.reduceLT, if_true, if_false, Bool.false_eq_true, Bool.true_eq_false, decide_eq_true_eq, decide_true, decide_false, Bool.not_true, Bool.not_false, Option.isNone_none, Option.isNone_some, Option.isSome_none, Option.isSome_some, ite_true, ite_false, reduceIte, reduceCtorEq, and_true, true_and, eq_self, Option.some.injEq, Sum.inr.injEq, Sum.inl.injEq, Prod.mk.injEq, Bool.decide_eq_true, n0_ne, n1_ne, xz_ret, zb_if, n1_if, n0_if, v_rf, h_ix_nI, nI_clamp, zB_t, zB_f, uN_uN, uN_ap, Nat.reduceEqDiff, Nat.reduceMul, Nat.reduceSub, mp_o hσ, mF_len, mp_a1 hσ, mp_a2 hσ, mp_a3 hσ, mp_a4 hσ, mp_a5 hσ, mp_a6 hσ, mp_a7 hσ, mp_a8 hσ, mp_a9 hσ, mp_a10 hσ, mp_a11 hσ, mp_s0 hσ, mp_s1 hσ, mp_s2 hσ, mp_s3 hσ, mp_s4 hσ, mp_s5 hσ, mp_s6 hσ, mp_s7 hσ, mp_s8 hσ, mp_s9 hσ, mp_s10 hσ, mp_s11 hσ, mg0, mg1, mg2, mg3, mg4, mg5, mg6, mg7, mg8, mg9, mg10, mg11, mg12, mg13, mg14, mg15, mg16, mg17, ms5, ms6, ms7, ms9, ms10, ms13, ms14, ← hf, h.2.2.2.1, hs, e0, mS_1, mS_I, mS_up, mS_up2, hw, g2]
  · have hu : ∀ z, z ≠ 4 + n → upd (G n) (4 + n) (nI 0) z = G n z := fun z hz => if_neg hz
    have hg : ∀ z, z < 4 + i ∨ 4 + n ≤ z → z ≠ 2 → G n z = f z := fun z h1 h2 => by
      show (if z = 2 then _ else if _ then _ else f z) = _
      rw [if_neg h2, if_neg (by omega)]
    refine srow_mk (h.1.erase hi) ?_ ?_ ?_ ?_ ?_ ?_
    · rw [hu _ (by omega), hg _ (by omega) (by omega)]; exact h.2.1
    · rw [hu _ (by omega), hg _ (by omega) (by omega)]; exact h.2.2.1
    · rw [hu _ (by omega), g2]
      show _ = nI (S.1.eraseIdx i).length
      rw [List.length_eraseIdx, if_pos hi, ← hn, Nat.add_sub_cancel]
    · rw [hu _ (by omega), hg _ (by omega) (by omega)]; exact h.2.2.2.2.1
    · intro k x hx
      have hx : (S.1.eraseIdx i)[k]? = some x := hx
      have hk : k < n := by
        have := (List.getElem?_eq_some_iff.mp hx).1
        rw [List.length_eraseIdx, if_pos hi, ← hn, Nat.add_sub_cancel] at this
        exact this
      rw [List.getElem?_eraseIdx] at hx
      rw [hu _ (by omega)]
      by_cases c : k < i
      · rw [if_pos c] at hx
        rw [hg _ (by omega) (by omega)]
        exact h.num hx
      · rw [if_neg c] at hx
        show (if 4 + k = 2 then _ else if _ then f (4 + k + 1) else _) = _
        rw [if_neg (by omega), if_pos (by omega)]
        exact h.num hx
    · intro k q hk
      rw [hu _ (by omega), hg _ (by omega) (by omega)]
      exact h.2.2.2.2.2.2 k q hk
theorem g_puts (hσ : 72 ≤ σ.1.length) (h : SRow (M.2 1) S) {i x : Nat} (hi : i ≤ S.1.length) (hx : 1 ≤ x ∧ x ≤ 9999) (hf : S.1.length < 12) : ∃ f', M_X9_puts [.ref 60, .int (nI i), .int (nI x)] (mp σ M) = some (none, mp σ (mS M f')) ∧ SRow f' (S.1.insertIdx i x, S.2) := by
  obtain ⟨n, hn⟩ : ∃ n, n = S.1.length := ⟨_, rfl⟩
  obtain ⟨f, hf'⟩ : ∃ f, f = M.2 1 := ⟨_, rfl⟩
  rw [← hf'] at h
  let G : Nat → Nat → Int32 := fun t z => if 4 + (n - t) < z ∧ z ≤ 4 + n then f (z - 1) else f z
  have G0 : mS M (G 0) = M := by
    have e : G 0 = f := by
      funext z
      simp only [G]
      (repeat' split) <;> first | rfl | (exfalso; omega) | (congr 1; omega)
    rw [e, hf', mS_self]
  have hw := wh_up (C := C_X9_puts_1) (S := W_X9_puts_1) (L := [.ref 60, .int (nI i), .int (nI x), .int (nI n)]) (σ := mp σ M) (fun t => ([.ref 60, .int (nI i), .int (nI x), .int (nI (n - t))], mp σ (mS M (G t)))) 0 (n - i) (by rw [G0]; rfl) (by omega) (by omega) (fun t h1 h2 => ⟨by
      show C_X9_puts_1 [.ref 60, .int (nI i), .int (nI x), .int (nI (n - t))] (mp σ (mS M (G t))) = some (true, mp σ (mS M (G t)))
      simp (disch := omega) only [x_k, x_i, x_r, x_nil, x_add, x_sub, x_mul, x_div, x_rem, x_get, x_getR, x_ald, x_aldR, x_len, x_lenR, x_if, xa_nil, xa_ci, xa_cr, x_callI, x_callR, x_new, x_newa, x_newq, x_max, x_min, xc_cmp, xc_cmp0, xc_null, xc_nn, xc_not, xc_and, xc_or, xc_if, xs_skip, xs_seq, xs_decI, xs_decR, xs_setI, xs_inc, xs_if, xs_blk, xs_retI, xs_retB, xs_retR, xs_retD, xs_ret0, xs_putI, xs_putZ, xs_putR, xs_putop, xs_ast, xs_astop, xs_astR, xs_callV, xs_callP, xs_super, xs_sw, s_go_inl, s_go_inr, s_cut_inl, s_cut_inr, o_void_n, v_i_int, v_i_none, v_r_ref, v_r_null, v_r_rf, h_set_some, o_some_s, zB_ne0, zB_ite, zB_ite2, g_Vn, g_Pi, nI_add, Option.bind_some, Option.map_some, Option.bind_none, Option.map_none, List.getElem?_cons_zero, List.getElem?_cons_succ, List.set_cons_zero, List.set_cons_succ, List.cons_append, List.nil_append, List.take_succ_cons, List.take_zero, List.length_cons, List.length_nil, Nat.zero_add, Nat.reduceAdd, Nat.reduceLT, if_true, if_false, Bool.false_eq_true, Bool.true_eq_false, decide_eq_true_eq, decide_true, decide_false, Bool.not_true, Bool.not_false, Option.isNone_none, Option.isNone_some, Option.isSome_none, Option.isSome_some, ite_true, ite_false, reduceIte, reduceCtorEq, and_true, true_and, eq_self, Option.some.injEq, Sum.inr.injEq, Sum.inl.injEq, Prod.mk.injEq, j_gt, show i < n - t by omega], by
      show W_X9_puts_1 [.ref 60, .int (nI i), .int (nI x), .int (nI (n - t))] (mp σ (mS M (G t))) = some (.inr ([.ref 60, .int (nI i), .int (nI x), .int (nI (n - (t + 1)))], mp σ (mS M (G (t + 1)))))
      have e : upd (G t) (4 + (n - t)) (G t (4 + (n - t) - 1)) = G (t + 1) := by
        funext z
        simp only [upd, G]
        (repeat' split) <;> first | rfl | (exfalso; omega) | (congr 1; omega)
      have e2 : nI (n - t) + -1 = nI (n - (t + 1)) := j_dec (by omega)
      simp (disch := omega) only [x_k, x_i, x_r, x_nil, x_add, x_sub, x_mul, x_div, x_rem, x_get, x_getR, x_ald, x_aldR, x_len, x_lenR, x_if, xa_nil, xa_ci, xa_cr, x_callI, x_callR, x_new, x_newa, x_newq, x_max, x_min, xc_cmp, xc_cmp0, xc_null, xc_nn, xc_not, xc_and, xc_or, xc_if, xs_skip, xs_seq, xs_decI, xs_decR, xs_setI, xs_inc, xs_if, xs_blk, xs_retI, xs_retB, xs_retR, xs_retD, xs_ret0, xs_putI, xs_putZ, xs_putR, xs_putop, xs_ast, xs_astop, xs_astR, xs_callV, xs_callP, xs_super, xs_sw, s_go_inl, s_go_inr, s_cut_inl, s_cut_inr, o_void_n, v_i_int, v_i_none, v_r_ref, v_r_null, v_r_rf, h_set_some, o_some_s, zB_ne0, zB_ite, zB_ite2, g_Vn, g_Pi, nI_add, Option.bind_some, Option.map_some, Option.bind_none, Option.map_none, List.getElem?_cons_zero, List.getElem?_cons_succ, List.set_cons_zero, List.set_cons_succ, List.cons_append, List.nil_append, List.take_succ_cons, List.take_zero, List.length_cons, List.length_nil, Nat.zero_add, Nat.reduceAdd, Nat.reduceLT, if_true, if_false, Bool.false_eq_true, Bool.true_eq_false, decide_eq_true_eq, decide_true, decide_false, Bool.not_true, Bool.not_false, Option.isNone_none, Option.isNone_some, Option.isSome_none, Option.isSome_some, ite_true, ite_false, reduceIte, reduceCtorEq, and_true, true_and, eq_self, Option.some.injEq, Sum.inr.injEq, Sum.inl.injEq, Prod.mk.injEq, Bool.decide_eq_true, n0_ne, n1_ne, xz_ret, zb_if, n1_if, n0_if, v_rf, h_ix_nI, nI_clamp, zB_t, zB_f, uN_uN, uN_ap, Nat.reduceEqDiff, Nat.reduceMul, Nat.reduceSub, mp_o hσ, mF_len, mp_a1 hσ, mp_a2 hσ, mp_a3 hσ, mp_a4 hσ, mp_a5 hσ, mp_a6 hσ, mp_a7 hσ, mp_a8 hσ, mp_a9 hσ, mp_a10 hσ, mp_a11 hσ, mp_s0 hσ, mp_s1 hσ, mp_s2 hσ, mp_s3 hσ, mp_s4 hσ, mp_s5 hσ, mp_s6 hσ, mp_s7 hσ, mp_s8 hσ, mp_s9 hσ, mp_s10 hσ, mp_s11 hσ, mg0, mg1, mg2, mg3, mg4, mg5, mg6, mg7, mg8, mg9, mg10, mg11, mg12, mg13, mg14, mg15, mg16, mg17, ms5, ms6, ms7, ms9, ms10, ms13, ms14, mS_1, mS_I, mS_up, pk_sub, e, e2]⟩) (by
      show C_X9_puts_1 [.ref 60, .int (nI i), .int (nI x), .int (nI (n - (n - i)))] (mp σ (mS M (G (n - i)))) = some (false, mp σ (mS M (G (n - i))))
      simp (disch := omega) only [x_k, x_i, x_r, x_nil, x_add, x_sub, x_mul, x_div, x_rem, x_get, x_getR, x_ald, x_aldR, x_len, x_lenR, x_if, xa_nil, xa_ci, xa_cr, x_callI, x_callR, x_new, x_newa, x_newq, x_max, x_min, xc_cmp, xc_cmp0, xc_null, xc_nn, xc_not, xc_and, xc_or, xc_if, xs_skip, xs_seq, xs_decI, xs_decR, xs_setI, xs_inc, xs_if, xs_blk, xs_retI, xs_retB, xs_retR, xs_retD, xs_ret0, xs_putI, xs_putZ, xs_putR, xs_putop, xs_ast, xs_astop, xs_astR, xs_callV, xs_callP, xs_super, xs_sw, s_go_inl, s_go_inr, s_cut_inl, s_cut_inr, o_void_n, v_i_int, v_i_none, v_r_ref, v_r_null, v_r_rf, h_set_some, o_some_s, zB_ne0, zB_ite, zB_ite2, g_Vn, g_Pi, nI_add, Option.bind_some, Option.map_some, Option.bind_none, Option.map_none, List.getElem?_cons_zero, List.getElem?_cons_succ, List.set_cons_zero, List.set_cons_succ, List.cons_append, List.nil_append, List.take_succ_cons, List.take_zero, List.length_cons, List.length_nil, Nat.zero_add, Nat.reduceAdd, Nat.reduceLT, if_true, if_false, Bool.false_eq_true, Bool.true_eq_false, decide_eq_true_eq, decide_true, decide_false, Bool.not_true, Bool.not_false, Option.isNone_none, Option.isNone_some, Option.isSome_none, Option.isSome_some, ite_true, ite_false, reduceIte, reduceCtorEq, and_true, true_and, eq_self, Option.some.injEq, Sum.inr.injEq, Sum.inl.injEq, Prod.mk.injEq, j_gt, show ¬ i < n - (n - i) by omega])
  have ez : n - (n - i) = i := by omega
  obtain ⟨G1, hG1⟩ : ∃ G1, G1 = upd (G (n - i)) (4 + i) (nI x) := ⟨_, rfl⟩
  have gz : ∀ z, z ≤ 4 ∨ 4 + n < z → z ≠ 4 + i → G1 z = f z := fun z h1 h2 => by
    rw [hG1]
    show (if z = 4 + i then _ else if _ then _ else f z) = _
    rw [if_neg h2, if_neg (by omega)]
  have q2 : G1 2 = nI n := (gz 2 (by omega) (by omega)).trans (by rw [h.2.2.2.1, hn])
  refine ⟨upd G1 2 (nI (n + 1)), mV_eq (mp_at (k := 0) hσ rfl) rfl rfl ?_, ?_⟩
  · have hw2 : s_while C_X9_puts_1 W_X9_puts_1 [.ref 60, .int (nI i), .int (nI x), .int (nI n)] (mp σ M) = some (.inr ([.ref 60, .int (nI i), .int (nI x), .int (nI i)], mp σ (mS M (G (n - i))))) := by
      rw [hw]
      simp only [ez]
    unfold B_X9_puts
    simp (disch := omega) only [x_k, x_i, x_r, x_nil, x_add, x_sub, x_mul, x_div, x_rem, x_get, x_getR, x_ald, x_aldR, x_len, x_lenR, x_if, xa_nil, xa_ci, xa_cr, x_callI, x_callR, x_new, x_newa, x_newq, x_max, x_min, xc_cmp, xc_cmp0, xc_null, xc_nn, xc_not, xc_and, xc_or, xc_if, xs_skip, xs_seq, xs_decI, xs_decR, xs_setI, xs_inc, xs_if, xs_blk, xs_retI, xs_retB, xs_retR, xs_retD, xs_ret0, xs_putI, xs_putZ, xs_putR, xs_putop, xs_ast, xs_astop, xs_astR, xs_callV, xs_callP, xs_super, xs_sw, s_go_inl, s_go_inr, s_cut_inl, s_cut_inr, o_void_n, v_i_int, v_i_none, v_r_ref, v_r_null, v_r_rf, h_set_some, o_some_s, zB_ne0, zB_ite, zB_ite2, g_Vn, g_Pi, nI_add, Option.bind_some, Option.map_some, Option.bind_none, Option.map_none, List.getElem?_cons_zero, List.getElem?_cons_succ, List.set_cons_zero, List.set_cons_succ, List.cons_append, List.nil_append, List.take_succ_cons, List.take_zero, List.length_cons, List.length_nil, Nat.zero_add, Nat.reduceAdd, Nat.reduceLT, if_true, if_false, Bool.false_eq_true, Bool.true_eq_false, decide_eq_true_eq, decide_true, decide_false, Bool.not_true, Bool.not_false, Option.isNone_none, Option.isNone_some, Option.isSome_none, Option.isSome_some, ite_true, ite_false, reduceIte, reduceCtorEq, and_true, true_and, eq_self, Option.some.injEq, Sum.inr.injEq, Sum.inl.injEq, Prod.mk.injEq, Bool.decide_eq_true, n0_ne, n1_ne, xz_ret, zb_if, n1_if, n0_if, v_rf, h_ix_nI, nI_clamp, zB_t, zB_f, uN_uN, uN_ap, Nat.reduceEqDiff, Nat.reduceMul, Nat.reduceSub, mp_o hσ, mF_len, mp_a1 hσ, mp_a2 hσ, mp_a3 hσ, mp_a4 hσ, mp_a5 hσ, mp_a6 hσ, mp_a7 hσ, mp_a8 hσ, mp_a9 hσ, mp_a10 hσ, mp_a11 hσ, mp_s0 hσ, mp_s1 hσ, mp_s2 hσ, mp_s3 hσ, mp_s4 hσ, mp_s5 hσ, mp_s6 hσ, mp_s7 hσ, mp_s8 hσ, mp_s9 hσ, mp_s10 hσ, mp_s11 hσ, mg0, mg1, mg2, mg3, mg4, mg5, mg6, mg7, mg8, mg9, mg10, mg11, mg12, mg13, mg14, mg15, mg16, mg17, ms5, ms6, ms7, ms9, ms10, ms13, ms14, ← hf', h.2.2.2.1, ← hn, hw2, mS_1, mS_I, mS_up, ← hG1, q2]
  · have hu : ∀ z, z ≠ 2 → upd G1 2 (nI (n + 1)) z = G1 z := fun z hz => if_neg hz
    refine srow_mk (h.1.ins hi hf hx.1 hx.2) ?_ ?_ ?_ ?_ ?_ ?_
    · rw [hu _ (by omega), gz _ (by omega) (by omega)]; exact h.2.1
    · rw [hu _ (by omega), gz _ (by omega) (by omega)]; exact h.2.2.1
    · show nI (n + 1) = nI (S.1.insertIdx i x).length
      rw [List.length_insertIdx, if_pos hi, hn]
    · rw [hu _ (by omega), gz _ (by omega) (by omega)]; exact h.2.2.2.2.1
    · intro k y hy
      have hy : (S.1.insertIdx i x)[k]? = some y := hy
      rw [List.getElem?_insertIdx] at hy
      rw [hu _ (by omega), hG1]
      by_cases c1 : k < i
      · rw [if_pos c1] at hy
        show (if 4 + k = 4 + i then _ else if _ then _ else f (4 + k)) = _
        rw [if_neg (by omega), if_neg (by omega)]
        exact h.num hy
      · rw [if_neg c1] at hy
        by_cases c2 : k = i
        · rw [if_pos c2, if_pos (by omega)] at hy
          cases hy
          show (if 4 + k = 4 + i then _ else _) = _
          rw [if_pos (by omega)]
        · rw [if_neg c2] at hy
          have hk := (List.getElem?_eq_some_iff.mp hy).1
          show (if 4 + k = 4 + i then _ else if _ then f (4 + k - 1) else _) = _
          rw [if_neg (by omega), if_pos (by omega), show 4 + k - 1 = 4 + (k - 1) by omega]
          exact h.num hy
    · intro k q hk
      rw [hu _ (by omega), gz _ (by omega) (by omega)]
      exact h.2.2.2.2.2.2 k q hk
theorem g_breaks (hσ : 72 ≤ σ.1.length) (h : SRow (M.2 1) S) {i : Nat} (hi : i < S.1.length) : ∃ f', M_X9_breaks [.ref 60, .int (nI i)] (mp σ M) = some (none, mp σ (mS M f')) ∧ SRow f' (if sN S i = 1 then (S.1.eraseIdx i, S.2.1, S.2.2.1, S.2.2.2.1 + nI 1, sCh S) else S) := by
  have hl := h.1.1
  have b1 := sN_ok h.1 i
  by_cases c : sN S i = 1
  · obtain ⟨f', r, hr⟩ := g_takes hσ h hi
    refine ⟨upd f' 3 (f' 3 + nI 1), mV_eq (mp_at (k := 0) hσ rfl) rfl rfl ?_, ?_⟩
    · unfold B_X9_breaks
      simp (disch := omega) only [x_k, x_i, x_r, x_nil, x_add, x_sub, x_mul, x_div, x_rem, x_get, x_getR, x_ald, x_aldR, x_len, x_lenR, x_if, xa_nil, xa_ci, xa_cr, x_callI, x_callR, x_new, x_newa, x_newq, x_max, x_min, xc_cmp, xc_cmp0, xc_null, xc_nn, xc_not, xc_and, xc_or, xc_if, xs_skip, xs_seq, xs_decI, xs_decR, xs_setI, xs_inc, xs_if, xs_blk, xs_retI, xs_retB, xs_retR, xs_retD, xs_ret0, xs_putI, xs_putZ, xs_putR, xs_putop, xs_ast, xs_astop, xs_astR, xs_callV, xs_callP, xs_super, xs_sw, s_go_inl, s_go_inr, s_cut_inl, s_cut_inr, o_void_n, v_i_int, v_i_none, v_r_ref, v_r_null, v_r_rf, h_set_some, o_some_s, zB_ne0, zB_ite, zB_ite2, g_Vn, g_Pi, nI_add, Option.bind_some, Option.map_some, Option.bind_none, Option.map_none, List.getElem?_cons_zero, List.getElem?_cons_succ, List.set_cons_zero, List.set_cons_succ, List.cons_append, List.nil_append, List.take_succ_cons, List.take_zero, List.length_cons, List.length_nil, Nat.zero_add, Nat.reduceAdd, Nat.reduceLT, if_true, if_false, Bool.false_eq_true, Bool.true_eq_false, decide_eq_true_eq, decide_true, decide_false, Bool.not_true, Bool.not_false, Option.isNone_none, Option.isNone_some, Option.isSome_none, Option.isSome_some, ite_true, ite_false, reduceIte, reduceCtorEq, and_true, true_and, eq_self, Option.some.injEq, Sum.inr.injEq, Sum.inl.injEq, Prod.mk.injEq, Bool.decide_eq_true, n0_ne, n1_ne, xz_ret, zb_if, n1_if, n0_if, v_rf, h_ix_nI, nI_clamp, zB_t, zB_f, uN_uN, uN_ap, Nat.reduceEqDiff, Nat.reduceMul, Nat.reduceSub, mp_o hσ, mF_len, mp_a1 hσ, mp_a2 hσ, mp_a3 hσ, mp_a4 hσ, mp_a5 hσ, mp_a6 hσ, mp_a7 hσ, mp_a8 hσ, mp_a9 hσ, mp_a10 hσ, mp_a11 hσ, mp_s0 hσ, mp_s1 hσ, mp_s2 hσ, mp_s3 hσ, mp_s4 hσ, mp_s5 hσ, mp_s6 hσ, mp_s7 hσ, mp_s8 hσ, mp_s9 hσ, mp_s10 hσ, mp_s11 hσ, mg0, mg1, mg2, mg3, mg4, mg5, mg6, mg7, mg8, mg9, mg10, mg11, mg12, mg13, mg14, mg15, mg16, mg17, ms5, ms6, ms7, ms9, ms10, ms13, ms14, g_of hσ h hi, c, j_eq, r, mS_1, mS_I, mS_up]
    · rw [if_pos c]
      have hu : ∀ z, z ≠ 3 → upd f' 3 (f' 3 + nI 1) z = f' z := fun z hz => if_neg hz
      refine srow_mk hr.1 ?_ ?_ ?_ ?_ ?_ ?_
      · rw [hu _ (by omega)]; exact hr.2.1
      · rw [hu _ (by omega)]; exact hr.2.2.1
      · rw [hu _ (by omega)]; exact hr.2.2.2.1
      · show f' 3 + nI 1 = _
        rw [hr.2.2.2.2.1]
      · intro k y hy
        rw [hu _ (by omega)]; exact hr.num hy
      · intro k q hk
        rw [hu _ (by omega)]; exact hr.2.2.2.2.2.2 k q hk
  · refine ⟨M.2 1, mV_eq (mp_at (k := 0) hσ rfl) rfl rfl ?_, by rw [if_neg c]; exact h⟩
    unfold B_X9_breaks
    simp (disch := omega) only [x_k, x_i, x_r, x_nil, x_add, x_sub, x_mul, x_div, x_rem, x_get, x_getR, x_ald, x_aldR, x_len, x_lenR, x_if, xa_nil, xa_ci, xa_cr, x_callI, x_callR, x_new, x_newa, x_newq, x_max, x_min, xc_cmp, xc_cmp0, xc_null, xc_nn, xc_not, xc_and, xc_or, xc_if, xs_skip, xs_seq, xs_decI, xs_decR, xs_setI, xs_inc, xs_if, xs_blk, xs_retI, xs_retB, xs_retR, xs_retD, xs_ret0, xs_putI, xs_putZ, xs_putR, xs_putop, xs_ast, xs_astop, xs_astR, xs_callV, xs_callP, xs_super, xs_sw, s_go_inl, s_go_inr, s_cut_inl, s_cut_inr, o_void_n, v_i_int, v_i_none, v_r_ref, v_r_null, v_r_rf, h_set_some, o_some_s, zB_ne0, zB_ite, zB_ite2, g_Vn, g_Pi, nI_add, Option.bind_some, Option.map_some, Option.bind_none, Option.map_none, List.getElem?_cons_zero, List.getElem?_cons_succ, List.set_cons_zero, List.set_cons_succ, List.cons_append, List.nil_append, List.take_succ_cons, List.take_zero, List.length_cons, List.length_nil, Nat.zero_add, Nat.reduceAdd, Nat.reduceLT, if_true, if_false, Bool.false_eq_true, Bool.true_eq_false, decide_eq_true_eq, decide_true, decide_false, Bool.not_true, Bool.not_false, Option.isNone_none, Option.isNone_some, Option.isSome_none, Option.isSome_some, ite_true, ite_false, reduceIte, reduceCtorEq, and_true, true_and, eq_self, Option.some.injEq, Sum.inr.injEq, Sum.inl.injEq, Prod.mk.injEq, Bool.decide_eq_true, n0_ne, n1_ne, xz_ret, zb_if, n1_if, n0_if, v_rf, h_ix_nI, nI_clamp, zB_t, zB_f, uN_uN, uN_ap, Nat.reduceEqDiff, Nat.reduceMul, Nat.reduceSub, mp_o hσ, mF_len, mp_a1 hσ, mp_a2 hσ, mp_a3 hσ, mp_a4 hσ, mp_a5 hσ, mp_a6 hσ, mp_a7 hσ, mp_a8 hσ, mp_a9 hσ, mp_a10 hσ, mp_a11 hσ, mp_s0 hσ, mp_s1 hσ, mp_s2 hσ, mp_s3 hσ, mp_s4 hσ, mp_s5 hσ, mp_s6 hσ, mp_s7 hσ, mp_s8 hσ, mp_s9 hσ, mp_s10 hσ, mp_s11 hσ, mg0, mg1, mg2, mg3, mg4, mg5, mg6, mg7, mg8, mg9, mg10, mg11, mg12, mg13, mg14, mg15, mg16, mg17, ms5, ms6, ms7, ms9, ms10, ms13, ms14, g_of hσ h hi, c, j_eq, mS_self]
theorem g_shares (hσ : 72 ≤ σ.1.length) (h : SRow (M.2 1) S) {i : Nat} (hi : i + 1 < S.1.length) (hb : lcm2 (sN S i) (sN S (i + 1)) ≤ 9999) : ∃ f', M_X9_shares [.ref 60, .int (nI i)] (mp σ M) = some (some (.int (nI (Nat.gcd (sN S i) (sN S (i + 1))))), mp σ (mS M f')) ∧ SRow f' (shr S i) := by
  have hl := h.1.1
  have b1 := sN_ok h.1 i
  have b2 := sN_ok h.1 (i + 1)
  have h2 := gcd_pos (b := sN S (i + 1)) b1.1
  have h3 := gcd_le (b := sN S (i + 1)) b1.1
  have h5 := lcm2_pos b1.1 b2.1
  obtain ⟨gd, hgd⟩ : ∃ gd, gd = Nat.gcd (sN S i) (sN S (i + 1)) := ⟨_, rfl⟩
  obtain ⟨lc, hlc⟩ : ∃ lc, lc = lcm2 (sN S i) (sN S (i + 1)) := ⟨_, rfl⟩
  have dv : M_X9_divisor [.int (nI (sN S i)), .int (nI (sN S (i + 1)))] (mp σ M) = some (some (.int (nI gd)), mp σ M) := by rw [hgd]; exact g_divisor (by omega) (by omega)
  have ml := g_multiple hσ h hi
  rw [← hlc] at ml hb h5
  rw [← hgd] at h2 h3 ⊢
  obtain ⟨f, hf⟩ : ∃ f, f = M.2 1 := ⟨_, rfl⟩
  obtain ⟨f1, hf1⟩ : ∃ f1, f1 = upd f (4 + i) (nI gd) := ⟨_, rfl⟩
  obtain ⟨f2, hf2⟩ : ∃ f2, f2 = upd f1 (4 + i + 1) (nI lc) := ⟨_, rfl⟩
  have hu : ∀ z, z ≠ 4 + i → z ≠ 4 + i + 1 → f2 z = f z := fun z h1 h2 => by
    rw [hf2, hf1]
    show (if _ then _ else if _ then _ else f z) = f z
    rw [if_neg h2, if_neg h1]
  have u1 : f2 (4 + i) = nI gd := by
    rw [hf2, hf1]
    show (if 4 + i = 4 + i + 1 then _ else if 4 + i = 4 + i then _ else _) = _
    rw [if_neg (by omega), if_pos rfl]
  have hR : SRow f2 (shr S i) := by
    have hok : okS (shr S i) := by
      unfold shr
      rw [← hgd, ← hlc]
      exact okS.set (S := (S.1.set i gd, S.2)) (h.1.set (by omega) (by omega)) h5 hb
    rw [← hf] at h
    refine srow_mk hok ?_ ?_ ?_ ?_ ?_ ?_
    · rw [hu _ (by omega) (by omega)]; exact h.2.1
    · rw [hu _ (by omega) (by omega)]; exact h.2.2.1
    · rw [hu _ (by omega) (by omega), shr_len]; exact h.2.2.2.1
    · rw [hu _ (by omega) (by omega)]; exact h.2.2.2.2.1
    · intro k y hy
      have hy : ((S.1.set i (Nat.gcd (sN S i) (sN S (i + 1)))).set (i + 1) (lcm2 (sN S i) (sN S (i + 1))))[k]? = some y := hy
      rw [← hgd, ← hlc] at hy
      rcases getD_set hy with ⟨e1, e2⟩ | ⟨e1, e2⟩
      · rw [e1, e2, hf2]
        show (if 4 + (i + 1) = 4 + i + 1 then _ else _) = _
        rw [if_pos (by omega)]
      · rcases getD_set e2 with ⟨e3, e4⟩ | ⟨e3, e4⟩
        · rw [e3, e4]; exact u1
        · rw [hu _ (by omega) (by omega)]; exact h.num e4
    · intro k q hk
      rw [hu _ (by omega) (by omega)]; exact h.2.2.2.2.2.2 k q hk
  refine ⟨f2, mV_eq (mp_at (k := 0) hσ rfl) rfl rfl ?_, hR⟩
  have of2 : M_X9_of [.ref 60, .int (nI i)] (mp σ (mS M f2)) = some (some (.int (nI gd)), mp σ (mS M f2)) := by
    refine mV_eq (mp_at (k := 0) hσ rfl) rfl rfl ?_
    unfold B_X9_of
    simp (disch := omega) only [x_k, x_i, x_r, x_nil, x_add, x_sub, x_mul, x_div, x_rem, x_get, x_getR, x_ald, x_aldR, x_len, x_lenR, x_if, xa_nil, xa_ci, xa_cr, x_callI, x_callR, x_new, x_newa, x_newq, x_max, x_min, xc_cmp, xc_cmp0, xc_null, xc_nn, xc_not, xc_and, xc_or, xc_if, xs_skip, xs_seq, xs_decI, xs_decR, xs_setI, xs_inc, xs_if, xs_blk, xs_retI, xs_retB, xs_retR, xs_retD, xs_ret0, xs_putI, xs_putZ, xs_putR, xs_putop, xs_ast, xs_astop, xs_astR, xs_callV, xs_callP, xs_super, xs_sw, s_go_inl, s_go_inr, s_cut_inl, s_cut_inr, o_void_n, v_i_int, v_i_none, v_r_ref, v_r_null, v_r_rf, h_set_some, o_some_s, zB_ne0, zB_ite, zB_ite2, g_Vn, g_Pi, nI_add, Option.bind_some, Option.map_some, Option.bind_none, Option.map_none, List.getElem?_cons_zero, List.getElem?_cons_succ, List.set_cons_zero, List.set_cons_succ, List.cons_append, List.nil_append, List.take_succ_cons, List.take_zero, List.length_cons, List.length_nil, Nat.zero_add, Nat.reduceAdd, Nat.reduceLT, if_true, if_false, Bool.false_eq_true, Bool.true_eq_false, decide_eq_true_eq, decide_true, decide_false, Bool.not_true, Bool.not_false, Option.isNone_none, Option.isNone_some, Option.isSome_none, Option.isSome_some, ite_true, ite_false, reduceIte, reduceCtorEq, and_true, true_and, eq_self, Option.some.injEq, Sum.inr.injEq, Sum.inl.injEq, Prod.mk.injEq, Bool.decide_eq_true, n0_ne, n1_ne, xz_ret, zb_if, n1_if, n0_if, v_rf, h_ix_nI, nI_clamp, zB_t, zB_f, uN_uN, uN_ap, Nat.reduceEqDiff, Nat.reduceMul, Nat.reduceSub, mp_o hσ, mF_len, mp_a1 hσ, mp_a2 hσ, mp_a3 hσ, mp_a4 hσ, mp_a5 hσ, mp_a6 hσ, mp_a7 hσ, mp_a8 hσ, mp_a9 hσ, mp_a10 hσ, mp_a11 hσ, mp_s0 hσ, mp_s1 hσ, mp_s2 hσ, mp_s3 hσ, mp_s4 hσ, mp_s5 hσ, mp_s6 hσ, mp_s7 hσ, mp_s8 hσ, mp_s9 hσ, mp_s10 hσ, mp_s11 hσ, mg0, mg1, mg2, mg3, mg4, mg5, mg6, mg7, mg8, mg9, mg10, mg11, mg12, mg13, mg14, mg15, mg16, mg17, ms5, ms6, ms7, ms9, ms10, ms13, ms14, mS_1, mS_I, u1]
  unfold B_X9_shares
  simp (disch := omega) only [x_k, x_i, x_r, x_nil, x_add, x_sub, x_mul, x_div, x_rem, x_get, x_getR, x_ald, x_aldR, x_len, x_lenR, x_if, xa_nil, xa_ci, xa_cr, x_callI, x_callR, x_new, x_newa, x_newq, x_max, x_min, xc_cmp, xc_cmp0, xc_null, xc_nn, xc_not, xc_and, xc_or, xc_if, xs_skip, xs_seq, xs_decI, xs_decR, xs_setI, xs_inc, xs_if, xs_blk, xs_retI, xs_retB, xs_retR, xs_retD, xs_ret0, xs_putI, xs_putZ, xs_putR, xs_putop, xs_ast, xs_astop, xs_astR, xs_callV, xs_callP, xs_super, xs_sw, s_go_inl, s_go_inr, s_cut_inl, s_cut_inr, o_void_n, v_i_int, v_i_none, v_r_ref, v_r_null, v_r_rf, h_set_some, o_some_s, zB_ne0, zB_ite, zB_ite2, g_Vn, g_Pi, nI_add, Option.bind_some, Option.map_some, Option.bind_none, Option.map_none, List.getElem?_cons_zero, List.getElem?_cons_succ, List.set_cons_zero, List.set_cons_succ, List.cons_append, List.nil_append, List.take_succ_cons, List.take_zero, List.length_cons, List.length_nil, Nat.zero_add, Nat.reduceAdd, Nat.reduceLT, if_true, if_false, Bool.false_eq_true, Bool.true_eq_false, decide_eq_true_eq, decide_true, decide_false, Bool.not_true, Bool.not_false, Option.isNone_none, Option.isNone_some, Option.isSome_none, Option.isSome_some, ite_true, ite_false, reduceIte, reduceCtorEq, and_true, true_and, eq_self, Option.some.injEq, Sum.inr.injEq, Sum.inl.injEq, Prod.mk.injEq, Bool.decide_eq_true, n0_ne, n1_ne, xz_ret, zb_if, n1_if, n0_if, v_rf, h_ix_nI, nI_clamp, zB_t, zB_f, uN_uN, uN_ap, Nat.reduceEqDiff, Nat.reduceMul, Nat.reduceSub, mp_o hσ, mF_len, mp_a1 hσ, mp_a2 hσ, mp_a3 hσ, mp_a4 hσ, mp_a5 hσ, mp_a6 hσ, mp_a7 hσ, mp_a8 hσ, mp_a9 hσ, mp_a10 hσ, mp_a11 hσ, mp_s0 hσ, mp_s1 hσ, mp_s2 hσ, mp_s3 hσ, mp_s4 hσ, mp_s5 hσ, mp_s6 hσ, mp_s7 hσ, mp_s8 hσ, mp_s9 hσ, mp_s10 hσ, mp_s11 hσ, mg0, mg1, mg2, mg3, mg4, mg5, mg6, mg7, mg8, mg9, mg10, mg11, mg12, mg13, mg14, mg15, mg16, mg17, ms5, ms6, ms7, ms9, ms10, ms13, ms14, ml, g_of hσ h (show i < S.1.length by omega), g_of hσ h hi, dv, ← hf, ← hf1, mS_up2, mS_1, mS_I, mS_up, ← hf2, of2]
/-- a step divided, ahead of breaking -/
def splS (S : tS) (i d : Nat) : tS := (S.1.set i (sN S i / d), S.2.1, S.2.2.1, S.2.2.2.1, fun q => sCh S q + nI (ex q d))
theorem spl_end {S : tS} {i d : Nat} {g : Nat → Int32} (hi : i < S.1.length) (hd : 1 ≤ d) (hdv : sN S i % d = 0) (hb : 1 ≤ sN S i ∧ sN S i ≤ 9999) (h0 : okS S) (h1 : g 0 = nI S.2.1) (h2 : g 1 = nI S.2.2.1) (h3 : g 2 = nI S.1.length) (h4 : g 3 = S.2.2.2.1) (h5 : ∀ j x, (S.1.set i (sN S i / d))[j]? = some x → g (4 + j) = nI x) (h6 : ∀ k q, PRS[k]? = some q → g (16 + k) = sCh S q + nI (ex q d)) : SRow g (splS S i d) := by
  have q1 := dvd_pos hb.1 hdv
  have q2 := Nat.div_le_self (sN S i) d
  have ok1 : okS (S.1.set i (sN S i / d), S.2) := h0.set (by omega) (by omega)
  exact srow_mk ok1 h1 h2 (by rw [h3]; show _ = nI (S.1.set i _).length; rw [List.length_set]) h4 h5 h6
theorem g_strikes (hσ : 72 ≤ σ.1.length) (hp : PRow (M.2 5)) (h : SRow (M.2 1) S) {i q : Nat} (hi : i < S.1.length) (hq : isPr q) (hq9 : q ≤ 9999) (hdv : sN S i % q = 0) : ∃ f', M_X9_strikes [.ref 60, .int (nI i), .int (nI q)] (mp σ M) = some (some (.int (nI (sN S i / q))), mp σ (mS M f')) ∧ SRow f' (spl S i q) := by
  have hl := h.1.1
  have b1 := sN_ok h.1 i
  have q2 := hq.1
  obtain ⟨k, hk⟩ := List.getElem?_of_mem (mem_PRS.mpr ⟨hq, hq9⟩)
  have hk9 := PRS_9 hk
  obtain ⟨f, hf⟩ : ∃ f, f = M.2 1 := ⟨_, rfl⟩
  obtain ⟨f1, hf1⟩ : ∃ f1, f1 = upd f (4 + i) (nI (sN S i / q)) := ⟨_, rfl⟩
  obtain ⟨f2, hf2⟩ : ∃ f2, f2 = upd f1 (16 + k) (f1 (16 + k) + nI 1) := ⟨_, rfl⟩
  have hu : ∀ z, z ≠ 4 + i → z ≠ 16 + k → f2 z = f z := fun z h1 h2 => by
    rw [hf2, hf1]
    show (if _ then _ else if _ then _ else f z) = f z
    rw [if_neg h2, if_neg h1]
  have u1 : f2 (4 + i) = nI (sN S i / q) := by
    rw [hf2, hf1]
    show (if 4 + i = 16 + k then _ else if 4 + i = 4 + i then _ else _) = _
    rw [if_neg (by omega), if_pos rfl]
  have u2 : f2 (16 + k) = f (16 + k) + nI 1 := by
    rw [hf2]
    show (if 16 + k = 16 + k then f1 (16 + k) + nI 1 else _) = _
    rw [if_pos rfl, hf1]
    show (if 16 + k = 4 + i then _ else f (16 + k)) + _ = _
    rw [if_neg (by omega)]
  have h' := h
  rw [← hf] at h
  have hR : SRow f2 (splS S i q) := by
    refine spl_end hi (by omega) hdv b1 h.1 ?_ ?_ ?_ ?_ ?_ ?_
    · rw [hu _ (by omega) (by omega)]; exact h.2.1
    · rw [hu _ (by omega) (by omega)]; exact h.2.2.1
    · rw [hu _ (by omega) (by omega)]; exact h.2.2.2.1
    · rw [hu _ (by omega) (by omega)]; exact h.2.2.2.2.1
    · intro j x hx
      have hj := (List.getElem?_eq_some_iff.mp hx).1
      rw [List.length_set] at hj
      rcases getD_set hx with ⟨e1, e2⟩ | ⟨e1, e2⟩
      · rw [e1, e2]; exact u1
      · rw [hu _ (by omega) (by omega)]; exact h.num e2
    · intro j z hz
      rw [ex_pr (PRS_9 hz).1 hq]
      by_cases e : j = k
      · subst e
        rw [hk] at hz
        cases hz
        rw [u2, if_pos rfl, h.2.2.2.2.2.2 j _ hk]
      · rw [hu _ (by omega) (by omega), if_neg ?_, nI_z]
        · exact h.2.2.2.2.2.2 j _ hz
        · intro e2
          subst e2
          rcases Nat.lt_trichotomy j k with w | w | w
          · have := PRS_lt hz hk w; omega
          · exact e w
          · have := PRS_lt hk hz w; omega
  have hRi : i < (splS S i q).1.length := by show i < (S.1.set i _).length; rw [List.length_set]; exact hi
  have eN : sN (splS S i q) i = sN S i / q := by
    have := sN_in hRi
    rw [show (splS S i q).1[i]? = some (sN S i / q) from List.getElem?_set_self hi] at this
    exact (Option.some.inj this).symm
  obtain ⟨f', r, hr⟩ := g_breaks (M := mS M f2) hσ hR hRi
  refine ⟨f', mV_eq (mp_at (k := 0) hσ rfl) rfl rfl ?_, ?_⟩
  · rw [mS_mS] at r
    have rk : ∀ g, M_X9_rank [.ref 60, .int (nI q)] (mp σ (mS M g)) = some (some (.int (nI k)), mp σ (mS M g)) := fun g => g_rank (M := mS M g) hσ hp hk
    unfold B_X9_strikes
    simp (disch := omega) only [x_k, x_i, x_r, x_nil, x_add, x_sub, x_mul, x_div, x_rem, x_get, x_getR, x_ald, x_aldR, x_len, x_lenR, x_if, xa_nil, xa_ci, xa_cr, x_callI, x_callR, x_new, x_newa, x_newq, x_max, x_min, xc_cmp, xc_cmp0, xc_null, xc_nn, xc_not, xc_and, xc_or, xc_if, xs_skip, xs_seq, xs_decI, xs_decR, xs_setI, xs_inc, xs_if, xs_blk, xs_retI, xs_retB, xs_retR, xs_retD, xs_ret0, xs_putI, xs_putZ, xs_putR, xs_putop, xs_ast, xs_astop, xs_astR, xs_callV, xs_callP, xs_super, xs_sw, s_go_inl, s_go_inr, s_cut_inl, s_cut_inr, o_void_n, v_i_int, v_i_none, v_r_ref, v_r_null, v_r_rf, h_set_some, o_some_s, zB_ne0, zB_ite, zB_ite2, g_Vn, g_Pi, nI_add, Option.bind_some, Option.map_some, Option.bind_none, Option.map_none, List.getElem?_cons_zero, List.getElem?_cons_succ, List.set_cons_zero, List.set_cons_succ, List.cons_append, List.nil_append, List.take_succ_cons, List.take_zero, List.length_cons, List.length_nil, Nat.zero_add, Nat.reduceAdd, Nat.reduceLT, if_true, if_false, Bool.false_eq_true, Bool.true_eq_false, decide_eq_true_eq, decide_true, decide_false, Bool.not_true, Bool.not_false, Option.isNone_none, Option.isNone_some, Option.isSome_none, Option.isSome_some, ite_true, ite_false, reduceIte, reduceCtorEq, and_true, true_and, eq_self, Option.some.injEq, Sum.inr.injEq, Sum.inl.injEq, Prod.mk.injEq, Bool.decide_eq_true, n0_ne, n1_ne, xz_ret, zb_if, n1_if, n0_if, v_rf, h_ix_nI, nI_clamp, zB_t, zB_f, uN_uN, uN_ap, Nat.reduceEqDiff, Nat.reduceMul, Nat.reduceSub, mp_o hσ, mF_len, mp_a1 hσ, mp_a2 hσ, mp_a3 hσ, mp_a4 hσ, mp_a5 hσ, mp_a6 hσ, mp_a7 hσ, mp_a8 hσ, mp_a9 hσ, mp_a10 hσ, mp_a11 hσ, mp_s0 hσ, mp_s1 hσ, mp_s2 hσ, mp_s3 hσ, mp_s4 hσ, mp_s5 hσ, mp_s6 hσ, mp_s7 hσ, mp_s8 hσ, mp_s9 hσ, mp_s10 hσ, mp_s11 hσ, mg0, mg1, mg2, mg3, mg4, mg5, mg6, mg7, mg8, mg9, mg10, mg11, mg12, mg13, mg14, mg15, mg16, mg17, ms5, ms6, ms7, ms9, ms10, ms13, ms14, g_of hσ h' hi, j_div, ← hf, ← hf1, mS_up2, mS_1, mS_I, mS_up, rk, ← hf2, r]
  · rw [eN] at hr
    unfold spl
    by_cases c : sN S i / q = 1
    · rw [if_pos c] at hr ⊢
      have : (splS S i q).1.eraseIdx i = S.1.eraseIdx i := erase_set
      rw [this] at hr
      exact hr
    · rw [if_neg c] at hr ⊢
      exact hr
theorem g_divides (hσ : 72 ≤ σ.1.length) (hp : PRow (M.2 5)) (h : SRow (M.2 1) S) {i : Nat} (hi : i + 1 < S.1.length) (hdv : sN S (i + 1) % sN S i = 0) : ∃ f', M_X9_divides [.ref 60, .int (nI i)] (mp σ M) = some (some (.int (nI (sN S (i + 1) / sN S i))), mp σ (mS M f')) ∧ SRow f' (spl S (i + 1) (sN S i)) := by
  have hl := h.1.1
  have b1 := sN_ok h.1 i
  have b2 := sN_ok h.1 (i + 1)
  obtain ⟨d, hd⟩ : ∃ d, d = sN S i := ⟨_, rfl⟩
  obtain ⟨qu, hqu⟩ : ∃ qu, qu = sN S (i + 1) / sN S i := ⟨_, rfl⟩
  obtain ⟨f, hf⟩ : ∃ f, f = M.2 1 := ⟨_, rfl⟩
  have key : ∀ (t y : Nat) (g : Nat → Int32), y ≤ t → 1 ≤ y → y ≤ 9999 → (∀ z, z < 16 → g z = f z) → (∀ k q, PRS[k]? = some q → g (16 + k) + nI (ex q y) = f (16 + k) + nI (ex q d)) → ∀ F, t < F →
      ∃ g', s_wh C_X9_divides_1 W_X9_divides_1 F [.ref 60, .int (nI i), .int (nI y), .int (nI qu)] (mp σ (mS M g)) = some (.inr ([.ref 60, .int (nI i), .int (nI 1), .int (nI qu)], mp σ (mS M g'))) ∧ (∀ z, z < 16 → g' z = f z) ∧ (∀ k q, PRS[k]? = some q → g' (16 + k) = f (16 + k) + nI (ex q d)) := by
    intro t
    induction t with
    | zero => intro y g hy hy1; omega
    | succ t ih =>
      intro y g hy hy1 hy9 hg1 hg2 F hF
      obtain ⟨F, rfl⟩ : ∃ F', F = F' + 1 := ⟨F - 1, by omega⟩
      by_cases h0 : 2 ≤ y
      · obtain ⟨p1, p2, p3, p4⟩ := fac_pos hy1 h0
        have hlp := lp_pr h0
        obtain ⟨r, hr⟩ := List.getElem?_of_mem (mem_PRS.mpr ⟨hlp, by omega⟩)
        have hr9 := PRS_9 hr
        have rk : M_X9_rank [.ref 60, .int (nI (lp y))] (mp σ (mS M g)) = some (some (.int (nI r)), mp σ (mS M g)) := g_rank (M := mS M g) hσ hp hr
        have hC : C_X9_divides_1 [.ref 60, .int (nI i), .int (nI y), .int (nI qu)] (mp σ (mS M g)) = some (true, mp σ (mS M g)) := by
          simp (disch := omega) only [x_k, x_i, x_r, x_nil, x_add, x_sub, x_mul, x_div, x_rem, x_get, x_getR, x_ald, x_aldR, x_len, x_lenR, x_if, xa_nil, xa_ci, xa_cr, x_callI, x_callR, x_new, x_newa, x_newq, x_max, x_min, xc_cmp, xc_cmp0, xc_null, xc_nn, xc_not, xc_and, xc_or, xc_if, xs_skip, xs_seq, xs_decI, xs_decR, xs_setI, xs_inc, xs_if, xs_blk, xs_retI, xs_retB, xs_retR, xs_retD, xs_ret0, xs_putI, xs_putZ, xs_putR, xs_putop, xs_ast, xs_astop, xs_astR, xs_callV, xs_callP, xs_super, xs_sw, s_go_inl, s_go_inr, s_cut_inl, s_cut_inr, o_void_n, v_i_int, v_i_none, v_r_ref, v_r_null, v_r_rf, h_set_some, o_some_s, zB_ne0, zB_ite, zB_ite2, g_Vn, g_Pi, nI_add, Option.bind_some, Option.map_some, Option.bind_none, Option.map_none, List.getElem?_cons_zero, List.getElem?_cons_succ, List.set_cons_zero, List.set_cons_succ, List.cons_append, List.nil_append, List.take_succ_cons, List.take_zero, List.length_cons, List.length_nil, Nat.zero_add, Nat.reduceAdd, Nat.reduceLT, if_true, if_false, Bool.false_eq_true, Bool.true_eq_false, decide_eq_true_eq, decide_true, decide_false, Bool.not_true, Bool.not_false, Option.isNone_none, Option.isNone_some, Option.isSome_none, Option.isSome_some, ite_true, ite_false, reduceIte, reduceCtorEq, and_true, true_and, eq_self, Option.some.injEq, Sum.inr.injEq, Sum.inl.injEq, Prod.mk.injEq, j_gt, show 1 < y by omega]
        have hS : W_X9_divides_1 [.ref 60, .int (nI i), .int (nI y), .int (nI qu)] (mp σ (mS M g)) = some (.inr ([.ref 60, .int (nI i), .int (nI (y / lp y)), .int (nI qu)], mp σ (mS M (upd g (16 + r) (g (16 + r) + nI 1))))) := by
          simp (disch := omega) only [x_k, x_i, x_r, x_nil, x_add, x_sub, x_mul, x_div, x_rem, x_get, x_getR, x_ald, x_aldR, x_len, x_lenR, x_if, xa_nil, xa_ci, xa_cr, x_callI, x_callR, x_new, x_newa, x_newq, x_max, x_min, xc_cmp, xc_cmp0, xc_null, xc_nn, xc_not, xc_and, xc_or, xc_if, xs_skip, xs_seq, xs_decI, xs_decR, xs_setI, xs_inc, xs_if, xs_blk, xs_retI, xs_retB, xs_retR, xs_retD, xs_ret0, xs_putI, xs_putZ, xs_putR, xs_putop, xs_ast, xs_astop, xs_astR, xs_callV, xs_callP, xs_super, xs_sw, s_go_inl, s_go_inr, s_cut_inl, s_cut_inr, o_void_n, v_i_int, v_i_none, v_r_ref, v_r_null, v_r_rf, h_set_some, o_some_s, zB_ne0, zB_ite, zB_ite2, g_Vn, g_Pi, nI_add, Option.bind_some, Option.map_some, Option.bind_none, Option.map_none, List.getElem?_cons_zero, List.getElem?_cons_succ, List.set_cons_zero, List.set_cons_succ, List.cons_append, List.nil_append, List.take_succ_cons, List.take_zero, List.length_cons, List.length_nil, Nat.zero_add, Nat.reduceAdd, Nat.reduceLT, if_true, if_false, Bool.false_eq_true, Bool.true_eq_false, decide_eq_true_eq, decide_true, decide_false, Bool.not_true, Bool.not_false, Option.isNone_none, Option.isNone_some, Option.isSome_none, Option.isSome_some, ite_true, ite_false, reduceIte, reduceCtorEq, and_true, true_and, eq_self, Option.some.injEq, Sum.inr.injEq, Sum.inl.injEq, Prod.mk.injEq, Bool.decide_eq_true, n0_ne, n1_ne, xz_ret, zb_if, n1_if, n0_if, v_rf, h_ix_nI, nI_clamp, zB_t, zB_f, uN_uN, uN_ap, Nat.reduceEqDiff, Nat.reduceMul, Nat.reduceSub, mp_o hσ, mF_len, mp_a1 hσ, mp_a2 hσ, mp_a3 hσ, mp_a4 hσ, mp_a5 hσ, mp_a6 hσ, mp_a7 hσ, mp_a8 hσ, mp_a9 hσ, mp_a10 hσ, mp_a11 hσ, mp_s0 hσ, mp_s1 hσ, mp_s2 hσ, mp_s3 hσ, mp_s4 hσ, mp_s5 hσ, mp_s6 hσ, mp_s7 hσ, mp_s8 hσ, mp_s9 hσ, mp_s10 hσ, mp_s11 hσ, mg0, mg1, mg2, mg3, mg4, mg5, mg6, mg7, mg8, mg9, mg10, mg11, mg12, mg13, mg14, mg15, mg16, mg17, ms5, ms6, ms7, ms9, ms10, ms13, ms14, g_leastFactor, rk, mS_1, mS_I, mS_up, j_div]
        have ey : lp y * (y / lp y) = y := Nat.mul_div_cancel' (lp_spec h0).1
        obtain ⟨g', w1, w2, w3⟩ := ih (y / lp y) (upd g (16 + r) (g (16 + r) + nI 1)) (by omega) p1 (by omega) (fun z hz => (if_neg (by omega)).trans (hg1 z hz)) (fun k q hk => by
          have hq := PRS_9 hk
          by_cases e : k = r
          · subst e
            rw [hr] at hk
            cases hk
            rw [← hg2 k _ hr]
            show (if 16 + k = 16 + k then _ else _) + _ = _
            rw [if_pos rfl]
            have : ex (lp y) y = ex (lp y) (y / lp y) + 1 := by
              have := ex_mulS hlp.1 p1
              rw [ey] at this
              exact this
            rw [this, ← nI_add, Int32.add_assoc, Int32.add_comm (nI 1)]
          · rw [← hg2 k _ hk]
            show (if 16 + k = 16 + r then _ else _) + _ = _
            rw [if_neg (by omega)]
            have hne : lp y ≠ q := by
              intro e2
              subst e2
              rcases Nat.lt_trichotomy k r with w | w | w
              · have := PRS_lt hk hr w; omega
              · exact e w
              · have := PRS_lt hr hk w; omega
            have := ex_mulO hlp hq.1 hne (y / lp y) (y / lp y) (Nat.le_refl _) p1
            rw [ey] at this
            rw [this]) F (by omega)
        exact ⟨g', (wh_T hC hS).trans w1, w2, w3⟩
      · have : y = 1 := by omega
        subst this
        refine ⟨g, wh_F ?_, hg1, fun k q hk => ?_⟩
        · simp (disch := omega) only [x_k, x_i, x_r, x_nil, x_add, x_sub, x_mul, x_div, x_rem, x_get, x_getR, x_ald, x_aldR, x_len, x_lenR, x_if, xa_nil, xa_ci, xa_cr, x_callI, x_callR, x_new, x_newa, x_newq, x_max, x_min, xc_cmp, xc_cmp0, xc_null, xc_nn, xc_not, xc_and, xc_or, xc_if, xs_skip, xs_seq, xs_decI, xs_decR, xs_setI, xs_inc, xs_if, xs_blk, xs_retI, xs_retB, xs_retR, xs_retD, xs_ret0, xs_putI, xs_putZ, xs_putR, xs_putop, xs_ast, xs_astop, xs_astR, xs_callV, xs_callP, xs_super, xs_sw, s_go_inl, s_go_inr, s_cut_inl, s_cut_inr, o_void_n, v_i_int, v_i_none, v_r_ref, v_r_null, v_r_rf, h_set_some, o_some_s, zB_ne0, zB_ite, zB_ite2, g_Vn, g_Pi, nI_add, Option.bind_some, Option.map_some, Option.bind_none, Option.map_none, List.getElem?_cons_zero, List.getElem?_cons_succ, List.set_cons_zero, List.set_cons_succ, List.cons_append, List.nil_append, List.take_succ_cons, List.take_zero, List.length_cons, List.length_nil, Nat.zero_add, Nat.reduceAdd, Nat.reduceLT, if_true, if_false, Bool.false_eq_true, Bool.true_eq_false, decide_eq_true_eq, decide_true, decide_false, Bool.not_true, Bool.not_false, Option.isNone_none, Option.isNone_some, Option.isSome_none, Option.isSome_some, ite_true, ite_false, reduceIte, reduceCtorEq, and_true, true_and, eq_self, Option.some.injEq, Sum.inr.injEq, Sum.inl.injEq, Prod.mk.injEq, j_gt, Nat.lt_irrefl]
        · have := hg2 k q hk
          rw [ex_1, nI_z] at this
          exact this
  obtain ⟨g, w1, w2, w3⟩ := key (sN S i) (sN S i) f (Nat.le_refl _) b1.1 b1.2 (fun _ _ => rfl) (fun k q _ => by rw [hd]) s_FUEL (by unfold s_FUEL; omega)
  have hw : s_while C_X9_divides_1 W_X9_divides_1 [.ref 60, .int (nI i), .int (nI (sN S i)), .int (nI qu)] (mp σ M) = some (.inr ([.ref 60, .int (nI i), .int (nI 1), .int (nI qu)], mp σ (mS M g))) := by
    have : mp σ (mS M f) = mp σ M := by rw [hf, mS_self]
    rw [this] at w1
    exact w1
  obtain ⟨f2, hf2⟩ : ∃ f2, f2 = upd g (4 + i + 1) (nI qu) := ⟨_, rfl⟩
  have h' := h
  rw [← hf] at h
  have hu : ∀ z, z ≠ 4 + i + 1 → f2 z = g z := fun z h1 => by rw [hf2]; exact if_neg h1
  have hR : SRow f2 (splS S (i + 1) d) := by
    refine spl_end hi (by omega) (by rw [hd]; exact hdv) b2 h.1 ?_ ?_ ?_ ?_ ?_ ?_
    · rw [hu _ (by omega), w2 _ (by omega)]; exact h.2.1
    · rw [hu _ (by omega), w2 _ (by omega)]; exact h.2.2.1
    · rw [hu _ (by omega), w2 _ (by omega)]; exact h.2.2.2.1
    · rw [hu _ (by omega), w2 _ (by omega)]; exact h.2.2.2.2.1
    · intro j x hx
      have hj := (List.getElem?_eq_some_iff.mp hx).1
      rw [List.length_set] at hj
      rcases getD_set hx with ⟨e1, e2⟩ | ⟨e1, e2⟩
      · rw [e1, e2, hf2, hd, ← hqu]
        show (if 4 + (i + 1) = 4 + i + 1 then _ else _) = _
        rw [if_pos (by omega)]
      · rw [hu _ (by omega), w2 _ (by omega)]; exact h.num e2
    · intro j z hz
      rw [hu _ (by omega), w3 j z hz, h.2.2.2.2.2.2 j z hz]
  have hRi : i + 1 < (splS S (i + 1) d).1.length := by show i + 1 < (S.1.set _ _).length; rw [List.length_set]; exact hi
  have eN : sN (splS S (i + 1) d) (i + 1) = sN S (i + 1) / d := by
    have := sN_in hRi
    rw [show (splS S (i + 1) d).1[i + 1]? = some (sN S (i + 1) / d) from List.getElem?_set_self hi] at this
    exact (Option.some.inj this).symm
  obtain ⟨f', r, hr⟩ := g_breaks (M := mS M f2) hσ hR hRi
  refine ⟨f', mV_eq (mp_at (k := 0) hσ rfl) rfl rfl ?_, ?_⟩
  · rw [mS_mS] at r
    unfold B_X9_divides
    simp (disch := omega) only [x_k, x_i, x_r, x_nil, x_add, x_sub, x_mul, x_div, x_rem, x_get, x_getR, x_ald, x_aldR, x_len, x_lenR, x_if, xa_nil, xa_ci, xa_cr, x_callI, x_callR, x_new, x_newa, x_newq, x_max, x_min, xc_cmp, xc_cmp0, xc_null, xc_nn, xc_not, xc_and, xc_or, xc_if, xs_skip, xs_seq, xs_decI, xs_decR, xs_setI, xs_inc, xs_if, xs_blk, xs_retI, xs_retB, xs_retR, xs_retD, xs_ret0, xs_putI, xs_putZ, xs_putR, xs_putop, xs_ast, xs_astop, xs_astR, xs_callV, xs_callP, xs_super, xs_sw, s_go_inl, s_go_inr, s_cut_inl, s_cut_inr, o_void_n, v_i_int, v_i_none, v_r_ref, v_r_null, v_r_rf, h_set_some, o_some_s, zB_ne0, zB_ite, zB_ite2, g_Vn, g_Pi, nI_add, Option.bind_some, Option.map_some, Option.bind_none, Option.map_none, List.getElem?_cons_zero, List.getElem?_cons_succ, List.set_cons_zero, List.set_cons_succ, List.cons_append, List.nil_append, List.take_succ_cons, List.take_zero, List.length_cons, List.length_nil, Nat.zero_add, Nat.reduceAdd, Nat.reduceLT, if_true, if_false, Bool.false_eq_true, Bool.true_eq_false, decide_eq_true_eq, decide_true, decide_false, Bool.not_true, Bool.not_false, Option.isNone_none, Option.isNone_some, Option.isSome_none, Option.isSome_some, ite_true, ite_false, reduceIte, reduceCtorEq, and_true, true_and, eq_self, Option.some.injEq, Sum.inr.injEq, Sum.inl.injEq, Prod.mk.injEq, Bool.decide_eq_true, n0_ne, n1_ne, xz_ret, zb_if, n1_if, n0_if, v_rf, h_ix_nI, nI_clamp, zB_t, zB_f, uN_uN, uN_ap, Nat.reduceEqDiff, Nat.reduceMul, Nat.reduceSub, mp_o hσ, mF_len, mp_a1 hσ, mp_a2 hσ, mp_a3 hσ, mp_a4 hσ, mp_a5 hσ, mp_a6 hσ, mp_a7 hσ, mp_a8 hσ, mp_a9 hσ, mp_a10 hσ, mp_a11 hσ, mp_s0 hσ, mp_s1 hσ, mp_s2 hσ, mp_s3 hσ, mp_s4 hσ, mp_s5 hσ, mp_s6 hσ, mp_s7 hσ, mp_s8 hσ, mp_s9 hσ, mp_s10 hσ, mp_s11 hσ, mg0, mg1, mg2, mg3, mg4, mg5, mg6, mg7, mg8, mg9, mg10, mg11, mg12, mg13, mg14, mg15, mg16, mg17, ms5, ms6, ms7, ms9, ms10, ms13, ms14, g_of hσ h' hi, g_of hσ h' (show i < S.1.length by omega), j_div, ← hqu, hw, mS_1, mS_I, mS_up, ← hf2, r]
  · rw [eN] at hr
    unfold spl
    rw [← hd]
    by_cases c : sN S (i + 1) / d = 1
    · rw [if_pos c] at hr ⊢
      have : (splS S (i + 1) d).1.eraseIdx (i + 1) = S.1.eraseIdx (i + 1) := erase_set
      rw [this] at hr
      exact hr
    · rw [if_neg c] at hr ⊢
      exact hr
end
