/-! Stairs' deeds (own work): to put a number in -/
theorem EffS.before {σ σ1 σ2 : sSt} {a p c p' c' : Nat} (m : Keep σ σ1 (fun k => k = a ∨ k = a + 1)) (l : σ1.1.length = σ.1.length) (n : σ1.2 = σ.2) (h : EffS σ1 σ2 a p c p' c') : EffS σ σ2 a p c p' c' := by
  obtain ⟨h1, h2, h3, h4, h5, h6⟩ := h
  exact ⟨(m.mono (fun i _ e => e.elim Or.inl (fun z => Or.inr (Or.inl z)))).tr h1 (fun _ _ e => e), by rw [← l]; exact h2, h3, by omega, by omega, h6⟩
section
variable {σ : sSt} {a p c : Nat} {S : tS}
theorem st_book2 (ho : StO σ a S) {ps : List Nat} {ch cm : Nat → Int32} (hA : AccAt σ (a + 2) p c ps ch cm) (hk : okA ps ch cm) (hd : p + 3 ≤ a ∨ a + 3 ≤ p) {n : Nat} (dc dm : Int32) (h1n : 1 ≤ n) (hn : n ≤ 9999) :
    ∃ σ' p' c' ps', M_X0_book [.ref (a + 2), .int (nI n), .int dc, .int dm] σ = some (none, σ') ∧ StO σ' a S ∧ AccAt σ' (a + 2) p' c' ps' (bkL dc (fac n) ch) (bkL dm (fac n) cm) ∧ okA ps' (bkL dc (fac n) ch) (bkL dm (fac n) cm) ∧ EffS σ σ' a p c p' c' ∧ (p' + 3 ≤ a ∨ a + 3 ≤ p') := by
  obtain ⟨σ', p', c', ps', r, hA', hk', he⟩ := f_book hA hk dc dm h1n hn
  obtain ⟨k1, k2, k3, k4, k5, k6⟩ := he
  have hlb : a + 2 < σ.1.length := (List.getElem?_eq_some_iff.mp hA.1).1
  have g : ∀ {i : Nat} {x : sAC}, σ.1[i]? = some x → ¬ (i = a + 2 ∨ (p ≤ i ∧ i < p + 3)) → σ'.1[i]? = some x := fun hi hn => (k1.2 _ (List.getElem?_eq_some_iff.mp hi).1 hn).trans hi
  obtain ⟨h0, o1, f, o2, o3⟩ := ho
  refine ⟨σ', p', c', ps', r, ⟨h0, g o1 (by omega), f, g o2 (by omega), o3⟩, hA', hk', ⟨k1.mono (fun i _ e => e.elim (fun z => Or.inr (Or.inr (Or.inl z))) (fun z => Or.inr (Or.inr (Or.inr z)))), k2, k3, k4, k5, k6⟩, ?_⟩
  rcases k2 with e | e
  · omega
  · omega
theorem okS.ins {S : tS} (h : okS S) {i x : Nat} (hi : i ≤ S.1.length) (hl : S.1.length < 12) (h1 : 1 ≤ x) (h2 : x ≤ 9999) : okS (S.1.insertIdx i x, S.2) := by
  refine ⟨by show (S.1.insertIdx i x).length ≤ 12; rw [List.length_insertIdx, if_pos hi]; omega, fun y hy => ?_, h.2.2⟩
  rcases (List.mem_insertIdx hi).mp hy with q | q
  · rw [q]; exact ⟨h1, h2⟩
  · exact h.2.1 y q
theorem f_putNo (h : StO σ a S) {i x : Nat} (hi : i < 2 ^ 31) (hx : x < 2 ^ 31) (hn : ¬ (i ≤ S.1.length ∧ 1 ≤ x ∧ x ≤ 9999)) : M_X6_putIn [.ref a, .int (nI i), .int (nI x)] σ = some (some (.int (-1)), σ) := by
  have hl := h.1.1
  refine mV_eq h.2.1 rfl rfl ?_
  unfold B_X6_putIn
  by_cases c : S.1.length < i
  · simp only [x_and, x_or, x_shl, x_shr, x_k, x_i, x_r, x_nil, x_add, x_sub, x_mul, x_div, x_rem, x_get, x_getR, x_ald, x_aldR, x_len, x_lenR, x_if, xa_nil, xa_ci, xa_cr, x_callI, x_callR, x_new, x_newa, x_newq, x_max, x_min, xc_cmp, xc_cmp0, xc_null, xc_nn, xc_not, xc_and, xc_or, xc_if, xs_skip, xs_seq, xs_decI, xs_decR, xs_setI, xs_inc, xs_if, xs_blk, xs_retI, xs_retB, xs_retR, xs_retD, xs_ret0, xs_putI, xs_putZ, xs_putR, xs_putop, xs_ast, xs_astop, xs_astR, xs_callV, xs_callP, xs_super, xs_sw, s_go_inl, s_go_inr, s_cut_inl, s_cut_inr, o_void_n, v_i_int, v_i_none, v_r_ref, v_r_null, v_r_rf, h_set_some, o_some_s, zB_ne0, zB_ite, zB_ite2, g_Vn, g_Pi, nI_add, Option.bind_some, Option.map_some, Option.bind_none, Option.map_none, List.getElem?_cons_zero, List.getElem?_cons_succ, List.set_cons_zero, List.set_cons_succ, List.cons_append, List.nil_append, List.take_succ_cons, List.take_zero, List.length_cons, List.length_nil, Nat.zero_add, Nat.reduceAdd, Nat.reduceLT, if_true, if_false, Bool.false_eq_true, Bool.true_eq_false, decide_eq_true_eq, decide_true, decide_false, Bool.not_true, Bool.not_false, Option.isNone_none, Option.isNone_some, Option.isSome_none, Option.isSome_some, ite_true, ite_false, reduceIte, reduceCtorEq, and_true, true_and, eq_self, Option.some.injEq, Sum.inr.injEq, Sum.inl.injEq, Prod.mk.injEq, j_lt0 hi, h_obj_eq h.2.1, j_gt hi (show S.1.length < 2 ^ 31 by omega), c]
  · have d : ¬ (1 ≤ x ∧ x ≤ 9999) := fun e => hn ⟨by omega, e⟩
    simp only [x_and, x_or, x_shl, x_shr, x_k, x_i, x_r, x_nil, x_add, x_sub, x_mul, x_div, x_rem, x_get, x_getR, x_ald, x_aldR, x_len, x_lenR, x_if, xa_nil, xa_ci, xa_cr, x_callI, x_callR, x_new, x_newa, x_newq, x_max, x_min, xc_cmp, xc_cmp0, xc_null, xc_nn, xc_not, xc_and, xc_or, xc_if, xs_skip, xs_seq, xs_decI, xs_decR, xs_setI, xs_inc, xs_if, xs_blk, xs_retI, xs_retB, xs_retR, xs_retD, xs_ret0, xs_putI, xs_putZ, xs_putR, xs_putop, xs_ast, xs_astop, xs_astR, xs_callV, xs_callP, xs_super, xs_sw, s_go_inl, s_go_inr, s_cut_inl, s_cut_inr, o_void_n, v_i_int, v_i_none, v_r_ref, v_r_null, v_r_rf, h_set_some, o_some_s, zB_ne0, zB_ite, zB_ite2, g_Vn, g_Pi, nI_add, Option.bind_some, Option.map_some, Option.bind_none, Option.map_none, List.getElem?_cons_zero, List.getElem?_cons_succ, List.set_cons_zero, List.set_cons_succ, List.cons_append, List.nil_append, List.take_succ_cons, List.take_zero, List.length_cons, List.length_nil, Nat.zero_add, Nat.reduceAdd, Nat.reduceLT, if_true, if_false, Bool.false_eq_true, Bool.true_eq_false, decide_eq_true_eq, decide_true, decide_false, Bool.not_true, Bool.not_false, Option.isNone_none, Option.isNone_some, Option.isSome_none, Option.isSome_some, ite_true, ite_false, reduceIte, reduceCtorEq, and_true, true_and, eq_self, Option.some.injEq, Sum.inr.injEq, Sum.inl.injEq, Prod.mk.injEq, j_lt0 hi, h_obj_eq h.2.1, j_gt hi (show S.1.length < 2 ^ 31 by omega), c, f_isNumber hx, d]
theorem f_putNeg (h : StO σ a S) {i x : Int32} (hi : i < 0) : M_X6_putIn [.ref a, .int i, .int x] σ = some (some (.int (-1)), σ) := by
  refine mV_eq h.2.1 rfl rfl ?_
  unfold B_X6_putIn
  simp only [x_and, x_or, x_shl, x_shr, x_k, x_i, x_r, x_nil, x_add, x_sub, x_mul, x_div, x_rem, x_get, x_getR, x_ald, x_aldR, x_len, x_lenR, x_if, xa_nil, xa_ci, xa_cr, x_callI, x_callR, x_new, x_newa, x_newq, x_max, x_min, xc_cmp, xc_cmp0, xc_null, xc_nn, xc_not, xc_and, xc_or, xc_if, xs_skip, xs_seq, xs_decI, xs_decR, xs_setI, xs_inc, xs_if, xs_blk, xs_retI, xs_retB, xs_retR, xs_retD, xs_ret0, xs_putI, xs_putZ, xs_putR, xs_putop, xs_ast, xs_astop, xs_astR, xs_callV, xs_callP, xs_super, xs_sw, s_go_inl, s_go_inr, s_cut_inl, s_cut_inr, o_void_n, v_i_int, v_i_none, v_r_ref, v_r_null, v_r_rf, h_set_some, o_some_s, zB_ne0, zB_ite, zB_ite2, g_Vn, g_Pi, nI_add, Option.bind_some, Option.map_some, Option.bind_none, Option.map_none, List.getElem?_cons_zero, List.getElem?_cons_succ, List.set_cons_zero, List.set_cons_succ, List.cons_append, List.nil_append, List.take_succ_cons, List.take_zero, List.length_cons, List.length_nil, Nat.zero_add, Nat.reduceAdd, Nat.reduceLT, if_true, if_false, Bool.false_eq_true, Bool.true_eq_false, decide_eq_true_eq, decide_true, decide_false, Bool.not_true, Bool.not_false, Option.isNone_none, Option.isNone_some, Option.isSome_none, Option.isSome_some, ite_true, ite_false, reduceIte, reduceCtorEq, and_true, true_and, eq_self, Option.some.injEq, Sum.inr.injEq, Sum.inl.injEq, Prod.mk.injEq, (j_neg hi (show 0 < 2 ^ 31 by omega)).2.1]
theorem f_putFull (h : StO σ a S) {i x : Nat} (hi : i ≤ S.1.length) (hx : 1 ≤ x ∧ x ≤ 9999) (hf : 12 ≤ S.1.length) : M_X6_putIn [.ref a, .int (nI i), .int (nI x)] σ = some (some (.int (-3)), σ) := by
  have hl := h.1.1
  refine mV_eq h.2.1 rfl rfl ?_
  unfold B_X6_putIn
  simp only [x_and, x_or, x_shl, x_shr, x_k, x_i, x_r, x_nil, x_add, x_sub, x_mul, x_div, x_rem, x_get, x_getR, x_ald, x_aldR, x_len, x_lenR, x_if, xa_nil, xa_ci, xa_cr, x_callI, x_callR, x_new, x_newa, x_newq, x_max, x_min, xc_cmp, xc_cmp0, xc_null, xc_nn, xc_not, xc_and, xc_or, xc_if, xs_skip, xs_seq, xs_decI, xs_decR, xs_setI, xs_inc, xs_if, xs_blk, xs_retI, xs_retB, xs_retR, xs_retD, xs_ret0, xs_putI, xs_putZ, xs_putR, xs_putop, xs_ast, xs_astop, xs_astR, xs_callV, xs_callP, xs_super, xs_sw, s_go_inl, s_go_inr, s_cut_inl, s_cut_inr, o_void_n, v_i_int, v_i_none, v_r_ref, v_r_null, v_r_rf, h_set_some, o_some_s, zB_ne0, zB_ite, zB_ite2, g_Vn, g_Pi, nI_add, Option.bind_some, Option.map_some, Option.bind_none, Option.map_none, List.getElem?_cons_zero, List.getElem?_cons_succ, List.set_cons_zero, List.set_cons_succ, List.cons_append, List.nil_append, List.take_succ_cons, List.take_zero, List.length_cons, List.length_nil, Nat.zero_add, Nat.reduceAdd, Nat.reduceLT, if_true, if_false, Bool.false_eq_true, Bool.true_eq_false, decide_eq_true_eq, decide_true, decide_false, Bool.not_true, Bool.not_false, Option.isNone_none, Option.isNone_some, Option.isSome_none, Option.isSome_some, ite_true, ite_false, reduceIte, reduceCtorEq, and_true, true_and, eq_self, Option.some.injEq, Sum.inr.injEq, Sum.inl.injEq, Prod.mk.injEq, j_lt0 (show i < 2 ^ 31 by omega), h_obj_eq h.2.1, j_gt (show i < 2 ^ 31 by omega) (show S.1.length < 2 ^ 31 by omega), Nat.not_lt.mpr hi, f_isNumber (show x < 2 ^ 31 by omega), hx.1, hx.2, j_ge (show S.1.length < 2 ^ 31 by omega) (show 12 < 2 ^ 31 by omega), hf]
theorem f_putIn (h : StAt σ a p c S) {i x : Nat} (hi : i ≤ S.1.length) (hx : 1 ≤ x ∧ x ≤ 9999) (hf : S.1.length < 12) : ∃ σ' p' c', M_X6_putIn [.ref a, .int (nI i), .int (nI x)] σ = some (some (.int (nI (S.1.length + 1))), σ') ∧ StAt σ' a p' c' (S.1.insertIdx i x, S.2) ∧ EffS σ σ' a p c p' c' := by
  have hS := h
  obtain ⟨⟨h0, o1, f, o2, o3⟩, hacc, hd⟩ := h
  obtain ⟨n, hnn⟩ : ∃ n, n = S.1.length := ⟨_, rfl⟩
  have la : a < σ.1.length := (List.getElem?_eq_some_iff.mp o1).1
  have la1 : a + 1 < σ.1.length := (List.getElem?_eq_some_iff.mp o2).1
  rw [← hnn] at o1 hi hf ⊢
  let F : Nat → Nat → Int32 := fun t z => if n - t < z ∧ z ≤ n then f (z - 1) else f z
  have F0 : F 0 = f := by
    funext z
    show (if _ then _ else _) = _
    rw [if_neg (by omega)]
  let τ : Nat → sSt := fun t => (σ.1.set (a + 1) (.inr (.inl (12, F t))), σ.2)
  have τ0 : τ 0 = σ := by
    show (σ.1.set (a + 1) (.inr (.inl (12, F 0))), σ.2) = σ
    rw [F0, set_same o2]
  have τo : ∀ t, (τ t).1[a]? = _ := fun t => (List.getElem?_set_ne (show a + 1 ≠ a by omega)).trans o1
  have τr : ∀ t, (τ t).1[a + 1]? = some (.inr (.inl (12, F t))) := fun t => List.getElem?_set_self la1
  have hw := wh_up (C := C_X6_putIn_1) (S := W_X6_putIn_1) (L := [.ref a, .int (nI i), .int (nI x), .int (nI n)]) (σ := σ) (fun t => ([.ref a, .int (nI i), .int (nI x), .int (nI (n - t))], τ t)) 0 (n - i) (by show _ = (_, τ 0); rw [τ0]; rfl) (Nat.zero_le _) (by omega) (fun t h1 h2 => ⟨by
      show C_X6_putIn_1 [.ref a, .int (nI i), .int (nI x), .int (nI (n - t))] (τ t) = some (true, τ t)
      simp only [x_and, x_or, x_shl, x_shr, x_k, x_i, x_r, x_nil, x_add, x_sub, x_mul, x_div, x_rem, x_get, x_getR, x_ald, x_aldR, x_len, x_lenR, x_if, xa_nil, xa_ci, xa_cr, x_callI, x_callR, x_new, x_newa, x_newq, x_max, x_min, xc_cmp, xc_cmp0, xc_null, xc_nn, xc_not, xc_and, xc_or, xc_if, xs_skip, xs_seq, xs_decI, xs_decR, xs_setI, xs_inc, xs_if, xs_blk, xs_retI, xs_retB, xs_retR, xs_retD, xs_ret0, xs_putI, xs_putZ, xs_putR, xs_putop, xs_ast, xs_astop, xs_astR, xs_callV, xs_callP, xs_super, xs_sw, s_go_inl, s_go_inr, s_cut_inl, s_cut_inr, o_void_n, v_i_int, v_i_none, v_r_ref, v_r_null, v_r_rf, h_set_some, o_some_s, zB_ne0, zB_ite, zB_ite2, g_Vn, g_Pi, nI_add, Option.bind_some, Option.map_some, Option.bind_none, Option.map_none, List.getElem?_cons_zero, List.getElem?_cons_succ, List.set_cons_zero, List.set_cons_succ, List.cons_append, List.nil_append, List.take_succ_cons, List.take_zero, List.length_cons, List.length_nil, Nat.zero_add, Nat.reduceAdd, Nat.reduceLT, if_true, if_false, Bool.false_eq_true, Bool.true_eq_false, decide_eq_true_eq, decide_true, decide_false, Bool.not_true, Bool.not_false, Option.isNone_none, Option.isNone_some, Option.isSome_none, Option.isSome_some, ite_true, ite_false, reduceIte, reduceCtorEq, and_true, true_and, eq_self, Option.some.injEq, Sum.inr.injEq, Sum.inl.injEq, Prod.mk.injEq, j_gt (show n - t < 2 ^ 31 by omega) (show i < 2 ^ 31 by omega), show i < n - t by omega], by
      show W_X6_putIn_1 [.ref a, .int (nI i), .int (nI x), .int (nI (n - t))] (τ t) = some (.inr ([.ref a, .int (nI i), .int (nI x), .int (nI (n - (t + 1)))], τ (t + 1)))
      obtain ⟨j, hj⟩ : ∃ j, j = n - t := ⟨_, rfl⟩
      rw [← hj, show n - (t + 1) = j - 1 by omega]
      have q1 := f_at (τr t) (show 12 < 2 ^ 31 by omega) (show j - 1 < 2 ^ 31 by omega)
      rw [if_pos (by omega)] at q1
      have q2 := f_put (τr t) (show 12 < 2 ^ 31 by omega) (show j < 12 by omega) (F t (j - 1))
      have q3 : (((τ t).1.set (a + 1) (.inr (.inl (12, upd (F t) j (F t (j - 1))))), (τ t).2) : sSt) = τ (t + 1) := by
        show ((σ.1.set (a + 1) _).set (a + 1) _, σ.2) = (σ.1.set (a + 1) _, σ.2)
        rw [List.set_set]
        congr 5
        funext z
        show upd (F t) j (F t (j - 1)) z = F (t + 1) z
        by_cases e : z = j
        · simp only [upd, e, if_true]
          show (if _ then _ else _) = (if _ then _ else _)
          rw [if_neg (by omega), if_pos (by omega)]
        · simp only [upd, e, if_false]
          show (if _ then _ else _) = (if _ then _ else _)
          by_cases g : n - t < z ∧ z ≤ n
          · rw [if_pos g, if_pos (by omega)]
          · rw [if_neg g, if_neg (by omega)]
      rw [q3] at q2
      simp only [x_and, x_or, x_shl, x_shr, x_k, x_i, x_r, x_nil, x_add, x_sub, x_mul, x_div, x_rem, x_get, x_getR, x_ald, x_aldR, x_len, x_lenR, x_if, xa_nil, xa_ci, xa_cr, x_callI, x_callR, x_new, x_newa, x_newq, x_max, x_min, xc_cmp, xc_cmp0, xc_null, xc_nn, xc_not, xc_and, xc_or, xc_if, xs_skip, xs_seq, xs_decI, xs_decR, xs_setI, xs_inc, xs_if, xs_blk, xs_retI, xs_retB, xs_retR, xs_retD, xs_ret0, xs_putI, xs_putZ, xs_putR, xs_putop, xs_ast, xs_astop, xs_astR, xs_callV, xs_callP, xs_super, xs_sw, s_go_inl, s_go_inr, s_cut_inl, s_cut_inr, o_void_n, v_i_int, v_i_none, v_r_ref, v_r_null, v_r_rf, h_set_some, o_some_s, zB_ne0, zB_ite, zB_ite2, g_Vn, g_Pi, nI_add, Option.bind_some, Option.map_some, Option.bind_none, Option.map_none, List.getElem?_cons_zero, List.getElem?_cons_succ, List.set_cons_zero, List.set_cons_succ, List.cons_append, List.nil_append, List.take_succ_cons, List.take_zero, List.length_cons, List.length_nil, Nat.zero_add, Nat.reduceAdd, Nat.reduceLT, if_true, if_false, Bool.false_eq_true, Bool.true_eq_false, decide_eq_true_eq, decide_true, decide_false, Bool.not_true, Bool.not_false, Option.isNone_none, Option.isNone_some, Option.isSome_none, Option.isSome_some, ite_true, ite_false, reduceIte, reduceCtorEq, and_true, true_and, eq_self, Option.some.injEq, Sum.inr.injEq, Sum.inl.injEq, Prod.mk.injEq, h_obj_eq (τo t), v_rf, q1, pk_sub (show 1 ≤ j by omega), q2, j_dec (show 1 ≤ j by omega)]⟩) (by
      show C_X6_putIn_1 [.ref a, .int (nI i), .int (nI x), .int (nI (n - (n - i)))] (τ (n - i)) = some (false, τ (n - i))
      simp only [x_and, x_or, x_shl, x_shr, x_k, x_i, x_r, x_nil, x_add, x_sub, x_mul, x_div, x_rem, x_get, x_getR, x_ald, x_aldR, x_len, x_lenR, x_if, xa_nil, xa_ci, xa_cr, x_callI, x_callR, x_new, x_newa, x_newq, x_max, x_min, xc_cmp, xc_cmp0, xc_null, xc_nn, xc_not, xc_and, xc_or, xc_if, xs_skip, xs_seq, xs_decI, xs_decR, xs_setI, xs_inc, xs_if, xs_blk, xs_retI, xs_retB, xs_retR, xs_retD, xs_ret0, xs_putI, xs_putZ, xs_putR, xs_putop, xs_ast, xs_astop, xs_astR, xs_callV, xs_callP, xs_super, xs_sw, s_go_inl, s_go_inr, s_cut_inl, s_cut_inr, o_void_n, v_i_int, v_i_none, v_r_ref, v_r_null, v_r_rf, h_set_some, o_some_s, zB_ne0, zB_ite, zB_ite2, g_Vn, g_Pi, nI_add, Option.bind_some, Option.map_some, Option.bind_none, Option.map_none, List.getElem?_cons_zero, List.getElem?_cons_succ, List.set_cons_zero, List.set_cons_succ, List.cons_append, List.nil_append, List.take_succ_cons, List.take_zero, List.length_cons, List.length_nil, Nat.zero_add, Nat.reduceAdd, Nat.reduceLT, if_true, if_false, Bool.false_eq_true, Bool.true_eq_false, decide_eq_true_eq, decide_true, decide_false, Bool.not_true, Bool.not_false, Option.isNone_none, Option.isNone_some, Option.isSome_none, Option.isSome_some, ite_true, ite_false, reduceIte, reduceCtorEq, and_true, true_and, eq_self, Option.some.injEq, Sum.inr.injEq, Sum.inl.injEq, Prod.mk.injEq, j_gt (show n - (n - i) < 2 ^ 31 by omega) (show i < 2 ^ 31 by omega), show ¬ i < n - (n - i) by omega])
  have ez : n - (n - i) = i := by omega
  have hw : s_while C_X6_putIn_1 W_X6_putIn_1 [.ref a, .int (nI i), .int (nI x), .int (nI n)] σ = some (.inr ([.ref a, .int (nI i), .int (nI x), .int (nI i)], τ (n - i))) := by
    simp only [ez] at hw
    exact hw
  obtain ⟨G, hG⟩ : ∃ G, G = upd (F (n - i)) i (nI x) := ⟨_, rfl⟩
  let τ1 : sSt := ((τ (n - i)).1.set (a + 1) (.inr (.inl (12, G))), σ.2)
  have r1 : M_X5_put [.ref (a + 1), .int (nI i), .int (nI x)] (τ (n - i)) = some (none, τ1) := by
    have := f_put (τr (n - i)) (show 12 < 2 ^ 31 by omega) (show i < 12 by omega) (nI x)
    rw [← hG] at this
    exact this
  have l1 : τ1.1.length = σ.1.length := by show ((σ.1.set _ _).set _ _).length = _; rw [List.length_set, List.length_set]
  have t1 : ∀ k, k ≠ a + 1 → τ1.1[k]? = σ.1[k]? := fun k hk => (List.getElem?_set_ne (Ne.symm hk)).trans (List.getElem?_set_ne (Ne.symm hk))
  let τ2 : sSt := (τ1.1.set a (.inl (5, [.ref (a + 1), .ref (a + 2), .int (nI (n + 1)), .int (nI S.2.1), .int (nI S.2.2.1), .int S.2.2.2.1])), σ.2)
  have l2 : τ2.1.length = σ.1.length := by show (τ1.1.set _ _).length = _; rw [List.length_set, l1]
  have t2 : ∀ k, k ≠ a → τ2.1[k]? = τ1.1[k]? := fun k hk => List.getElem?_set_ne (Ne.symm hk)
  have ln : (S.1.insertIdx i x).length = n + 1 := by rw [List.length_insertIdx, if_pos (by omega), hnn]
  have k2 : StO τ2 a (S.1.insertIdx i x, S.2) := by
    refine ⟨h0.ins (by omega) (by omega) hx.1 hx.2, ?_, G, (t2 _ (by omega)).trans (List.getElem?_set_self (by show _ < (σ.1.set _ _).length; rw [List.length_set]; exact la1)), ?_⟩
    · show τ2.1[a]? = some (.inl (5, [.ref (a + 1), .ref (a + 2), .int (nI (S.1.insertIdx i x).length), .int (nI S.2.1), .int (nI S.2.2.1), .int S.2.2.2.1]))
      rw [ln]
      exact List.getElem?_set_self (by omega)
    · intro k y hy
      have hy : (S.1.insertIdx i x)[k]? = some y := hy
      have hk : k < n + 1 := by rw [← ln]; exact (List.getElem?_eq_some_iff.mp hy).1
      rw [List.getElem?_insertIdx] at hy
      rw [hG]
      by_cases c1 : k < i
      · rw [if_pos c1] at hy
        simp only [upd, show ¬ k = i by omega, if_false]
        show (if _ then _ else _) = _
        rw [if_neg (by omega)]
        exact o3 k y hy
      · rw [if_neg c1] at hy
        by_cases c2 : k = i
        · rw [if_pos c2, if_pos (by omega)] at hy
          cases hy
          simp only [upd, c2, if_true]
        · rw [if_neg c2] at hy
          simp only [upd, c2, if_false]
          show (if _ then _ else _) = _
          rw [if_pos (by omega)]
          exact o3 (k - 1) y hy
  have m2 : Keep σ τ2 (fun k => k = a ∨ k = a + 1) := ⟨by omega, fun k _ hF => (t2 k (fun e => hF (Or.inl e))).trans (t1 k (fun e => hF (Or.inr e)))⟩
  obtain ⟨ps, hA, hk⟩ := hacc
  obtain ⟨σ3, p', c', ps', r3, k3, hA3, hk3, e3, hd3⟩ := st_book2 k2 (hA.keep m2 ⟨by omega, by omega, by omega, by omega⟩) hk hd (nI 0) (nI 1) hx.1 hx.2
  refine ⟨σ3, p', c', mV_eq o1 rfl rfl ?_, st_end hA3 hk3 hd3 k3 Keep.rf (fun q hq => ⟨by rw [bkL_0]; rfl, ?_⟩), e3.before m2 l2 rfl⟩
  · unfold B_X6_putIn
    refine (seq_r (L1 := [.ref a, .int (nI i), .int (nI x)]) (σ1 := σ) ?_).trans ?_
    · simp only [x_and, x_or, x_shl, x_shr, x_k, x_i, x_r, x_nil, x_add, x_sub, x_mul, x_div, x_rem, x_get, x_getR, x_ald, x_aldR, x_len, x_lenR, x_if, xa_nil, xa_ci, xa_cr, x_callI, x_callR, x_new, x_newa, x_newq, x_max, x_min, xc_cmp, xc_cmp0, xc_null, xc_nn, xc_not, xc_and, xc_or, xc_if, xs_skip, xs_seq, xs_decI, xs_decR, xs_setI, xs_inc, xs_if, xs_blk, xs_retI, xs_retB, xs_retR, xs_retD, xs_ret0, xs_putI, xs_putZ, xs_putR, xs_putop, xs_ast, xs_astop, xs_astR, xs_callV, xs_callP, xs_super, xs_sw, s_go_inl, s_go_inr, s_cut_inl, s_cut_inr, o_void_n, v_i_int, v_i_none, v_r_ref, v_r_null, v_r_rf, h_set_some, o_some_s, zB_ne0, zB_ite, zB_ite2, g_Vn, g_Pi, nI_add, Option.bind_some, Option.map_some, Option.bind_none, Option.map_none, List.getElem?_cons_zero, List.getElem?_cons_succ, List.set_cons_zero, List.set_cons_succ, List.cons_append, List.nil_append, List.take_succ_cons, List.take_zero, List.length_cons, List.length_nil, Nat.zero_add, Nat.reduceAdd, Nat.reduceLT, if_true, if_false, Bool.false_eq_true, Bool.true_eq_false, decide_eq_true_eq, decide_true, decide_false, Bool.not_true, Bool.not_false, Option.isNone_none, Option.isNone_some, Option.isSome_none, Option.isSome_some, ite_true, ite_false, reduceIte, reduceCtorEq, and_true, true_and, eq_self, Option.some.injEq, Sum.inr.injEq, Sum.inl.injEq, Prod.mk.injEq, j_lt0 (show i < 2 ^ 31 by omega), h_obj_eq o1, j_gt (show i < 2 ^ 31 by omega) (show n < 2 ^ 31 by omega), Nat.not_lt.mpr hi, f_isNumber (show x < 2 ^ 31 by omega), hx.1, hx.2]
    refine (seq_r (L1 := [.ref a, .int (nI i), .int (nI x)]) (σ1 := σ) ?_).trans ?_
    · simp only [x_and, x_or, x_shl, x_shr, x_k, x_i, x_r, x_nil, x_add, x_sub, x_mul, x_div, x_rem, x_get, x_getR, x_ald, x_aldR, x_len, x_lenR, x_if, xa_nil, xa_ci, xa_cr, x_callI, x_callR, x_new, x_newa, x_newq, x_max, x_min, xc_cmp, xc_cmp0, xc_null, xc_nn, xc_not, xc_and, xc_or, xc_if, xs_skip, xs_seq, xs_decI, xs_decR, xs_setI, xs_inc, xs_if, xs_blk, xs_retI, xs_retB, xs_retR, xs_retD, xs_ret0, xs_putI, xs_putZ, xs_putR, xs_putop, xs_ast, xs_astop, xs_astR, xs_callV, xs_callP, xs_super, xs_sw, s_go_inl, s_go_inr, s_cut_inl, s_cut_inr, o_void_n, v_i_int, v_i_none, v_r_ref, v_r_null, v_r_rf, h_set_some, o_some_s, zB_ne0, zB_ite, zB_ite2, g_Vn, g_Pi, nI_add, Option.bind_some, Option.map_some, Option.bind_none, Option.map_none, List.getElem?_cons_zero, List.getElem?_cons_succ, List.set_cons_zero, List.set_cons_succ, List.cons_append, List.nil_append, List.take_succ_cons, List.take_zero, List.length_cons, List.length_nil, Nat.zero_add, Nat.reduceAdd, Nat.reduceLT, if_true, if_false, Bool.false_eq_true, Bool.true_eq_false, decide_eq_true_eq, decide_true, decide_false, Bool.not_true, Bool.not_false, Option.isNone_none, Option.isNone_some, Option.isSome_none, Option.isSome_some, ite_true, ite_false, reduceIte, reduceCtorEq, and_true, true_and, eq_self, Option.some.injEq, Sum.inr.injEq, Sum.inl.injEq, Prod.mk.injEq, h_obj_eq o1, j_ge (show n < 2 ^ 31 by omega) (show 12 < 2 ^ 31 by omega), show ¬ 12 ≤ n by omega]
    refine (seq_r (L1 := [.ref a, .int (nI i), .int (nI x)]) (σ1 := τ (n - i)) ?_).trans ?_
    · simp only [x_and, x_or, x_shl, x_shr, x_k, x_i, x_r, x_nil, x_add, x_sub, x_mul, x_div, x_rem, x_get, x_getR, x_ald, x_aldR, x_len, x_lenR, x_if, xa_nil, xa_ci, xa_cr, x_callI, x_callR, x_new, x_newa, x_newq, x_max, x_min, xc_cmp, xc_cmp0, xc_null, xc_nn, xc_not, xc_and, xc_or, xc_if, xs_skip, xs_seq, xs_decI, xs_decR, xs_setI, xs_inc, xs_if, xs_blk, xs_retI, xs_retB, xs_retR, xs_retD, xs_ret0, xs_putI, xs_putZ, xs_putR, xs_putop, xs_ast, xs_astop, xs_astR, xs_callV, xs_callP, xs_super, xs_sw, s_go_inl, s_go_inr, s_cut_inl, s_cut_inr, o_void_n, v_i_int, v_i_none, v_r_ref, v_r_null, v_r_rf, h_set_some, o_some_s, zB_ne0, zB_ite, zB_ite2, g_Vn, g_Pi, nI_add, Option.bind_some, Option.map_some, Option.bind_none, Option.map_none, List.getElem?_cons_zero, List.getElem?_cons_succ, List.set_cons_zero, List.set_cons_succ, List.cons_append, List.nil_append, List.take_succ_cons, List.take_zero, List.length_cons, List.length_nil, Nat.zero_add, Nat.reduceAdd, Nat.reduceLT, if_true, if_false, Bool.false_eq_true, Bool.true_eq_false, decide_eq_true_eq, decide_true, decide_false, Bool.not_true, Bool.not_false, Option.isNone_none, Option.isNone_some, Option.isSome_none, Option.isSome_some, ite_true, ite_false, reduceIte, reduceCtorEq, and_true, true_and, eq_self, Option.some.injEq, Sum.inr.injEq, Sum.inl.injEq, Prod.mk.injEq, h_obj_eq o1, hw]
    refine (seq_r (L1 := [.ref a, .int (nI i), .int (nI x)]) (σ1 := τ1) ?_).trans ?_
    · simp only [x_and, x_or, x_shl, x_shr, x_k, x_i, x_r, x_nil, x_add, x_sub, x_mul, x_div, x_rem, x_get, x_getR, x_ald, x_aldR, x_len, x_lenR, x_if, xa_nil, xa_ci, xa_cr, x_callI, x_callR, x_new, x_newa, x_newq, x_max, x_min, xc_cmp, xc_cmp0, xc_null, xc_nn, xc_not, xc_and, xc_or, xc_if, xs_skip, xs_seq, xs_decI, xs_decR, xs_setI, xs_inc, xs_if, xs_blk, xs_retI, xs_retB, xs_retR, xs_retD, xs_ret0, xs_putI, xs_putZ, xs_putR, xs_putop, xs_ast, xs_astop, xs_astR, xs_callV, xs_callP, xs_super, xs_sw, s_go_inl, s_go_inr, s_cut_inl, s_cut_inr, o_void_n, v_i_int, v_i_none, v_r_ref, v_r_null, v_r_rf, h_set_some, o_some_s, zB_ne0, zB_ite, zB_ite2, g_Vn, g_Pi, nI_add, Option.bind_some, Option.map_some, Option.bind_none, Option.map_none, List.getElem?_cons_zero, List.getElem?_cons_succ, List.set_cons_zero, List.set_cons_succ, List.cons_append, List.nil_append, List.take_succ_cons, List.take_zero, List.length_cons, List.length_nil, Nat.zero_add, Nat.reduceAdd, Nat.reduceLT, if_true, if_false, Bool.false_eq_true, Bool.true_eq_false, decide_eq_true_eq, decide_true, decide_false, Bool.not_true, Bool.not_false, Option.isNone_none, Option.isNone_some, Option.isSome_none, Option.isSome_some, ite_true, ite_false, reduceIte, reduceCtorEq, and_true, true_and, eq_self, Option.some.injEq, Sum.inr.injEq, Sum.inl.injEq, Prod.mk.injEq, h_obj_eq (τo (n - i)), v_rf, r1]
    refine (seq_r (L1 := [.ref a, .int (nI i), .int (nI x)]) (σ1 := τ2) ?_).trans ?_
    · simp only [x_and, x_or, x_shl, x_shr, x_k, x_i, x_r, x_nil, x_add, x_sub, x_mul, x_div, x_rem, x_get, x_getR, x_ald, x_aldR, x_len, x_lenR, x_if, xa_nil, xa_ci, xa_cr, x_callI, x_callR, x_new, x_newa, x_newq, x_max, x_min, xc_cmp, xc_cmp0, xc_null, xc_nn, xc_not, xc_and, xc_or, xc_if, xs_skip, xs_seq, xs_decI, xs_decR, xs_setI, xs_inc, xs_if, xs_blk, xs_retI, xs_retB, xs_retR, xs_retD, xs_ret0, xs_putI, xs_putZ, xs_putR, xs_putop, xs_ast, xs_astop, xs_astR, xs_callV, xs_callP, xs_super, xs_sw, s_go_inl, s_go_inr, s_cut_inl, s_cut_inr, o_void_n, v_i_int, v_i_none, v_r_ref, v_r_null, v_r_rf, h_set_some, o_some_s, zB_ne0, zB_ite, zB_ite2, g_Vn, g_Pi, nI_add, Option.bind_some, Option.map_some, Option.bind_none, Option.map_none, List.getElem?_cons_zero, List.getElem?_cons_succ, List.set_cons_zero, List.set_cons_succ, List.cons_append, List.nil_append, List.take_succ_cons, List.take_zero, List.length_cons, List.length_nil, Nat.zero_add, Nat.reduceAdd, Nat.reduceLT, if_true, if_false, Bool.false_eq_true, Bool.true_eq_false, decide_eq_true_eq, decide_true, decide_false, Bool.not_true, Bool.not_false, Option.isNone_none, Option.isNone_some, Option.isSome_none, Option.isSome_some, ite_true, ite_false, reduceIte, reduceCtorEq, and_true, true_and, eq_self, Option.some.injEq, Sum.inr.injEq, Sum.inl.injEq, Prod.mk.injEq, h_obj_eq ((t1 a (by omega)).trans o1)]
      rfl
    refine (seq_r (L1 := [.ref a, .int (nI i), .int (nI x)]) (σ1 := σ3) ?_).trans ?_
    · simp only [x_and, x_or, x_shl, x_shr, x_k, x_i, x_r, x_nil, x_add, x_sub, x_mul, x_div, x_rem, x_get, x_getR, x_ald, x_aldR, x_len, x_lenR, x_if, xa_nil, xa_ci, xa_cr, x_callI, x_callR, x_new, x_newa, x_newq, x_max, x_min, xc_cmp, xc_cmp0, xc_null, xc_nn, xc_not, xc_and, xc_or, xc_if, xs_skip, xs_seq, xs_decI, xs_decR, xs_setI, xs_inc, xs_if, xs_blk, xs_retI, xs_retB, xs_retR, xs_retD, xs_ret0, xs_putI, xs_putZ, xs_putR, xs_putop, xs_ast, xs_astop, xs_astR, xs_callV, xs_callP, xs_super, xs_sw, s_go_inl, s_go_inr, s_cut_inl, s_cut_inr, o_void_n, v_i_int, v_i_none, v_r_ref, v_r_null, v_r_rf, h_set_some, o_some_s, zB_ne0, zB_ite, zB_ite2, g_Vn, g_Pi, nI_add, Option.bind_some, Option.map_some, Option.bind_none, Option.map_none, List.getElem?_cons_zero, List.getElem?_cons_succ, List.set_cons_zero, List.set_cons_succ, List.cons_append, List.nil_append, List.take_succ_cons, List.take_zero, List.length_cons, List.length_nil, Nat.zero_add, Nat.reduceAdd, Nat.reduceLT, if_true, if_false, Bool.false_eq_true, Bool.true_eq_false, decide_eq_true_eq, decide_true, decide_false, Bool.not_true, Bool.not_false, Option.isNone_none, Option.isNone_some, Option.isSome_none, Option.isSome_some, ite_true, ite_false, reduceIte, reduceCtorEq, and_true, true_and, eq_self, Option.some.injEq, Sum.inr.injEq, Sum.inl.injEq, Prod.mk.injEq, h_obj_eq k2.2.1, v_rf, r3]
    · simp only [x_and, x_or, x_shl, x_shr, x_k, x_i, x_r, x_nil, x_add, x_sub, x_mul, x_div, x_rem, x_get, x_getR, x_ald, x_aldR, x_len, x_lenR, x_if, xa_nil, xa_ci, xa_cr, x_callI, x_callR, x_new, x_newa, x_newq, x_max, x_min, xc_cmp, xc_cmp0, xc_null, xc_nn, xc_not, xc_and, xc_or, xc_if, xs_skip, xs_seq, xs_decI, xs_decR, xs_setI, xs_inc, xs_if, xs_blk, xs_retI, xs_retB, xs_retR, xs_retD, xs_ret0, xs_putI, xs_putZ, xs_putR, xs_putop, xs_ast, xs_astop, xs_astR, xs_callV, xs_callP, xs_super, xs_sw, s_go_inl, s_go_inr, s_cut_inl, s_cut_inr, o_void_n, v_i_int, v_i_none, v_r_ref, v_r_null, v_r_rf, h_set_some, o_some_s, zB_ne0, zB_ite, zB_ite2, g_Vn, g_Pi, nI_add, Option.bind_some, Option.map_some, Option.bind_none, Option.map_none, List.getElem?_cons_zero, List.getElem?_cons_succ, List.set_cons_zero, List.set_cons_succ, List.cons_append, List.nil_append, List.take_succ_cons, List.take_zero, List.length_cons, List.length_nil, Nat.zero_add, Nat.reduceAdd, Nat.reduceLT, if_true, if_false, Bool.false_eq_true, Bool.true_eq_false, decide_eq_true_eq, decide_true, decide_false, Bool.not_true, Bool.not_false, Option.isNone_none, Option.isNone_some, Option.isSome_none, Option.isSome_some, ite_true, ite_false, reduceIte, reduceCtorEq, and_true, true_and, eq_self, Option.some.injEq, Sum.inr.injEq, Sum.inl.injEq, Prod.mk.injEq, h_obj_eq k3.2.1, ln]
  · rw [bkL_1, fac_count hq _ _ (Nat.le_refl _) hx.1]
    show sCh S q + exL q (S.1.insertIdx i x) = sCh S q + exL q S.1 + _
    rw [exL_ins S.1 i (by omega), Int32.add_assoc]
end
