/-! Accounts, the end (own work): booking a number, copies, sums -/
def addAt (f : Nat → Int32) (r : Nat) (d : Int32) : Nat → Int32 := fun z => if z = r then f r + d else f z
def bkL (d : Int32) : List Nat → (Nat → Int32) → Nat → Int32
  | [], f => f
  | r :: l, f => bkL d l (addAt f r d)
theorem j_eqM {a : Nat} (ha : a < 2 ^ 31) : i_eq (nI a) (-1) = false := by
  unfold i_eq
  refine decide_eq_false (fun e => ?_)
  have h := congrArg Int32.toInt e
  rw [nI_toInt ha] at h
  have : (-1 : Int32).toInt = -1 := by decide
  omega
theorem addAt_no {f : Nat → Int32} {ps : List Nat} {r : Nat} {d : Int32} (hr : r ∈ ps) (h : ∀ q, isPr q → q ∉ ps → f q = nI 0) : ∀ q, isPr q → q ∉ ps → addAt f r d q = nI 0 := by
  intro q hp hq
  show (if q = r then f r + d else f q) = nI 0
  rw [if_neg (fun e : q = r => hq (by rw [e]; exact hr))]
  exact h q hp hq
theorem okA.app {ps : List Nat} {ch cm : Nat → Int32} (h : okA ps ch cm) {q : Nat} (hq : isPr q ∧ q ≤ 9999) (hn : q ∉ ps) : okA (ps ++ [q]) ch cm := by
  refine ⟨?_, ?_, fun z hp hz => h.2.2 z hp (fun e => hz (List.mem_append_left _ e))⟩
  · rw [List.nodup_append]
    refine ⟨h.1, List.nodup_cons.mpr ⟨List.not_mem_nil, List.nodup_nil⟩, fun a ha c hc => ?_⟩
    rw [List.mem_singleton] at hc
    intro e
    exact hn (by rw [← hc, ← e]; exact ha)
  · intro z hz
    rcases List.mem_append.mp hz with e | e
    · exact h.2.1 z e
    · rw [List.mem_singleton] at e; rw [e]; exact hq
theorem okA.add {ps : List Nat} {ch cm : Nat → Int32} (h : okA ps ch cm) {q : Nat} (hq : q ∈ ps) (dc dm : Int32) : okA ps (addAt ch q dc) (addAt cm q dm) :=
  ⟨h.1, h.2.1, fun z hp hz => ⟨addAt_no hq (fun z hp hz => (h.2.2 z hp hz).1) z hp hz, addAt_no hq (fun z hp hz => (h.2.2 z hp hz).2) z hp hz⟩⟩
section
variable {σ : sSt} {b p c : Nat} {ps : List Nat} {ch cm : Nat → Int32}
/-- one prime factor is booked -/
theorem f_book1 (hA : AccAt σ b p c ps ch cm) (hk : okA ps ch cm) {n r t : Nat} {dc dm : Int32} (hr : 2 ≤ r) (hr9 : r ≤ 9999) (hcap : lp r ∉ ps → ps.length < c) :
    ∃ σ' ps', W_X0_book_1 [.ref b, .int (nI n), .int dc, .int dm, .int (nI r), .int (nI t)] σ = some (.inr ([.ref b, .int (nI n), .int dc, .int dm, .int (nI (r / lp r)), .int (nI (t + 1))], σ')) ∧ AccAt σ' b p c ps' (addAt ch (lp r) dc) (addAt cm (lp r) dm) ∧ okA ps' (addAt ch (lp r) dc) (addAt cm (lp r) dm) ∧ EffA σ σ' b p c p c ∧ (ps' = ps ∨ (lp r ∉ ps ∧ ps' = ps ++ [lp r])) := by
  obtain ⟨q, hq⟩ : ∃ q, q = lp r := ⟨_, rfl⟩
  have hl := lp_spec hr
  have hpq := lp_pr hr
  rw [← hq] at hl hpq hcap ⊢
  have hq9 : q ≤ 9999 := by omega
  have hpl := f_placeOf hA hk.1 (fun z h => (hk.2.1 z h).2) hq9
  have h1 := hA.1
  -- where its place is, opened or not
  have hplace : ∃ σ1 ps1 j, (s_seq (s_decI 7 (e_callI M_X0_placeOf (a_cr (e_r 0) (a_ci (e_i 6) a_nil)))) (s_if (c_cmp i_eq (e_i 7) (e_k (-1))) (s_setI 7 (e_callI M_X0_openPlace (a_cr (e_r 0) (a_ci (e_i 6) a_nil)))) s_skip)) [.ref b, .int (nI n), .int dc, .int dm, .int (nI r), .int (nI t), .int (nI q)] σ = some (.inr ([.ref b, .int (nI n), .int dc, .int dm, .int (nI r), .int (nI t), .int (nI q), .int (nI j)], σ1)) ∧ ps1[j]? = some q ∧ AccAt σ1 b p c ps1 ch cm ∧ okA ps1 ch cm ∧ EffA σ σ1 b p c p c ∧ (ps1 = ps ∨ (q ∉ ps ∧ ps1 = ps ++ [q])) := by
    by_cases hm : q ∈ ps
    · obtain ⟨j, hj⟩ := List.getElem?_of_mem hm
      have hjl := (List.getElem?_eq_some_iff.mp hj).1
      have hc4 := hA.2.1
      have hc5 := hA.2.2.2.1
      refine ⟨σ, ps, j, ?_, hj, hA, hk, hA.rf, Or.inl rfl⟩
      simp only [x_and, x_or, x_shl, x_shr, x_k, x_i, x_r, x_nil, x_add, x_sub, x_mul, x_div, x_rem, x_get, x_getR, x_ald, x_aldR, x_len, x_lenR, x_if, xa_nil, xa_ci, xa_cr, x_callI, x_callR, x_new, x_newa, x_newq, x_max, x_min, xc_cmp, xc_cmp0, xc_null, xc_nn, xc_not, xc_and, xc_or, xc_if, xs_skip, xs_seq, xs_decI, xs_decR, xs_setI, xs_inc, xs_if, xs_blk, xs_retI, xs_retB, xs_retR, xs_retD, xs_ret0, xs_putI, xs_putZ, xs_putR, xs_putop, xs_ast, xs_astop, xs_astR, xs_callV, xs_callP, xs_super, xs_sw, s_go_inl, s_go_inr, s_cut_inl, s_cut_inr, o_void_n, v_i_int, v_i_none, v_r_ref, v_r_null, v_r_rf, h_set_some, o_some_s, zB_ne0, zB_ite, zB_ite2, g_Vn, g_Pi, nI_add, Option.bind_some, Option.map_some, Option.bind_none, Option.map_none, List.getElem?_cons_zero, List.getElem?_cons_succ, List.set_cons_zero, List.set_cons_succ, List.cons_append, List.nil_append, List.take_succ_cons, List.take_zero, List.length_cons, List.length_nil, Nat.zero_add, Nat.reduceAdd, Nat.reduceLT, if_true, if_false, Bool.false_eq_true, Bool.true_eq_false, decide_eq_true_eq, decide_true, decide_false, Bool.not_true, Bool.not_false, Option.isNone_none, Option.isNone_some, Option.isSome_none, Option.isSome_some, ite_true, ite_false, reduceIte, reduceCtorEq, and_true, true_and, eq_self, Option.some.injEq, Sum.inr.injEq, Sum.inl.injEq, Prod.mk.injEq, v_rf, hpl.1 j hj, j_eqM (show j < 2 ^ 31 by omega)]
    · obtain ⟨σ1, o1, o2, o3⟩ := f_openPlace hA (hcap hm) (hk.2.2 q hpq hm)
      refine ⟨σ1, ps ++ [q], ps.length, ?_, ?_, o2, hk.app ⟨hpq, hq9⟩ hm, o3, Or.inr ⟨hm, rfl⟩⟩
      · simp only [x_and, x_or, x_shl, x_shr, x_k, x_i, x_r, x_nil, x_add, x_sub, x_mul, x_div, x_rem, x_get, x_getR, x_ald, x_aldR, x_len, x_lenR, x_if, xa_nil, xa_ci, xa_cr, x_callI, x_callR, x_new, x_newa, x_newq, x_max, x_min, xc_cmp, xc_cmp0, xc_null, xc_nn, xc_not, xc_and, xc_or, xc_if, xs_skip, xs_seq, xs_decI, xs_decR, xs_setI, xs_inc, xs_if, xs_blk, xs_retI, xs_retB, xs_retR, xs_retD, xs_ret0, xs_putI, xs_putZ, xs_putR, xs_putop, xs_ast, xs_astop, xs_astR, xs_callV, xs_callP, xs_super, xs_sw, s_go_inl, s_go_inr, s_cut_inl, s_cut_inr, o_void_n, v_i_int, v_i_none, v_r_ref, v_r_null, v_r_rf, h_set_some, o_some_s, zB_ne0, zB_ite, zB_ite2, g_Vn, g_Pi, nI_add, Option.bind_some, Option.map_some, Option.bind_none, Option.map_none, List.getElem?_cons_zero, List.getElem?_cons_succ, List.set_cons_zero, List.set_cons_succ, List.cons_append, List.nil_append, List.take_succ_cons, List.take_zero, List.length_cons, List.length_nil, Nat.zero_add, Nat.reduceAdd, Nat.reduceLT, if_true, if_false, Bool.false_eq_true, Bool.true_eq_false, decide_eq_true_eq, decide_true, decide_false, Bool.not_true, Bool.not_false, Option.isNone_none, Option.isNone_some, Option.isSome_none, Option.isSome_some, ite_true, ite_false, reduceIte, reduceCtorEq, and_true, true_and, eq_self, Option.some.injEq, Sum.inr.injEq, Sum.inl.injEq, Prod.mk.injEq, v_rf, hpl.2 hm, show i_eq (-1) (-1) = true by decide, o1]
      · rw [List.getElem?_append_right (Nat.le_refl _), Nat.sub_self]; rfl
  obtain ⟨σ1, ps1, j, P7, hj, hA1, hk1, hE1, hps⟩ := hplace
  obtain ⟨f1, σ2, g1, g2, g3, g4, hA2, hE2⟩ := hA1.put (k := 1) (v := ch q + dc) hj hk1.1 (Or.inl ⟨rfl, rfl, rfl⟩)
  have hA2' : AccAt σ2 b p c ps1 (addAt ch q dc) cm := by
    have e : (fun z => if z = q then ch q + dc else ch z) = addAt ch q dc := rfl
    rw [e] at hA2
    exact hA2
  obtain ⟨f3, σ3, g5, g6, g7, g8, hA3, hE3⟩ := hA2'.put (k := 2) (v := cm q + dm) hj hk1.1 (Or.inr ⟨rfl, rfl, rfl⟩)
  have hA3' : AccAt σ3 b p c ps1 (addAt ch q dc) (addAt cm q dm) := by
    have e : (fun z => if z = q then cm q + dm else cm z) = addAt cm q dm := rfl
    rw [e] at hA3
    exact hA3
  have hc : c ≤ 1229 := hA.2.2.2.1
  have a1 := f_at g1 (show c < 2 ^ 31 by omega) (show j < 2 ^ 31 by omega)
  rw [if_pos g3, g2, if_pos rfl] at a1
  have a2 := f_put g1 (show c < 2 ^ 31 by omega) g3 (ch q + dc)
  rw [← g4] at a2
  have a3 := f_at g5 (show c < 2 ^ 31 by omega) (show j < 2 ^ 31 by omega)
  rw [if_pos g7, g6, if_neg (by omega)] at a3
  have a4 := f_put g5 (show c < 2 ^ 31 by omega) g7 (cm q + dm)
  rw [← g8] at a4
  refine ⟨σ3, ps1, ?_, hA3', hk1.add (List.mem_of_getElem? hj) dc dm, (hE1.tr hE2).tr hE3, hps⟩
  have P6 : (s_decI 6 (e_callI M_X7_leastPrime (a_ci (e_i 4) a_nil))) [.ref b, .int (nI n), .int dc, .int dm, .int (nI r), .int (nI t)] σ = some (.inr ([.ref b, .int (nI n), .int dc, .int dm, .int (nI r), .int (nI t), .int (nI q)], σ)) := by
    simp only [x_and, x_or, x_shl, x_shr, x_k, x_i, x_r, x_nil, x_add, x_sub, x_mul, x_div, x_rem, x_get, x_getR, x_ald, x_aldR, x_len, x_lenR, x_if, xa_nil, xa_ci, xa_cr, x_callI, x_callR, x_new, x_newa, x_newq, x_max, x_min, xc_cmp, xc_cmp0, xc_null, xc_nn, xc_not, xc_and, xc_or, xc_if, xs_skip, xs_seq, xs_decI, xs_decR, xs_setI, xs_inc, xs_if, xs_blk, xs_retI, xs_retB, xs_retR, xs_retD, xs_ret0, xs_putI, xs_putZ, xs_putR, xs_putop, xs_ast, xs_astop, xs_astR, xs_callV, xs_callP, xs_super, xs_sw, s_go_inl, s_go_inr, s_cut_inl, s_cut_inr, o_void_n, v_i_int, v_i_none, v_r_ref, v_r_null, v_r_rf, h_set_some, o_some_s, zB_ne0, zB_ite, zB_ite2, g_Vn, g_Pi, nI_add, Option.bind_some, Option.map_some, Option.bind_none, Option.map_none, List.getElem?_cons_zero, List.getElem?_cons_succ, List.set_cons_zero, List.set_cons_succ, List.cons_append, List.nil_append, List.take_succ_cons, List.take_zero, List.length_cons, List.length_nil, Nat.zero_add, Nat.reduceAdd, Nat.reduceLT, if_true, if_false, Bool.false_eq_true, Bool.true_eq_false, decide_eq_true_eq, decide_true, decide_false, Bool.not_true, Bool.not_false, Option.isNone_none, Option.isNone_some, Option.isSome_none, Option.isSome_some, ite_true, ite_false, reduceIte, reduceCtorEq, and_true, true_and, eq_self, Option.some.injEq, Sum.inr.injEq, Sum.inl.injEq, Prod.mk.injEq, f_leastPrime hr9, hq]
  have P8 : (s_callV M_X5_put (a_cr (e_getR 0 1 (e_r 0)) (a_ci (e_i 7) (a_ci (e_add (e_callI M_X5_at (a_cr (e_getR 0 1 (e_r 0)) (a_ci (e_i 7) a_nil))) (e_i 2)) a_nil)))) [.ref b, .int (nI n), .int dc, .int dm, .int (nI r), .int (nI t), .int (nI q), .int (nI j)] σ1 = some (.inr ([.ref b, .int (nI n), .int dc, .int dm, .int (nI r), .int (nI t), .int (nI q), .int (nI j)], σ2)) := by
    simp only [x_and, x_or, x_shl, x_shr, x_k, x_i, x_r, x_nil, x_add, x_sub, x_mul, x_div, x_rem, x_get, x_getR, x_ald, x_aldR, x_len, x_lenR, x_if, xa_nil, xa_ci, xa_cr, x_callI, x_callR, x_new, x_newa, x_newq, x_max, x_min, xc_cmp, xc_cmp0, xc_null, xc_nn, xc_not, xc_and, xc_or, xc_if, xs_skip, xs_seq, xs_decI, xs_decR, xs_setI, xs_inc, xs_if, xs_blk, xs_retI, xs_retB, xs_retR, xs_retD, xs_ret0, xs_putI, xs_putZ, xs_putR, xs_putop, xs_ast, xs_astop, xs_astR, xs_callV, xs_callP, xs_super, xs_sw, s_go_inl, s_go_inr, s_cut_inl, s_cut_inr, o_void_n, v_i_int, v_i_none, v_r_ref, v_r_null, v_r_rf, h_set_some, o_some_s, zB_ne0, zB_ite, zB_ite2, g_Vn, g_Pi, nI_add, Option.bind_some, Option.map_some, Option.bind_none, Option.map_none, List.getElem?_cons_zero, List.getElem?_cons_succ, List.set_cons_zero, List.set_cons_succ, List.cons_append, List.nil_append, List.take_succ_cons, List.take_zero, List.length_cons, List.length_nil, Nat.zero_add, Nat.reduceAdd, Nat.reduceLT, if_true, if_false, Bool.false_eq_true, Bool.true_eq_false, decide_eq_true_eq, decide_true, decide_false, Bool.not_true, Bool.not_false, Option.isNone_none, Option.isNone_some, Option.isSome_none, Option.isSome_some, ite_true, ite_false, reduceIte, reduceCtorEq, and_true, true_and, eq_self, Option.some.injEq, Sum.inr.injEq, Sum.inl.injEq, Prod.mk.injEq, h_obj_eq hA1.1, v_rf, a1, a2]
  have P9 : (s_callV M_X5_put (a_cr (e_getR 0 2 (e_r 0)) (a_ci (e_i 7) (a_ci (e_add (e_callI M_X5_at (a_cr (e_getR 0 2 (e_r 0)) (a_ci (e_i 7) a_nil))) (e_i 3)) a_nil)))) [.ref b, .int (nI n), .int dc, .int dm, .int (nI r), .int (nI t), .int (nI q), .int (nI j)] σ2 = some (.inr ([.ref b, .int (nI n), .int dc, .int dm, .int (nI r), .int (nI t), .int (nI q), .int (nI j)], σ3)) := by
    simp only [x_and, x_or, x_shl, x_shr, x_k, x_i, x_r, x_nil, x_add, x_sub, x_mul, x_div, x_rem, x_get, x_getR, x_ald, x_aldR, x_len, x_lenR, x_if, xa_nil, xa_ci, xa_cr, x_callI, x_callR, x_new, x_newa, x_newq, x_max, x_min, xc_cmp, xc_cmp0, xc_null, xc_nn, xc_not, xc_and, xc_or, xc_if, xs_skip, xs_seq, xs_decI, xs_decR, xs_setI, xs_inc, xs_if, xs_blk, xs_retI, xs_retB, xs_retR, xs_retD, xs_ret0, xs_putI, xs_putZ, xs_putR, xs_putop, xs_ast, xs_astop, xs_astR, xs_callV, xs_callP, xs_super, xs_sw, s_go_inl, s_go_inr, s_cut_inl, s_cut_inr, o_void_n, v_i_int, v_i_none, v_r_ref, v_r_null, v_r_rf, h_set_some, o_some_s, zB_ne0, zB_ite, zB_ite2, g_Vn, g_Pi, nI_add, Option.bind_some, Option.map_some, Option.bind_none, Option.map_none, List.getElem?_cons_zero, List.getElem?_cons_succ, List.set_cons_zero, List.set_cons_succ, List.cons_append, List.nil_append, List.take_succ_cons, List.take_zero, List.length_cons, List.length_nil, Nat.zero_add, Nat.reduceAdd, Nat.reduceLT, if_true, if_false, Bool.false_eq_true, Bool.true_eq_false, decide_eq_true_eq, decide_true, decide_false, Bool.not_true, Bool.not_false, Option.isNone_none, Option.isNone_some, Option.isSome_none, Option.isSome_some, ite_true, ite_false, reduceIte, reduceCtorEq, and_true, true_and, eq_self, Option.some.injEq, Sum.inr.injEq, Sum.inl.injEq, Prod.mk.injEq, h_obj_eq hA2'.1, v_rf, a3, a4]
  have P10 : (s_setI 4 (e_callI M_X7_quotient (a_ci (e_i 4) (a_ci (e_i 6) a_nil)))) [.ref b, .int (nI n), .int dc, .int dm, .int (nI r), .int (nI t), .int (nI q), .int (nI j)] σ3 = some (.inr ([.ref b, .int (nI n), .int dc, .int dm, .int (nI (r / q)), .int (nI t), .int (nI q), .int (nI j)], σ3)) := by
    simp only [x_and, x_or, x_shl, x_shr, x_k, x_i, x_r, x_nil, x_add, x_sub, x_mul, x_div, x_rem, x_get, x_getR, x_ald, x_aldR, x_len, x_lenR, x_if, xa_nil, xa_ci, xa_cr, x_callI, x_callR, x_new, x_newa, x_newq, x_max, x_min, xc_cmp, xc_cmp0, xc_null, xc_nn, xc_not, xc_and, xc_or, xc_if, xs_skip, xs_seq, xs_decI, xs_decR, xs_setI, xs_inc, xs_if, xs_blk, xs_retI, xs_retB, xs_retR, xs_retD, xs_ret0, xs_putI, xs_putZ, xs_putR, xs_putop, xs_ast, xs_astop, xs_astR, xs_callV, xs_callP, xs_super, xs_sw, s_go_inl, s_go_inr, s_cut_inl, s_cut_inr, o_void_n, v_i_int, v_i_none, v_r_ref, v_r_null, v_r_rf, h_set_some, o_some_s, zB_ne0, zB_ite, zB_ite2, g_Vn, g_Pi, nI_add, Option.bind_some, Option.map_some, Option.bind_none, Option.map_none, List.getElem?_cons_zero, List.getElem?_cons_succ, List.set_cons_zero, List.set_cons_succ, List.cons_append, List.nil_append, List.take_succ_cons, List.take_zero, List.length_cons, List.length_nil, Nat.zero_add, Nat.reduceAdd, Nat.reduceLT, if_true, if_false, Bool.false_eq_true, Bool.true_eq_false, decide_eq_true_eq, decide_true, decide_false, Bool.not_true, Bool.not_false, Option.isNone_none, Option.isNone_some, Option.isSome_none, Option.isSome_some, ite_true, ite_false, reduceIte, reduceCtorEq, and_true, true_and, eq_self, Option.some.injEq, Sum.inr.injEq, Sum.inl.injEq, Prod.mk.injEq, f_quotient (show r < 2 ^ 31 by omega) (show q < 2 ^ 31 by omega), show 0 < q by omega]
  have P7' : ∀ T : sStm, s_seq (s_decI 7 (e_callI M_X0_placeOf (a_cr (e_r 0) (a_ci (e_i 6) a_nil)))) (s_seq (s_if (c_cmp i_eq (e_i 7) (e_k (-1))) (s_setI 7 (e_callI M_X0_openPlace (a_cr (e_r 0) (a_ci (e_i 6) a_nil)))) s_skip) T) [.ref b, .int (nI n), .int dc, .int dm, .int (nI r), .int (nI t), .int (nI q)] σ = T [.ref b, .int (nI n), .int dc, .int dm, .int (nI r), .int (nI t), .int (nI q), .int (nI j)] σ1 := by
    intro T
    exact seq_as P7
  have hb : (s_seq (s_decI 6 (e_callI M_X7_leastPrime (a_ci (e_i 4) a_nil))) (s_seq (s_decI 7 (e_callI M_X0_placeOf (a_cr (e_r 0) (a_ci (e_i 6) a_nil)))) (s_seq (s_if (c_cmp i_eq (e_i 7) (e_k (-1))) (s_setI 7 (e_callI M_X0_openPlace (a_cr (e_r 0) (a_ci (e_i 6) a_nil)))) s_skip) (s_seq (s_callV M_X5_put (a_cr (e_getR 0 1 (e_r 0)) (a_ci (e_i 7) (a_ci (e_add (e_callI M_X5_at (a_cr (e_getR 0 1 (e_r 0)) (a_ci (e_i 7) a_nil))) (e_i 2)) a_nil)))) (s_seq (s_callV M_X5_put (a_cr (e_getR 0 2 (e_r 0)) (a_ci (e_i 7) (a_ci (e_add (e_callI M_X5_at (a_cr (e_getR 0 2 (e_r 0)) (a_ci (e_i 7) a_nil))) (e_i 3)) a_nil)))) (s_setI 4 (e_callI M_X7_quotient (a_ci (e_i 4) (a_ci (e_i 6) a_nil))))))))) [.ref b, .int (nI n), .int dc, .int dm, .int (nI r), .int (nI t)] σ = some (.inr ([.ref b, .int (nI n), .int dc, .int dm, .int (nI (r / q)), .int (nI t), .int (nI q), .int (nI j)], σ3)) :=
    (seq_r P6).trans ((P7' _).trans ((seq_r P8).trans ((seq_r P9).trans P10)))
  refine (seq_r (L1 := [.ref b, .int (nI n), .int dc, .int dm, .int (nI (r / q)), .int (nI t)]) (σ1 := σ3) ?_).trans ?_
  · rw [xs_blk, hb]
    rfl
  · simp only [x_and, x_or, x_shl, x_shr, x_k, x_i, x_r, x_nil, x_add, x_sub, x_mul, x_div, x_rem, x_get, x_getR, x_ald, x_aldR, x_len, x_lenR, x_if, xa_nil, xa_ci, xa_cr, x_callI, x_callR, x_new, x_newa, x_newq, x_max, x_min, xc_cmp, xc_cmp0, xc_null, xc_nn, xc_not, xc_and, xc_or, xc_if, xs_skip, xs_seq, xs_decI, xs_decR, xs_setI, xs_inc, xs_if, xs_blk, xs_retI, xs_retB, xs_retR, xs_retD, xs_ret0, xs_putI, xs_putZ, xs_putR, xs_putop, xs_ast, xs_astop, xs_astR, xs_callV, xs_callP, xs_super, xs_sw, s_go_inl, s_go_inr, s_cut_inl, s_cut_inr, o_void_n, v_i_int, v_i_none, v_r_ref, v_r_null, v_r_rf, h_set_some, o_some_s, zB_ne0, zB_ite, zB_ite2, g_Vn, g_Pi, nI_add, Option.bind_some, Option.map_some, Option.bind_none, Option.map_none, List.getElem?_cons_zero, List.getElem?_cons_succ, List.set_cons_zero, List.set_cons_succ, List.cons_append, List.nil_append, List.take_succ_cons, List.take_zero, List.length_cons, List.length_nil, Nat.zero_add, Nat.reduceAdd, Nat.reduceLT, if_true, if_false, Bool.false_eq_true, Bool.true_eq_false, decide_eq_true_eq, decide_true, decide_false, Bool.not_true, Bool.not_false, Option.isNone_none, Option.isNone_some, Option.isSome_none, Option.isSome_some, ite_true, ite_false, reduceIte, reduceCtorEq, and_true, true_and, eq_self, Option.some.injEq, Sum.inr.injEq, Sum.inl.injEq, Prod.mk.injEq]
theorem f_book (hA : AccAt σ b p c ps ch cm) (hk : okA ps ch cm) {n : Nat} (dc dm : Int32) (h1n : 1 ≤ n) (hn : n ≤ 9999) :
    ∃ σ' p' c' ps', M_X0_book [.ref b, .int (nI n), .int dc, .int dm] σ = some (none, σ') ∧ AccAt σ' b p' c' ps' (bkL dc (fac n) ch) (bkL dm (fac n) cm) ∧ okA ps' (bkL dc (fac n) ch) (bkL dm (fac n) cm) ∧ EffA σ σ' b p c p' c' := by
  have hkl := hA.2.1
  have hc := hA.2.2.2.1
  obtain ⟨σ1, p1, c1, m1, hA1, hcap, hE1⟩ := f_makeRoom hA (m := ps.length + 5) (by omega)
  have key : ∀ (d r t : Nat) (σ : sSt) (nw : List Nat) (ch cm : Nat → Int32), 1 ≤ r → r ∣ n → (fac r).length = d → t + d ≤ 13 → AccAt σ b p1 c1 (ps ++ nw) ch cm → okA (ps ++ nw) ch cm → (∀ q ∈ nw, q ∈ dfac n) → ∀ F, d < F → ∃ r' t' σ' ps', s_wh C_X0_book_1 W_X0_book_1 F [.ref b, .int (nI n), .int dc, .int dm, .int (nI r), .int (nI t)] σ = some (.inr ([.ref b, .int (nI n), .int dc, .int dm, .int (nI r'), .int (nI t')], σ')) ∧ AccAt σ' b p1 c1 ps' (bkL dc (fac r) ch) (bkL dm (fac r) cm) ∧ okA ps' (bkL dc (fac r) ch) (bkL dm (fac r) cm) ∧ EffA σ σ' b p1 c1 p1 c1 := by
    intro d
    induction d with
    | zero =>
      intro r t σ nw ch cm h1 hd he ht hA hk hnw F hF
      obtain ⟨F, rfl⟩ : ∃ F', F = F' + 1 := ⟨F - 1, by omega⟩
      have hrn := Nat.le_of_dvd h1n hd
      have hq : ¬ 2 ≤ r := fun h => by rw [fac_c h] at he; simp at he
      refine ⟨r, t, σ, ps ++ nw, wh_F ?_, ?_, ?_, hA.rf⟩
      · simp only [x_and, x_or, x_shl, x_shr, x_k, x_i, x_r, x_nil, x_add, x_sub, x_mul, x_div, x_rem, x_get, x_getR, x_ald, x_aldR, x_len, x_lenR, x_if, xa_nil, xa_ci, xa_cr, x_callI, x_callR, x_new, x_newa, x_newq, x_max, x_min, xc_cmp, xc_cmp0, xc_null, xc_nn, xc_not, xc_and, xc_or, xc_if, xs_skip, xs_seq, xs_decI, xs_decR, xs_setI, xs_inc, xs_if, xs_blk, xs_retI, xs_retB, xs_retR, xs_retD, xs_ret0, xs_putI, xs_putZ, xs_putR, xs_putop, xs_ast, xs_astop, xs_astR, xs_callV, xs_callP, xs_super, xs_sw, s_go_inl, s_go_inr, s_cut_inl, s_cut_inr, o_void_n, v_i_int, v_i_none, v_r_ref, v_r_null, v_r_rf, h_set_some, o_some_s, zB_ne0, zB_ite, zB_ite2, g_Vn, g_Pi, nI_add, Option.bind_some, Option.map_some, Option.bind_none, Option.map_none, List.getElem?_cons_zero, List.getElem?_cons_succ, List.set_cons_zero, List.set_cons_succ, List.cons_append, List.nil_append, List.take_succ_cons, List.take_zero, List.length_cons, List.length_nil, Nat.zero_add, Nat.reduceAdd, Nat.reduceLT, if_true, if_false, Bool.false_eq_true, Bool.true_eq_false, decide_eq_true_eq, decide_true, decide_false, Bool.not_true, Bool.not_false, Option.isNone_none, Option.isNone_some, Option.isSome_none, Option.isSome_some, ite_true, ite_false, reduceIte, reduceCtorEq, and_true, true_and, eq_self, Option.some.injEq, Sum.inr.injEq, Sum.inl.injEq, Prod.mk.injEq, j_lt (show t < 2 ^ 31 by omega) (show 13 < 2 ^ 31 by omega), j_gt (show r < 2 ^ 31 by omega) (show 1 < 2 ^ 31 by omega), show ¬ 1 < r by omega]
        by_cases h : t < 13
        · simp [h]
        · simp [h]
      · rw [fac_s hq]; exact hA
      · rw [fac_s hq]; exact hk
    | succ d ih =>
      intro r t σ nw ch cm h1 hd he ht hA hk hnw F hF
      obtain ⟨F, rfl⟩ : ∃ F', F = F' + 1 := ⟨F - 1, by omega⟩
      have hrn := Nat.le_of_dvd h1n hd
      have hq : 2 ≤ r := by
        rcases Nat.lt_or_ge r 2 with h | h
        · rw [fac_s (by omega)] at he; simp at he
        · exact h
      have hl := lp_spec hq
      have hmem : lp r ∈ dfac n := (mem_dfac n n (lp r) (Nat.le_refl _) h1n).mpr ⟨lp_pr hq, Nat.dvd_trans hl.1 hd⟩
      have hroom : lp r ∉ ps ++ nw → (ps ++ nw).length < c1 := by
        intro hno
        have hk2 := hk.app ⟨lp_pr hq, by omega⟩ hno
        rcases hcap with hcap | hcap
        · have h5 := dfac_le5 h1n hn
          have hnd : (nw ++ [lp r]).Nodup := by
            have := hk2.1
            rw [List.append_assoc] at this
            exact (List.nodup_append.mp this).2.1
          have := nodup_len (nw ++ [lp r]) (dfac n) hnd (fun q hq => by
            rcases List.mem_append.mp hq with e | e
            · exact hnw q e
            · rw [List.mem_singleton] at e; rw [e]; exact hmem)
          rw [List.length_append, List.length_singleton] at this
          rw [List.length_append]
          omega
        · have := pr_many hk2.1 hk2.2.1
          rw [List.length_append, List.length_singleton] at this
          omega
      obtain ⟨σ2, ps2, w1, hA2, hk2, hE2, hps2⟩ := f_book1 (n := n) (t := t) (dc := dc) (dm := dm) hA hk hq (by omega) hroom
      have hcond : C_X0_book_1 [.ref b, .int (nI n), .int dc, .int dm, .int (nI r), .int (nI t)] σ = some (true, σ) := by
        simp only [x_and, x_or, x_shl, x_shr, x_k, x_i, x_r, x_nil, x_add, x_sub, x_mul, x_div, x_rem, x_get, x_getR, x_ald, x_aldR, x_len, x_lenR, x_if, xa_nil, xa_ci, xa_cr, x_callI, x_callR, x_new, x_newa, x_newq, x_max, x_min, xc_cmp, xc_cmp0, xc_null, xc_nn, xc_not, xc_and, xc_or, xc_if, xs_skip, xs_seq, xs_decI, xs_decR, xs_setI, xs_inc, xs_if, xs_blk, xs_retI, xs_retB, xs_retR, xs_retD, xs_ret0, xs_putI, xs_putZ, xs_putR, xs_putop, xs_ast, xs_astop, xs_astR, xs_callV, xs_callP, xs_super, xs_sw, s_go_inl, s_go_inr, s_cut_inl, s_cut_inr, o_void_n, v_i_int, v_i_none, v_r_ref, v_r_null, v_r_rf, h_set_some, o_some_s, zB_ne0, zB_ite, zB_ite2, g_Vn, g_Pi, nI_add, Option.bind_some, Option.map_some, Option.bind_none, Option.map_none, List.getElem?_cons_zero, List.getElem?_cons_succ, List.set_cons_zero, List.set_cons_succ, List.cons_append, List.nil_append, List.take_succ_cons, List.take_zero, List.length_cons, List.length_nil, Nat.zero_add, Nat.reduceAdd, Nat.reduceLT, if_true, if_false, Bool.false_eq_true, Bool.true_eq_false, decide_eq_true_eq, decide_true, decide_false, Bool.not_true, Bool.not_false, Option.isNone_none, Option.isNone_some, Option.isSome_none, Option.isSome_some, ite_true, ite_false, reduceIte, reduceCtorEq, and_true, true_and, eq_self, Option.some.injEq, Sum.inr.injEq, Sum.inl.injEq, Prod.mk.injEq, j_lt (show t < 2 ^ 31 by omega) (show 13 < 2 ^ 31 by omega), j_gt (show r < 2 ^ 31 by omega) (show 1 < 2 ^ 31 by omega), show 1 < r by omega, show t < 13 by omega]
      obtain ⟨nw2, hnw2, hnw3⟩ : ∃ nw2, ps2 = ps ++ nw2 ∧ ∀ q ∈ nw2, q ∈ dfac n := by
        rcases hps2 with e | ⟨-, e⟩
        · exact ⟨nw, e, hnw⟩
        · refine ⟨nw ++ [lp r], by rw [e, List.append_assoc], fun q hq => ?_⟩
          rcases List.mem_append.mp hq with z | z
          · exact hnw q z
          · rw [List.mem_singleton] at z; rw [z]; exact hmem
      rw [hnw2] at hA2 hk2
      obtain ⟨r', t', σ', ps', i1, i2, i3, i4⟩ := ih (r / lp r) (t + 1) σ2 nw2 _ _ (lp_div_pos hq) (Nat.dvd_trans (Nat.div_dvd_of_dvd hl.1) hd) (by rw [fac_c hq] at he; simpa using he) (by omega) hA2 hk2 hnw3 F (by omega)
      refine ⟨r', t', σ', ps', ?_, ?_, ?_, hE2.tr i4⟩
      · rw [wh_T hcond w1, i1]
      · rw [fac_c hq]; exact i2
      · rw [fac_c hq]; exact i3
  obtain ⟨r', t', σ', ps', i1, i2, i3, i4⟩ := key (fac n).length n 0 σ1 [] ch cm h1n (Nat.dvd_refl _) rfl (by have := fac_le13 hn; omega) (by rw [List.append_nil]; exact hA1) (by rw [List.append_nil]; exact hk) (fun q h => by cases h) s_FUEL (by have := fac_le13 hn; unfold s_FUEL; omega)
  have hw : s_while C_X0_book_1 W_X0_book_1 _ _ = _ := i1
  refine ⟨σ', p1, c1, ps', mV_eq hA.1 rfl rfl ?_, i2, i3, hE1.tr i4⟩
  unfold B_X0_book
  have P1 : (s_callV M_X0_makeRoom (a_cr (e_r 0) (a_ci (e_add (e_get 0 3 (e_r 0)) (e_k (nI 5))) a_nil))) [.ref b, .int (nI n), .int dc, .int dm] σ = some (.inr ([.ref b, .int (nI n), .int dc, .int dm], σ1)) := by
    simp only [x_and, x_or, x_shl, x_shr, x_k, x_i, x_r, x_nil, x_add, x_sub, x_mul, x_div, x_rem, x_get, x_getR, x_ald, x_aldR, x_len, x_lenR, x_if, xa_nil, xa_ci, xa_cr, x_callI, x_callR, x_new, x_newa, x_newq, x_max, x_min, xc_cmp, xc_cmp0, xc_null, xc_nn, xc_not, xc_and, xc_or, xc_if, xs_skip, xs_seq, xs_decI, xs_decR, xs_setI, xs_inc, xs_if, xs_blk, xs_retI, xs_retB, xs_retR, xs_retD, xs_ret0, xs_putI, xs_putZ, xs_putR, xs_putop, xs_ast, xs_astop, xs_astR, xs_callV, xs_callP, xs_super, xs_sw, s_go_inl, s_go_inr, s_cut_inl, s_cut_inr, o_void_n, v_i_int, v_i_none, v_r_ref, v_r_null, v_r_rf, h_set_some, o_some_s, zB_ne0, zB_ite, zB_ite2, g_Vn, g_Pi, nI_add, Option.bind_some, Option.map_some, Option.bind_none, Option.map_none, List.getElem?_cons_zero, List.getElem?_cons_succ, List.set_cons_zero, List.set_cons_succ, List.cons_append, List.nil_append, List.take_succ_cons, List.take_zero, List.length_cons, List.length_nil, Nat.zero_add, Nat.reduceAdd, Nat.reduceLT, if_true, if_false, Bool.false_eq_true, Bool.true_eq_false, decide_eq_true_eq, decide_true, decide_false, Bool.not_true, Bool.not_false, Option.isNone_none, Option.isNone_some, Option.isSome_none, Option.isSome_some, ite_true, ite_false, reduceIte, reduceCtorEq, and_true, true_and, eq_self, Option.some.injEq, Sum.inr.injEq, Sum.inl.injEq, Prod.mk.injEq, h_obj_eq hA.1, v_rf, m1]
  have hin : s_seq (s_decI 4 (e_i 1)) (s_blk 5 (s_seq (s_decI 5 (e_k (nI 0))) (s_while C_X0_book_1 W_X0_book_1))) [.ref b, .int (nI n), .int dc, .int dm] σ1 = some (.inr ([.ref b, .int (nI n), .int dc, .int dm, .int (nI r')], σ')) := by
    simp only [x_and, x_or, x_shl, x_shr, x_k, x_i, x_r, x_nil, x_add, x_sub, x_mul, x_div, x_rem, x_get, x_getR, x_ald, x_aldR, x_len, x_lenR, x_if, xa_nil, xa_ci, xa_cr, x_callI, x_callR, x_new, x_newa, x_newq, x_max, x_min, xc_cmp, xc_cmp0, xc_null, xc_nn, xc_not, xc_and, xc_or, xc_if, xs_skip, xs_seq, xs_decI, xs_decR, xs_setI, xs_inc, xs_if, xs_blk, xs_retI, xs_retB, xs_retR, xs_retD, xs_ret0, xs_putI, xs_putZ, xs_putR, xs_putop, xs_ast, xs_astop, xs_astR, xs_callV, xs_callP, xs_super, xs_sw, s_go_inl, s_go_inr, s_cut_inl, s_cut_inr, o_void_n, v_i_int, v_i_none, v_r_ref, v_r_null, v_r_rf, h_set_some, o_some_s, zB_ne0, zB_ite, zB_ite2, g_Vn, g_Pi, nI_add, Option.bind_some, Option.map_some, Option.bind_none, Option.map_none, List.getElem?_cons_zero, List.getElem?_cons_succ, List.set_cons_zero, List.set_cons_succ, List.cons_append, List.nil_append, List.take_succ_cons, List.take_zero, List.length_cons, List.length_nil, Nat.zero_add, Nat.reduceAdd, Nat.reduceLT, if_true, if_false, Bool.false_eq_true, Bool.true_eq_false, decide_eq_true_eq, decide_true, decide_false, Bool.not_true, Bool.not_false, Option.isNone_none, Option.isNone_some, Option.isSome_none, Option.isSome_some, ite_true, ite_false, reduceIte, reduceCtorEq, and_true, true_and, eq_self, Option.some.injEq, Sum.inr.injEq, Sum.inl.injEq, Prod.mk.injEq, hw]
  exact (seq_r ((seq_r P1).trans hin)).trans rfl
/-- accounts of another object are copied in -/
theorem f_accCopy {b2 p2 c2 : Nat} {ps2 : List Nat} {ch2 cm2 : Nat → Int32} (hA : AccAt σ b p c ps ch cm) (hB : AccAt σ b2 p2 c2 ps2 ch2 cm2) (hk : okA ps2 ch2 cm2) (hbb : b ≠ b2) (hd1 : p + 3 ≤ p2 ∨ p2 + 3 ≤ p) (hd2 : b2 < p ∨ p + 3 ≤ b2) (hd3 : b < p2 ∨ p2 + 3 ≤ b) :
    ∃ σ' p' c', M_X0_copyFrom [.ref b, .ref b2] σ = some (none, σ') ∧ AccAt σ' b p' c' ps2 ch2 cm2 ∧ EffA σ σ' b p c p' c' := by
  have hkl := pr_many hk.1 hk.2.1
  obtain ⟨σ1, p1, c1, m1, hA1, hcap, hE1⟩ := f_makeRoom hA (m := ps2.length) (by omega)
  have hlB : b2 < σ.1.length := (List.getElem?_eq_some_iff.mp hB.1).1
  have hlp2 : p2 + 2 < σ.1.length := by
    obtain ⟨-, -, -, -, -, _, _, _, -, -, h2, -⟩ := hB
    exact (List.getElem?_eq_some_iff.mp h2).1
  have hp1 : p1 = p ∨ σ.1.length ≤ p1 := by rcases hE1.2.1 with ⟨e, -⟩ | e; exact Or.inl e; exact Or.inr e
  have hB1 : AccAt σ1 b2 p2 c2 ps2 ch2 cm2 := hB.keep hE1.1 ⟨by omega, by omega, by omega, by omega⟩
  obtain ⟨g1, g2, g3, g4, g5, fp, fc, fm, e1, e2, e3, e4⟩ := hA1
  obtain ⟨k1, k2, k3, k4, k5, fp2, fc2, fm2, u1, u2, u3, u4⟩ := hB1
  have hl1 : p1 + 2 < σ1.1.length := (List.getElem?_eq_some_iff.mp e3).1
  have hlb1 : b < σ1.1.length := (List.getElem?_eq_some_iff.mp g1).1
  have hne : p1 + 3 ≤ p2 ∨ p2 + 3 ≤ p1 := by omega
  have hb2 : b2 < p1 ∨ p1 + 3 ≤ b2 := by omega
  obtain ⟨n, hn⟩ : ∃ n, n = ps2.length := ⟨_, rfl⟩
  rw [← hn] at k1 hcap
  have hnc : n ≤ c1 ∧ n ≤ c2 := by omega
  let τ0 : sSt := (σ1.1.set b (.inl (0, [.ref p1, .ref (p1 + 1), .ref (p1 + 2), .int (nI n)])), σ1.2)
  have t0 : ∀ i, i ≠ b → τ0.1[i]? = σ1.1[i]? := fun i hi => List.getElem?_set_ne (Ne.symm hi)
  have o0 : τ0.1[b]? = some (.inl (0, [.ref p1, .ref (p1 + 1), .ref (p1 + 2), .int (nI n)])) := List.getElem?_set_self hlb1
  have w1 := f_copy (σ := τ0) (a := p2) (b := p1) (m := n) (by omega) ((t0 p2 (by omega)).trans u1) ((t0 p1 (by omega)).trans e1) (show c2 < 2 ^ 31 by omega) (show c1 < 2 ^ 31 by omega) hnc.2 hnc.1
  let τ1 : sSt := (τ0.1.set p1 (.inr (.inl (c1, fun i => if i < n then fp2 i else fp i))), τ0.2)
  have t1 : ∀ i, i ≠ p1 → τ1.1[i]? = τ0.1[i]? := fun i hi => List.getElem?_set_ne (Ne.symm hi)
  have o1 : τ1.1[b]? = _ := (t1 b (by omega)).trans o0
  have w2 := f_copy (σ := τ1) (a := p2 + 1) (b := p1 + 1) (m := n) (by omega) ((t1 (p2 + 1) (by omega)).trans ((t0 (p2 + 1) (by omega)).trans u2)) ((t1 (p1 + 1) (by omega)).trans ((t0 (p1 + 1) (by omega)).trans e2)) (show c2 < 2 ^ 31 by omega) (show c1 < 2 ^ 31 by omega) hnc.2 hnc.1
  let τ2 : sSt := (τ1.1.set (p1 + 1) (.inr (.inl (c1, fun i => if i < n then fc2 i else fc i))), τ1.2)
  have t2 : ∀ i, i ≠ p1 + 1 → τ2.1[i]? = τ1.1[i]? := fun i hi => List.getElem?_set_ne (Ne.symm hi)
  have o2 : τ2.1[b]? = _ := (t2 b (by omega)).trans o1
  have w3 := f_copy (σ := τ2) (a := p2 + 2) (b := p1 + 2) (m := n) (by omega) ((t2 (p2 + 2) (by omega)).trans ((t1 (p2 + 2) (by omega)).trans ((t0 (p2 + 2) (by omega)).trans u3))) ((t2 (p1 + 2) (by omega)).trans ((t1 (p1 + 2) (by omega)).trans ((t0 (p1 + 2) (by omega)).trans e3))) (show c2 < 2 ^ 31 by omega) (show c1 < 2 ^ 31 by omega) hnc.2 hnc.1
  let τ3 : sSt := (τ2.1.set (p1 + 2) (.inr (.inl (c1, fun i => if i < n then fm2 i else fm i))), τ2.2)
  have t3 : ∀ i, i ≠ p1 + 2 → τ3.1[i]? = τ2.1[i]? := fun i hi => List.getElem?_set_ne (Ne.symm hi)
  have o3 : τ3.1[b]? = _ := (t3 b (by omega)).trans o2
  have l0 : τ0.1.length = σ1.1.length := List.length_set
  have l1 : τ1.1.length = σ1.1.length := List.length_set.trans l0
  have l2 : τ2.1.length = σ1.1.length := List.length_set.trans l1
  have l3 : τ3.1.length = σ1.1.length := List.length_set.trans l2
  have ob2 : ∀ τ : sSt, τ.1[b2]? = σ1.1[b2]? → τ.1[b2]? = some (.inl (0, [.ref p2, .ref (p2 + 1), .ref (p2 + 2), .int (nI n)])) := fun τ h => h.trans k1
  have ob0 := ob2 τ0 (t0 b2 (Ne.symm hbb))
  have ob1 := ob2 τ1 ((t1 b2 (by omega)).trans (t0 b2 (Ne.symm hbb)))
  have ob3 := ob2 τ2 ((t2 b2 (by omega)).trans ((t1 b2 (by omega)).trans (t0 b2 (Ne.symm hbb))))
  refine ⟨τ3, p1, c1, mV_eq hA.1 rfl rfl ?_, ⟨by rw [← hn]; exact o3, by omega, g3, g4, g5, fun i => if i < n then fp2 i else fp i, fun i => if i < n then fc2 i else fc i, fun i => if i < n then fm2 i else fm i, ?_, ?_, ?_, ?_⟩, hE1.tr ?_⟩
  · have P0 : (s_callV M_X0_makeRoom (a_cr (e_r 0) (a_ci (e_get 0 3 (e_r 1)) a_nil))) [.ref b, .ref b2] σ = some (.inr ([.ref b, .ref b2], σ1)) := by
      simp only [x_and, x_or, x_shl, x_shr, x_k, x_i, x_r, x_nil, x_add, x_sub, x_mul, x_div, x_rem, x_get, x_getR, x_ald, x_aldR, x_len, x_lenR, x_if, xa_nil, xa_ci, xa_cr, x_callI, x_callR, x_new, x_newa, x_newq, x_max, x_min, xc_cmp, xc_cmp0, xc_null, xc_nn, xc_not, xc_and, xc_or, xc_if, xs_skip, xs_seq, xs_decI, xs_decR, xs_setI, xs_inc, xs_if, xs_blk, xs_retI, xs_retB, xs_retR, xs_retD, xs_ret0, xs_putI, xs_putZ, xs_putR, xs_putop, xs_ast, xs_astop, xs_astR, xs_callV, xs_callP, xs_super, xs_sw, s_go_inl, s_go_inr, s_cut_inl, s_cut_inr, o_void_n, v_i_int, v_i_none, v_r_ref, v_r_null, v_r_rf, h_set_some, o_some_s, zB_ne0, zB_ite, zB_ite2, g_Vn, g_Pi, nI_add, Option.bind_some, Option.map_some, Option.bind_none, Option.map_none, List.getElem?_cons_zero, List.getElem?_cons_succ, List.set_cons_zero, List.set_cons_succ, List.cons_append, List.nil_append, List.take_succ_cons, List.take_zero, List.length_cons, List.length_nil, Nat.zero_add, Nat.reduceAdd, Nat.reduceLT, if_true, if_false, Bool.false_eq_true, Bool.true_eq_false, decide_eq_true_eq, decide_true, decide_false, Bool.not_true, Bool.not_false, Option.isNone_none, Option.isNone_some, Option.isSome_none, Option.isSome_some, ite_true, ite_false, reduceIte, reduceCtorEq, and_true, true_and, eq_self, Option.some.injEq, Sum.inr.injEq, Sum.inl.injEq, Prod.mk.injEq, h_obj_eq hB.1, v_rf, m1]
    have Q0 : (s_putI 0 3 (e_r 0) (e_get 0 3 (e_r 1))) [.ref b, .ref b2] σ1 = some (.inr ([.ref b, .ref b2], τ0)) := by
      simp only [x_and, x_or, x_shl, x_shr, x_k, x_i, x_r, x_nil, x_add, x_sub, x_mul, x_div, x_rem, x_get, x_getR, x_ald, x_aldR, x_len, x_lenR, x_if, xa_nil, xa_ci, xa_cr, x_callI, x_callR, x_new, x_newa, x_newq, x_max, x_min, xc_cmp, xc_cmp0, xc_null, xc_nn, xc_not, xc_and, xc_or, xc_if, xs_skip, xs_seq, xs_decI, xs_decR, xs_setI, xs_inc, xs_if, xs_blk, xs_retI, xs_retB, xs_retR, xs_retD, xs_ret0, xs_putI, xs_putZ, xs_putR, xs_putop, xs_ast, xs_astop, xs_astR, xs_callV, xs_callP, xs_super, xs_sw, s_go_inl, s_go_inr, s_cut_inl, s_cut_inr, o_void_n, v_i_int, v_i_none, v_r_ref, v_r_null, v_r_rf, h_set_some, o_some_s, zB_ne0, zB_ite, zB_ite2, g_Vn, g_Pi, nI_add, Option.bind_some, Option.map_some, Option.bind_none, Option.map_none, List.getElem?_cons_zero, List.getElem?_cons_succ, List.set_cons_zero, List.set_cons_succ, List.cons_append, List.nil_append, List.take_succ_cons, List.take_zero, List.length_cons, List.length_nil, Nat.zero_add, Nat.reduceAdd, Nat.reduceLT, if_true, if_false, Bool.false_eq_true, Bool.true_eq_false, decide_eq_true_eq, decide_true, decide_false, Bool.not_true, Bool.not_false, Option.isNone_none, Option.isNone_some, Option.isSome_none, Option.isSome_some, ite_true, ite_false, reduceIte, reduceCtorEq, and_true, true_and, eq_self, Option.some.injEq, Sum.inr.injEq, Sum.inl.injEq, Prod.mk.injEq, h_obj_eq g1, h_obj_eq k1]
      rfl
    have Q1 : (s_callV M_X5_copy (a_cr (e_getR 0 0 (e_r 1)) (a_cr (e_getR 0 0 (e_r 0)) (a_ci (e_get 0 3 (e_r 0)) a_nil)))) [.ref b, .ref b2] τ0 = some (.inr ([.ref b, .ref b2], τ1)) := by
      simp only [x_and, x_or, x_shl, x_shr, x_k, x_i, x_r, x_nil, x_add, x_sub, x_mul, x_div, x_rem, x_get, x_getR, x_ald, x_aldR, x_len, x_lenR, x_if, xa_nil, xa_ci, xa_cr, x_callI, x_callR, x_new, x_newa, x_newq, x_max, x_min, xc_cmp, xc_cmp0, xc_null, xc_nn, xc_not, xc_and, xc_or, xc_if, xs_skip, xs_seq, xs_decI, xs_decR, xs_setI, xs_inc, xs_if, xs_blk, xs_retI, xs_retB, xs_retR, xs_retD, xs_ret0, xs_putI, xs_putZ, xs_putR, xs_putop, xs_ast, xs_astop, xs_astR, xs_callV, xs_callP, xs_super, xs_sw, s_go_inl, s_go_inr, s_cut_inl, s_cut_inr, o_void_n, v_i_int, v_i_none, v_r_ref, v_r_null, v_r_rf, h_set_some, o_some_s, zB_ne0, zB_ite, zB_ite2, g_Vn, g_Pi, nI_add, Option.bind_some, Option.map_some, Option.bind_none, Option.map_none, List.getElem?_cons_zero, List.getElem?_cons_succ, List.set_cons_zero, List.set_cons_succ, List.cons_append, List.nil_append, List.take_succ_cons, List.take_zero, List.length_cons, List.length_nil, Nat.zero_add, Nat.reduceAdd, Nat.reduceLT, if_true, if_false, Bool.false_eq_true, Bool.true_eq_false, decide_eq_true_eq, decide_true, decide_false, Bool.not_true, Bool.not_false, Option.isNone_none, Option.isNone_some, Option.isSome_none, Option.isSome_some, ite_true, ite_false, reduceIte, reduceCtorEq, and_true, true_and, eq_self, Option.some.injEq, Sum.inr.injEq, Sum.inl.injEq, Prod.mk.injEq, h_obj_eq o0, h_obj_eq ob0, v_rf, w1]
      rfl
    have Q2 : (s_callV M_X5_copy (a_cr (e_getR 0 1 (e_r 1)) (a_cr (e_getR 0 1 (e_r 0)) (a_ci (e_get 0 3 (e_r 0)) a_nil)))) [.ref b, .ref b2] τ1 = some (.inr ([.ref b, .ref b2], τ2)) := by
      simp only [x_and, x_or, x_shl, x_shr, x_k, x_i, x_r, x_nil, x_add, x_sub, x_mul, x_div, x_rem, x_get, x_getR, x_ald, x_aldR, x_len, x_lenR, x_if, xa_nil, xa_ci, xa_cr, x_callI, x_callR, x_new, x_newa, x_newq, x_max, x_min, xc_cmp, xc_cmp0, xc_null, xc_nn, xc_not, xc_and, xc_or, xc_if, xs_skip, xs_seq, xs_decI, xs_decR, xs_setI, xs_inc, xs_if, xs_blk, xs_retI, xs_retB, xs_retR, xs_retD, xs_ret0, xs_putI, xs_putZ, xs_putR, xs_putop, xs_ast, xs_astop, xs_astR, xs_callV, xs_callP, xs_super, xs_sw, s_go_inl, s_go_inr, s_cut_inl, s_cut_inr, o_void_n, v_i_int, v_i_none, v_r_ref, v_r_null, v_r_rf, h_set_some, o_some_s, zB_ne0, zB_ite, zB_ite2, g_Vn, g_Pi, nI_add, Option.bind_some, Option.map_some, Option.bind_none, Option.map_none, List.getElem?_cons_zero, List.getElem?_cons_succ, List.set_cons_zero, List.set_cons_succ, List.cons_append, List.nil_append, List.take_succ_cons, List.take_zero, List.length_cons, List.length_nil, Nat.zero_add, Nat.reduceAdd, Nat.reduceLT, if_true, if_false, Bool.false_eq_true, Bool.true_eq_false, decide_eq_true_eq, decide_true, decide_false, Bool.not_true, Bool.not_false, Option.isNone_none, Option.isNone_some, Option.isSome_none, Option.isSome_some, ite_true, ite_false, reduceIte, reduceCtorEq, and_true, true_and, eq_self, Option.some.injEq, Sum.inr.injEq, Sum.inl.injEq, Prod.mk.injEq, h_obj_eq o1, h_obj_eq ob1, v_rf, w2]
      rfl
    have Q3 : (s_callV M_X5_copy (a_cr (e_getR 0 2 (e_r 1)) (a_cr (e_getR 0 2 (e_r 0)) (a_ci (e_get 0 3 (e_r 0)) a_nil)))) [.ref b, .ref b2] τ2 = some (.inr ([.ref b, .ref b2], τ3)) := by
      simp only [x_and, x_or, x_shl, x_shr, x_k, x_i, x_r, x_nil, x_add, x_sub, x_mul, x_div, x_rem, x_get, x_getR, x_ald, x_aldR, x_len, x_lenR, x_if, xa_nil, xa_ci, xa_cr, x_callI, x_callR, x_new, x_newa, x_newq, x_max, x_min, xc_cmp, xc_cmp0, xc_null, xc_nn, xc_not, xc_and, xc_or, xc_if, xs_skip, xs_seq, xs_decI, xs_decR, xs_setI, xs_inc, xs_if, xs_blk, xs_retI, xs_retB, xs_retR, xs_retD, xs_ret0, xs_putI, xs_putZ, xs_putR, xs_putop, xs_ast, xs_astop, xs_astR, xs_callV, xs_callP, xs_super, xs_sw, s_go_inl, s_go_inr, s_cut_inl, s_cut_inr, o_void_n, v_i_int, v_i_none, v_r_ref, v_r_null, v_r_rf, h_set_some, o_some_s, zB_ne0, zB_ite, zB_ite2, g_Vn, g_Pi, nI_add, Option.bind_some, Option.map_some, Option.bind_none, Option.map_none, List.getElem?_cons_zero, List.getElem?_cons_succ, List.set_cons_zero, List.set_cons_succ, List.cons_append, List.nil_append, List.take_succ_cons, List.take_zero, List.length_cons, List.length_nil, Nat.zero_add, Nat.reduceAdd, Nat.reduceLT, if_true, if_false, Bool.false_eq_true, Bool.true_eq_false, decide_eq_true_eq, decide_true, decide_false, Bool.not_true, Bool.not_false, Option.isNone_none, Option.isNone_some, Option.isSome_none, Option.isSome_some, ite_true, ite_false, reduceIte, reduceCtorEq, and_true, true_and, eq_self, Option.some.injEq, Sum.inr.injEq, Sum.inl.injEq, Prod.mk.injEq, h_obj_eq o2, h_obj_eq ob3, v_rf, w3]
      rfl
    exact (seq_r ((seq_r P0).trans ((seq_r Q0).trans ((seq_r Q1).trans ((seq_r Q2).trans Q3))))).trans rfl
  · exact (t3 p1 (by omega)).trans ((t2 p1 (by omega)).trans (List.getElem?_set_self (by omega)))
  · exact (t3 (p1 + 1) (by omega)).trans (List.getElem?_set_self (by omega))
  · exact List.getElem?_set_self (by omega)
  · intro j q hj
    have hjl := (List.getElem?_eq_some_iff.mp hj).1
    simp only [show j < n by omega, if_true]
    exact u4 j q hj
  · refine ⟨⟨by omega, fun i hi hF => ?_⟩, Or.inl ⟨rfl, rfl⟩, by omega, by omega, Nat.le_refl _, Nat.le_refl _⟩
    have a1 : i ≠ b := fun e => hF (Or.inl e)
    have a2 : ¬ (p1 ≤ i ∧ i < p1 + 3) := fun e => hF (Or.inr e)
    exact (t3 i (by omega)).trans ((t2 i (by omega)).trans ((t1 i (by omega)).trans (t0 i a1)))
/-- sums over the rows -/
def sumF (g : Nat → Int32) (l : List Nat) : Int32 := l.foldl (fun s q => s + g q) (nI 0)
theorem sumF_take {g : Nat → Int32} {l : List Nat} {j q : Nat} (h : l[j]? = some q) : sumF g (l.take (j + 1)) = sumF g (l.take j) + g q := by
  unfold sumF
  rw [List.take_add_one, h, List.foldl_append]
  rfl
theorem f_allChips (hA : AccAt σ b p c ps ch cm) : M_X0_allChips [.ref b] σ = some (some (.int (sumF ch ps)), σ) := by
  obtain ⟨h1, h2, h3, h4, h5, fp, fc, fm, e1, e2, e3, e4⟩ := hA
  let st : Nat → List Value × sSt := fun j => ([.ref b, .int (sumF ch (ps.take j)), .int (nI j)], σ)
  have hw := wh_up (C := C_X0_allChips_1) (S := W_X0_allChips_1) (L := [.ref b, .int (nI 0), .int (nI 0)]) (σ := σ) st 0 ps.length rfl (Nat.zero_le _) (by omega) (fun j _ hj => ⟨?_, ?_⟩) ?_
  · refine mV_eq h1 rfl rfl ?_
    unfold B_X0_allChips
    simp only [x_and, x_or, x_shl, x_shr, x_k, x_i, x_r, x_nil, x_add, x_sub, x_mul, x_div, x_rem, x_get, x_getR, x_ald, x_aldR, x_len, x_lenR, x_if, xa_nil, xa_ci, xa_cr, x_callI, x_callR, x_new, x_newa, x_newq, x_max, x_min, xc_cmp, xc_cmp0, xc_null, xc_nn, xc_not, xc_and, xc_or, xc_if, xs_skip, xs_seq, xs_decI, xs_decR, xs_setI, xs_inc, xs_if, xs_blk, xs_retI, xs_retB, xs_retR, xs_retD, xs_ret0, xs_putI, xs_putZ, xs_putR, xs_putop, xs_ast, xs_astop, xs_astR, xs_callV, xs_callP, xs_super, xs_sw, s_go_inl, s_go_inr, s_cut_inl, s_cut_inr, o_void_n, v_i_int, v_i_none, v_r_ref, v_r_null, v_r_rf, h_set_some, o_some_s, zB_ne0, zB_ite, zB_ite2, g_Vn, g_Pi, nI_add, Option.bind_some, Option.map_some, Option.bind_none, Option.map_none, List.getElem?_cons_zero, List.getElem?_cons_succ, List.set_cons_zero, List.set_cons_succ, List.cons_append, List.nil_append, List.take_succ_cons, List.take_zero, List.length_cons, List.length_nil, Nat.zero_add, Nat.reduceAdd, Nat.reduceLT, if_true, if_false, Bool.false_eq_true, Bool.true_eq_false, decide_eq_true_eq, decide_true, decide_false, Bool.not_true, Bool.not_false, Option.isNone_none, Option.isNone_some, Option.isSome_none, Option.isSome_some, ite_true, ite_false, reduceIte, reduceCtorEq, and_true, true_and, eq_self, Option.some.injEq, Sum.inr.injEq, Sum.inl.injEq, Prod.mk.injEq, hw]
    show some (Sum.inl (some (Value.int (sumF ch (ps.take ps.length))), σ)) = _
    rw [List.take_length]
  · show C_X0_allChips_1 [.ref b, .int _, .int (nI j)] σ = some (true, σ)
    simp only [x_and, x_or, x_shl, x_shr, x_k, x_i, x_r, x_nil, x_add, x_sub, x_mul, x_div, x_rem, x_get, x_getR, x_ald, x_aldR, x_len, x_lenR, x_if, xa_nil, xa_ci, xa_cr, x_callI, x_callR, x_new, x_newa, x_newq, x_max, x_min, xc_cmp, xc_cmp0, xc_null, xc_nn, xc_not, xc_and, xc_or, xc_if, xs_skip, xs_seq, xs_decI, xs_decR, xs_setI, xs_inc, xs_if, xs_blk, xs_retI, xs_retB, xs_retR, xs_retD, xs_ret0, xs_putI, xs_putZ, xs_putR, xs_putop, xs_ast, xs_astop, xs_astR, xs_callV, xs_callP, xs_super, xs_sw, s_go_inl, s_go_inr, s_cut_inl, s_cut_inr, o_void_n, v_i_int, v_i_none, v_r_ref, v_r_null, v_r_rf, h_set_some, o_some_s, zB_ne0, zB_ite, zB_ite2, g_Vn, g_Pi, nI_add, Option.bind_some, Option.map_some, Option.bind_none, Option.map_none, List.getElem?_cons_zero, List.getElem?_cons_succ, List.set_cons_zero, List.set_cons_succ, List.cons_append, List.nil_append, List.take_succ_cons, List.take_zero, List.length_cons, List.length_nil, Nat.zero_add, Nat.reduceAdd, Nat.reduceLT, if_true, if_false, Bool.false_eq_true, Bool.true_eq_false, decide_eq_true_eq, decide_true, decide_false, Bool.not_true, Bool.not_false, Option.isNone_none, Option.isNone_some, Option.isSome_none, Option.isSome_some, ite_true, ite_false, reduceIte, reduceCtorEq, and_true, true_and, eq_self, Option.some.injEq, Sum.inr.injEq, Sum.inl.injEq, Prod.mk.injEq, h_obj_eq h1, j_lt (show j < 2 ^ 31 by omega) (show ps.length < 2 ^ 31 by omega), hj]
  · obtain ⟨q, hq⟩ : ∃ q, ps[j]? = some q := ⟨ps[j], List.getElem?_eq_getElem hj⟩
    have hf := f_at e2 (show c < 2 ^ 31 by omega) (show j < 2 ^ 31 by omega)
    rw [if_pos (by omega), (e4 j q hq).2.1] at hf
    show W_X0_allChips_1 [.ref b, .int (sumF ch (ps.take j)), .int (nI j)] σ = some (.inr ([.ref b, .int (sumF ch (ps.take (j + 1))), .int (nI (j + 1))], σ))
    rw [sumF_take hq]
    simp only [x_and, x_or, x_shl, x_shr, x_k, x_i, x_r, x_nil, x_add, x_sub, x_mul, x_div, x_rem, x_get, x_getR, x_ald, x_aldR, x_len, x_lenR, x_if, xa_nil, xa_ci, xa_cr, x_callI, x_callR, x_new, x_newa, x_newq, x_max, x_min, xc_cmp, xc_cmp0, xc_null, xc_nn, xc_not, xc_and, xc_or, xc_if, xs_skip, xs_seq, xs_decI, xs_decR, xs_setI, xs_inc, xs_if, xs_blk, xs_retI, xs_retB, xs_retR, xs_retD, xs_ret0, xs_putI, xs_putZ, xs_putR, xs_putop, xs_ast, xs_astop, xs_astR, xs_callV, xs_callP, xs_super, xs_sw, s_go_inl, s_go_inr, s_cut_inl, s_cut_inr, o_void_n, v_i_int, v_i_none, v_r_ref, v_r_null, v_r_rf, h_set_some, o_some_s, zB_ne0, zB_ite, zB_ite2, g_Vn, g_Pi, nI_add, Option.bind_some, Option.map_some, Option.bind_none, Option.map_none, List.getElem?_cons_zero, List.getElem?_cons_succ, List.set_cons_zero, List.set_cons_succ, List.cons_append, List.nil_append, List.take_succ_cons, List.take_zero, List.length_cons, List.length_nil, Nat.zero_add, Nat.reduceAdd, Nat.reduceLT, if_true, if_false, Bool.false_eq_true, Bool.true_eq_false, decide_eq_true_eq, decide_true, decide_false, Bool.not_true, Bool.not_false, Option.isNone_none, Option.isNone_some, Option.isSome_none, Option.isSome_some, ite_true, ite_false, reduceIte, reduceCtorEq, and_true, true_and, eq_self, Option.some.injEq, Sum.inr.injEq, Sum.inl.injEq, Prod.mk.injEq, h_obj_eq h1, v_rf, hf]
  · show C_X0_allChips_1 [.ref b, .int _, .int (nI ps.length)] σ = some (false, σ)
    simp only [x_and, x_or, x_shl, x_shr, x_k, x_i, x_r, x_nil, x_add, x_sub, x_mul, x_div, x_rem, x_get, x_getR, x_ald, x_aldR, x_len, x_lenR, x_if, xa_nil, xa_ci, xa_cr, x_callI, x_callR, x_new, x_newa, x_newq, x_max, x_min, xc_cmp, xc_cmp0, xc_null, xc_nn, xc_not, xc_and, xc_or, xc_if, xs_skip, xs_seq, xs_decI, xs_decR, xs_setI, xs_inc, xs_if, xs_blk, xs_retI, xs_retB, xs_retR, xs_retD, xs_ret0, xs_putI, xs_putZ, xs_putR, xs_putop, xs_ast, xs_astop, xs_astR, xs_callV, xs_callP, xs_super, xs_sw, s_go_inl, s_go_inr, s_cut_inl, s_cut_inr, o_void_n, v_i_int, v_i_none, v_r_ref, v_r_null, v_r_rf, h_set_some, o_some_s, zB_ne0, zB_ite, zB_ite2, g_Vn, g_Pi, nI_add, Option.bind_some, Option.map_some, Option.bind_none, Option.map_none, List.getElem?_cons_zero, List.getElem?_cons_succ, List.set_cons_zero, List.set_cons_succ, List.cons_append, List.nil_append, List.take_succ_cons, List.take_zero, List.length_cons, List.length_nil, Nat.zero_add, Nat.reduceAdd, Nat.reduceLT, if_true, if_false, Bool.false_eq_true, Bool.true_eq_false, decide_eq_true_eq, decide_true, decide_false, Bool.not_true, Bool.not_false, Option.isNone_none, Option.isNone_some, Option.isSome_none, Option.isSome_some, ite_true, ite_false, reduceIte, reduceCtorEq, and_true, true_and, eq_self, Option.some.injEq, Sum.inr.injEq, Sum.inl.injEq, Prod.mk.injEq, h_obj_eq h1, j_lt (show ps.length < 2 ^ 31 by omega) (show ps.length < 2 ^ 31 by omega), Nat.lt_irrefl]
def isPos (x : Int32) : Bool := i_gt x 0
theorem cnt_take {g : Nat → Bool} {l : List Nat} {j q : Nat} (h : l[j]? = some q) : (l.take (j + 1)).countP g = (l.take j).countP g + if g q = true then 1 else 0 := by
  rw [List.take_add_one, h, List.countP_append]
  show _ + List.countP g [q] = _
  rw [List.countP_singleton]
theorem f_kindsOfChips (hA : AccAt σ b p c ps ch cm) : M_X0_kindsOfChips [.ref b] σ = some (some (.int (nI (ps.countP (fun q => isPos (ch q))))), σ) := by
  obtain ⟨h1, h2, h3, h4, h5, fp, fc, fm, e1, e2, e3, e4⟩ := hA
  let st : Nat → List Value × sSt := fun j => ([.ref b, .int (nI ((ps.take j).countP (fun q => isPos (ch q)))), .int (nI j)], σ)
  have hw := wh_up (C := C_X0_kindsOfChips_1) (S := W_X0_kindsOfChips_1) (L := [.ref b, .int (nI 0), .int (nI 0)]) (σ := σ) st 0 ps.length rfl (Nat.zero_le _) (by omega) (fun j _ hj => ⟨?_, ?_⟩) ?_
  · refine mV_eq h1 rfl rfl ?_
    unfold B_X0_kindsOfChips
    simp only [x_and, x_or, x_shl, x_shr, x_k, x_i, x_r, x_nil, x_add, x_sub, x_mul, x_div, x_rem, x_get, x_getR, x_ald, x_aldR, x_len, x_lenR, x_if, xa_nil, xa_ci, xa_cr, x_callI, x_callR, x_new, x_newa, x_newq, x_max, x_min, xc_cmp, xc_cmp0, xc_null, xc_nn, xc_not, xc_and, xc_or, xc_if, xs_skip, xs_seq, xs_decI, xs_decR, xs_setI, xs_inc, xs_if, xs_blk, xs_retI, xs_retB, xs_retR, xs_retD, xs_ret0, xs_putI, xs_putZ, xs_putR, xs_putop, xs_ast, xs_astop, xs_astR, xs_callV, xs_callP, xs_super, xs_sw, s_go_inl, s_go_inr, s_cut_inl, s_cut_inr, o_void_n, v_i_int, v_i_none, v_r_ref, v_r_null, v_r_rf, h_set_some, o_some_s, zB_ne0, zB_ite, zB_ite2, g_Vn, g_Pi, nI_add, Option.bind_some, Option.map_some, Option.bind_none, Option.map_none, List.getElem?_cons_zero, List.getElem?_cons_succ, List.set_cons_zero, List.set_cons_succ, List.cons_append, List.nil_append, List.take_succ_cons, List.take_zero, List.length_cons, List.length_nil, Nat.zero_add, Nat.reduceAdd, Nat.reduceLT, if_true, if_false, Bool.false_eq_true, Bool.true_eq_false, decide_eq_true_eq, decide_true, decide_false, Bool.not_true, Bool.not_false, Option.isNone_none, Option.isNone_some, Option.isSome_none, Option.isSome_some, ite_true, ite_false, reduceIte, reduceCtorEq, and_true, true_and, eq_self, Option.some.injEq, Sum.inr.injEq, Sum.inl.injEq, Prod.mk.injEq, hw]
    show some (Sum.inl (some (Value.int (nI ((ps.take ps.length).countP _))), σ)) = _
    rw [List.take_length]
  · show C_X0_kindsOfChips_1 [.ref b, .int _, .int (nI j)] σ = some (true, σ)
    simp only [x_and, x_or, x_shl, x_shr, x_k, x_i, x_r, x_nil, x_add, x_sub, x_mul, x_div, x_rem, x_get, x_getR, x_ald, x_aldR, x_len, x_lenR, x_if, xa_nil, xa_ci, xa_cr, x_callI, x_callR, x_new, x_newa, x_newq, x_max, x_min, xc_cmp, xc_cmp0, xc_null, xc_nn, xc_not, xc_and, xc_or, xc_if, xs_skip, xs_seq, xs_decI, xs_decR, xs_setI, xs_inc, xs_if, xs_blk, xs_retI, xs_retB, xs_retR, xs_retD, xs_ret0, xs_putI, xs_putZ, xs_putR, xs_putop, xs_ast, xs_astop, xs_astR, xs_callV, xs_callP, xs_super, xs_sw, s_go_inl, s_go_inr, s_cut_inl, s_cut_inr, o_void_n, v_i_int, v_i_none, v_r_ref, v_r_null, v_r_rf, h_set_some, o_some_s, zB_ne0, zB_ite, zB_ite2, g_Vn, g_Pi, nI_add, Option.bind_some, Option.map_some, Option.bind_none, Option.map_none, List.getElem?_cons_zero, List.getElem?_cons_succ, List.set_cons_zero, List.set_cons_succ, List.cons_append, List.nil_append, List.take_succ_cons, List.take_zero, List.length_cons, List.length_nil, Nat.zero_add, Nat.reduceAdd, Nat.reduceLT, if_true, if_false, Bool.false_eq_true, Bool.true_eq_false, decide_eq_true_eq, decide_true, decide_false, Bool.not_true, Bool.not_false, Option.isNone_none, Option.isNone_some, Option.isSome_none, Option.isSome_some, ite_true, ite_false, reduceIte, reduceCtorEq, and_true, true_and, eq_self, Option.some.injEq, Sum.inr.injEq, Sum.inl.injEq, Prod.mk.injEq, h_obj_eq h1, j_lt (show j < 2 ^ 31 by omega) (show ps.length < 2 ^ 31 by omega), hj]
  · obtain ⟨q, hq⟩ : ∃ q, ps[j]? = some q := ⟨ps[j], List.getElem?_eq_getElem hj⟩
    have hf := f_at e2 (show c < 2 ^ 31 by omega) (show j < 2 ^ 31 by omega)
    rw [if_pos (by omega), (e4 j q hq).2.1] at hf
    show W_X0_kindsOfChips_1 [.ref b, .int (nI ((ps.take j).countP _)), .int (nI j)] σ = some (.inr ([.ref b, .int (nI ((ps.take (j + 1)).countP _)), .int (nI (j + 1))], σ))
    rw [cnt_take hq]
    by_cases hp : isPos (ch q) = true
    · have hp' : i_gt (ch q) 0 = true := hp
      simp only [x_and, x_or, x_shl, x_shr, x_k, x_i, x_r, x_nil, x_add, x_sub, x_mul, x_div, x_rem, x_get, x_getR, x_ald, x_aldR, x_len, x_lenR, x_if, xa_nil, xa_ci, xa_cr, x_callI, x_callR, x_new, x_newa, x_newq, x_max, x_min, xc_cmp, xc_cmp0, xc_null, xc_nn, xc_not, xc_and, xc_or, xc_if, xs_skip, xs_seq, xs_decI, xs_decR, xs_setI, xs_inc, xs_if, xs_blk, xs_retI, xs_retB, xs_retR, xs_retD, xs_ret0, xs_putI, xs_putZ, xs_putR, xs_putop, xs_ast, xs_astop, xs_astR, xs_callV, xs_callP, xs_super, xs_sw, s_go_inl, s_go_inr, s_cut_inl, s_cut_inr, o_void_n, v_i_int, v_i_none, v_r_ref, v_r_null, v_r_rf, h_set_some, o_some_s, zB_ne0, zB_ite, zB_ite2, g_Vn, g_Pi, nI_add, Option.bind_some, Option.map_some, Option.bind_none, Option.map_none, List.getElem?_cons_zero, List.getElem?_cons_succ, List.set_cons_zero, List.set_cons_succ, List.cons_append, List.nil_append, List.take_succ_cons, List.take_zero, List.length_cons, List.length_nil, Nat.zero_add, Nat.reduceAdd, Nat.reduceLT, if_true, if_false, Bool.false_eq_true, Bool.true_eq_false, decide_eq_true_eq, decide_true, decide_false, Bool.not_true, Bool.not_false, Option.isNone_none, Option.isNone_some, Option.isSome_none, Option.isSome_some, ite_true, ite_false, reduceIte, reduceCtorEq, and_true, true_and, eq_self, Option.some.injEq, Sum.inr.injEq, Sum.inl.injEq, Prod.mk.injEq, h_obj_eq h1, v_rf, hf, hp', hp]
    · have hp' : i_gt (ch q) 0 = false := by simpa [isPos] using hp
      simp only [x_and, x_or, x_shl, x_shr, x_k, x_i, x_r, x_nil, x_add, x_sub, x_mul, x_div, x_rem, x_get, x_getR, x_ald, x_aldR, x_len, x_lenR, x_if, xa_nil, xa_ci, xa_cr, x_callI, x_callR, x_new, x_newa, x_newq, x_max, x_min, xc_cmp, xc_cmp0, xc_null, xc_nn, xc_not, xc_and, xc_or, xc_if, xs_skip, xs_seq, xs_decI, xs_decR, xs_setI, xs_inc, xs_if, xs_blk, xs_retI, xs_retB, xs_retR, xs_retD, xs_ret0, xs_putI, xs_putZ, xs_putR, xs_putop, xs_ast, xs_astop, xs_astR, xs_callV, xs_callP, xs_super, xs_sw, s_go_inl, s_go_inr, s_cut_inl, s_cut_inr, o_void_n, v_i_int, v_i_none, v_r_ref, v_r_null, v_r_rf, h_set_some, o_some_s, zB_ne0, zB_ite, zB_ite2, g_Vn, g_Pi, nI_add, Option.bind_some, Option.map_some, Option.bind_none, Option.map_none, List.getElem?_cons_zero, List.getElem?_cons_succ, List.set_cons_zero, List.set_cons_succ, List.cons_append, List.nil_append, List.take_succ_cons, List.take_zero, List.length_cons, List.length_nil, Nat.zero_add, Nat.reduceAdd, Nat.reduceLT, if_true, if_false, Bool.false_eq_true, Bool.true_eq_false, decide_eq_true_eq, decide_true, decide_false, Bool.not_true, Bool.not_false, Option.isNone_none, Option.isNone_some, Option.isSome_none, Option.isSome_some, ite_true, ite_false, reduceIte, reduceCtorEq, and_true, true_and, eq_self, Option.some.injEq, Sum.inr.injEq, Sum.inl.injEq, Prod.mk.injEq, h_obj_eq h1, v_rf, hf, hp', hp, Nat.add_zero]
  · show C_X0_kindsOfChips_1 [.ref b, .int _, .int (nI ps.length)] σ = some (false, σ)
    simp only [x_and, x_or, x_shl, x_shr, x_k, x_i, x_r, x_nil, x_add, x_sub, x_mul, x_div, x_rem, x_get, x_getR, x_ald, x_aldR, x_len, x_lenR, x_if, xa_nil, xa_ci, xa_cr, x_callI, x_callR, x_new, x_newa, x_newq, x_max, x_min, xc_cmp, xc_cmp0, xc_null, xc_nn, xc_not, xc_and, xc_or, xc_if, xs_skip, xs_seq, xs_decI, xs_decR, xs_setI, xs_inc, xs_if, xs_blk, xs_retI, xs_retB, xs_retR, xs_retD, xs_ret0, xs_putI, xs_putZ, xs_putR, xs_putop, xs_ast, xs_astop, xs_astR, xs_callV, xs_callP, xs_super, xs_sw, s_go_inl, s_go_inr, s_cut_inl, s_cut_inr, o_void_n, v_i_int, v_i_none, v_r_ref, v_r_null, v_r_rf, h_set_some, o_some_s, zB_ne0, zB_ite, zB_ite2, g_Vn, g_Pi, nI_add, Option.bind_some, Option.map_some, Option.bind_none, Option.map_none, List.getElem?_cons_zero, List.getElem?_cons_succ, List.set_cons_zero, List.set_cons_succ, List.cons_append, List.nil_append, List.take_succ_cons, List.take_zero, List.length_cons, List.length_nil, Nat.zero_add, Nat.reduceAdd, Nat.reduceLT, if_true, if_false, Bool.false_eq_true, Bool.true_eq_false, decide_eq_true_eq, decide_true, decide_false, Bool.not_true, Bool.not_false, Option.isNone_none, Option.isNone_some, Option.isSome_none, Option.isSome_some, ite_true, ite_false, reduceIte, reduceCtorEq, and_true, true_and, eq_self, Option.some.injEq, Sum.inr.injEq, Sum.inl.injEq, Prod.mk.injEq, h_obj_eq h1, j_lt (show ps.length < 2 ^ 31 by omega) (show ps.length < 2 ^ 31 by omega), Nat.lt_irrefl]
end
