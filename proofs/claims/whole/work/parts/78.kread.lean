/-! StairKin's calls (own work): the pad is read and carried out -/
theorem partP_end {p : List Nat} (b : Bool) : (partP p b p.length).1 = false := by
  cases b with
  | false =>
    have : fsB p 1 p.length = false := by unfold fsB; rw [decide_eq_false (Nat.lt_irrefl _)]; rfl
    show (numP p 1 9999 p.length).1 = false
    unfold numP
    rw [this]
    rfl
  | true =>
    show (deedP p p.length).1 = false
    unfold deedP
    rw [decide_eq_false (Nat.lt_irrefl _)]
    rfl
theorem dAdd_end {S : tS} (h : S.1.length < 12) {v : Nat} (h1 : 1 ≤ v) (h9 : v ≤ 9999) : (dAdd S (nI S.1.length) (nI v)).2 = (S.1 ++ [v], S.2) := by
  unfold dAdd
  rw [inB_n (by omega) (by omega) (by omega), inB_n (by omega) (by omega) (by omega), decide_eq_true (Nat.zero_le _), decide_eq_true (Nat.le_refl _), decide_eq_true h1, decide_eq_true h9, if_pos (show (true && true && (true && true)) = true from rfl), if_neg (by omega), nN_n (by omega), nN_n (by omega)]
  show (S.1.insertIdx S.1.length v, S.2) = _
  rw [ins_end]
theorem fltP_cnt {p : List Nat} {w : Bool} : ∀ (n s : Nat), (fltP p w n s).2.length ≤ n
  | 0, _ => Nat.le_refl 0
  | n + 1, s => by
    have ef : fltP p w (n + 1) s = if (partP p w s).1 = true then (if sgB p (sepC w) (partP p w s).2.2 = true then ((fltP p w n ((partP p w s).2.2 + 1)).1, (partP p w s).2.1 :: (fltP p w n ((partP p w s).2.2 + 1)).2) else (if (partP p w s).2.2 = p.length then none else some (partP p w s).2.2, [(partP p w s).2.1])) else (some (partP p w s).2.2, []) := rfl
    rw [ef]
    split
    · split
      · exact Nat.succ_le_succ (fltP_cnt n _)
      · exact Nat.succ_le_succ (Nat.zero_le n)
    · exact Nat.zero_le _
section
variable {σ : sSt} {M : tM} {V : tV} {P C : Nat → Nat} {T : Nat → tS} {sv : Bool} {fi he : Nat} {er nu po : Int32} {p : List Nat}
theorem w_deedQ (h : W0 σ P C T sv fi he er nu po p M) {i : Nat} (hi : i < 8) {σ' : sSt} {p' c' : Nat} {S' : tS} (t : StAt σ' (ad i) p' c' S') (e : EffS σ σ' (ad i) (P i) (C i) p' c') {Q : tC} (hQ : σ = qp σ Q) : ∃ P' C', W0 σ' P' C' (uN T i S') sv fi he er nu po p M ∧ σ' = qp σ' Q := by
  obtain ⟨w, x⟩ := h.1.eff hi e t
  refine ⟨_, _, h.st w x, qp_of w.1 (fun k hk => ?_)⟩
  obtain ⟨c, hc⟩ : ∃ c, (qC Q)[k]? = some c := ⟨_, List.getElem?_eq_getElem (show k < 2 from hk)⟩
  have q := qp_at (σ := σ) h.len hc
  rw [← hQ] at q
  rw [hc, ← q]
  exact x _ (by unfold isFx; omega)
theorem qp_same (hσ : 72 ≤ σ.1.length) (Q : tC) : qp σ Q = qp (qp σ Q) Q := (qp_qp hσ).symm
theorem k_part (w : W0 σ P C T sv fi he er nu po p M) {Q : tC} (hQ : PadQ Q p) (e : σ = qp σ Q) {s : Nat} (hs : s ≤ p.length) (h2 : Q.1 2 = nI s) (b : Bool) : ∃ σ' Q', M_X4_nextPart [.ref 51, .int (zB b)] σ = some (some (.int (zB (partP p b s).1)), σ') ∧ W0 σ' P C T sv fi he er nu po p M ∧ PadQ Q' p ∧ σ' = qp σ' Q' ∧ Q'.1 2 = nI (partP p b s).2.2 ∧ ((partP p b s).1 = true → PQ b Q' (partP p b s).2.1) := by
  obtain ⟨Q', r, b1, b2, b3, b4, b5⟩ := f_nextPart w.len hQ hs h2 b
  rw [← e] at r
  have hq := hQ.same b1 b3
  exact ⟨qp σ Q', Q', r, w.pd hq, hq, qp_same w.len Q', b4, b5⟩
theorem k_skip (w : W0 σ P C T sv fi he er nu po p M) {Q : tC} (hQ : PadQ Q p) (e : σ = qp σ Q) {s c : Nat} (hs : s ≤ p.length) (h2 : Q.1 2 = nI s) (hc : 1 ≤ c) (hc2 : c < 2 ^ 31) : ∃ σ' Q', M_X4_skip [.ref 51, .int (nI c)] σ = some (some (.int (zB (sgB p c s))), σ') ∧ W0 σ' P C T sv fi he er nu po p M ∧ PadQ Q' p ∧ σ' = qp σ' Q' ∧ Q'.1 2 = nI (if sgB p c s = true then s + 1 else s) := by
  have r := f_skip w.len hQ hs h2 hc hc2
  rw [← e] at r
  have hq : PadQ ((uN Q.1 2 (nI (if sgB p c s = true then s + 1 else s)), Q.2) : tC) p := hQ.same rfl rfl
  exact ⟨_, _, r, w.pd hq, hq, qp_same w.len _, rfl⟩
theorem w_pad (w : W0 σ P C T sv fi he er nu po p M) {Q : tC} (e : σ = qp σ Q) : h_obj σ (some 51) 4 = some (qF Q.1) := by rw [e]; exact qp_o w.len
theorem k_readL : ∀ (n s k : Nat) (σ : sSt) (P C : Nat → Nat) (T : Nat → tS) (Q : tC), W0 σ P C T sv fi he er nu po p M → PadQ Q p → σ = qp σ Q → s ≤ p.length → Q.1 2 = nI s → 2 * k ≤ s → (fltP p false n s).1 = none → (T 0).1.length + (fltP p false n s).2.length ≤ 12 → ∀ F, n + 1 < F → ∃ (σ' : sSt) (P' C' : Nat → Nat) (T' : Nat → tS) (k' : Nat), s_wh C_X8_read_1 W_X8_read_1 F [.ref 0, .int (nI k)] σ = some (.inr ([.ref 0, .int (nI k')], σ')) ∧ W0 σ' P' C' T' sv fi he er nu po p M ∧ T' 0 = ((T 0).1 ++ (fltP p false n s).2.map (fun t => t.2.1), (T 0).2) ∧ ∀ j, j ≠ 0 → T' j = T j := by
  intro n
  induction n with
  | zero => intro s k σ P C T Q w hQ e hs h2 hk hf; cases hf
  | succ n ih =>
    intro s k σ P C T Q w hQ e hs h2 hk hf h12 F hF
    obtain ⟨F, rfl⟩ : ∃ F', F = F' + 1 := ⟨F - 1, by omega⟩
    have h1 := hQ.1
    have hnum := fltP_num (p := p) (n + 1) s hs
    have ef : fltP p false (n + 1) s = if (partP p false s).1 = true then (if sgB p (sepC false) (partP p false s).2.2 = true then ((fltP p false n ((partP p false s).2.2 + 1)).1, (partP p false s).2.1 :: (fltP p false n ((partP p false s).2.2 + 1)).2) else (if (partP p false s).2.2 = p.length then none else some (partP p false s).2.2, [(partP p false s).2.1])) else (some (partP p false s).2.2, []) := rfl
    rw [ef] at hf h12 hnum ⊢
    obtain ⟨σ1, Q1, r1, w1, hQ1, e1, b4, b5⟩ := k_part w hQ e hs h2 false
    obtain ⟨q1, q2, q3⟩ := partP_in (p := p) (w := false) hs
    have r1 : M_X4_nextPart [.ref 51, .int (nI 0)] σ = _ := r1
    obtain ⟨A, hA⟩ : ∃ A, A = partP p false s := ⟨_, rfl⟩
    rw [← hA] at r1 b4 b5 q1 q2 q3 hf h12 hnum ⊢
    cases c : A.1 with
    | false => rw [c, if_neg Bool.false_ne_true] at hf; cases hf
    | true =>
      rw [c] at r1
      rw [c, if_pos rfl] at hf h12 hnum
      rw [if_pos rfl]
      have q3 := q3 c
      have pv : Q1.1 4 = nI A.2.1.2.1 := b5 c
      have hC : C_X8_read_1 [.ref 0, .int (nI k)] σ = some (true, σ1) := by
        simp (disch := omega) only [x_k, x_i, x_r, x_nil, x_add, x_sub, x_mul, x_div, x_rem, x_get, x_getR, x_ald, x_aldR, x_len, x_lenR, x_if, xa_nil, xa_ci, xa_cr, x_callI, x_callR, x_new, x_newa, x_newq, x_max, x_min, xc_cmp, xc_cmp0, xc_null, xc_nn, xc_not, xc_and, xc_or, xc_if, xs_skip, xs_seq, xs_decI, xs_decR, xs_setI, xs_inc, xs_if, xs_blk, xs_retI, xs_retB, xs_retR, xs_retD, xs_ret0, xs_putI, xs_putZ, xs_putR, xs_putop, xs_ast, xs_astop, xs_astR, xs_callV, xs_callP, xs_super, xs_sw, s_go_inl, s_go_inr, s_cut_inl, s_cut_inr, o_void_n, v_i_int, v_i_none, v_r_ref, v_r_null, v_r_rf, h_set_some, o_some_s, zB_ne0, zB_ite, zB_ite2, g_Vn, g_Pi, nI_add, Option.bind_some, Option.map_some, Option.bind_none, Option.map_none, List.getElem?_cons_zero, List.getElem?_cons_succ, List.set_cons_zero, List.set_cons_succ, List.cons_append, List.nil_append, List.take_succ_cons, List.take_zero, List.length_cons, List.length_nil, Nat.zero_add, Nat.reduceAdd, Nat.reduceLT, if_true, if_false, Bool.false_eq_true, Bool.true_eq_false, decide_eq_true_eq, decide_true, decide_false, Bool.not_true, Bool.not_false, Option.isNone_none, Option.isNone_some, Option.isSome_none, Option.isSome_some, ite_true, ite_false, reduceIte, reduceCtorEq, and_true, true_and, eq_self, Option.some.injEq, Sum.inr.injEq, Sum.inl.injEq, Prod.mk.injEq, not_true_eq_false, not_false_eq_true, Bool.decide_eq_true, n0_ne, n1_ne, xz_ret, zb_if, n1_if, n0_if, v_rf, h_ix_nI, nI_clamp, zB_t, zB_f, uN_uN, uN_ap, Nat.reduceEqDiff, Nat.reduceMul, Nat.reduceSub, j_lt, show k < 60 by omega, w.obj, kg5, r1]
      have t1 := w1.now
      have s1 := t1.1
      have po1 := w_pad w1 e1
      obtain ⟨S, hS⟩ : ∃ S, S = T 0 := ⟨_, rfl⟩
      rw [← hS] at t1 s1 h12 ⊢
      have hl := s1.1.1
      have hb : 1 ≤ A.2.1.2.1 ∧ A.2.1.2.1 ≤ 9999 := by
        refine hnum A.2.1 ?_
        split
        · exact List.mem_cons_self
        · exact List.mem_cons_self
      have hlt : S.1.length < 12 := by
        by_cases d : sgB p (sepC false) A.2.2 = true
        · rw [if_pos d, List.length_cons] at h12; omega
        · rw [if_neg d] at h12
          have h12 : S.1.length + 1 ≤ 12 := h12
          omega
      obtain ⟨σ2, p2, c2, r2, t2, eff⟩ := f_putD t1 (nI S.1.length) (nI A.2.1.2.1)
      rw [dAdd_end hlt hb.1 hb.2] at t2
      obtain ⟨P2, C2, w2, e2⟩ := w_deedQ w1 (i := 0) (by omega) t2 eff e1
      obtain ⟨σ3, Q3, r3, w3, hQ3, e3, b3⟩ := k_skip w2 hQ1 e2 (c := 44) q2 b4 (by omega) (by omega)
      have hW : W_X8_read_1 [.ref 0, .int (nI k)] σ1 = some (.inr ([.ref 0, .int (nI (k + 1))], σ3)) := by
        simp (disch := omega) only [x_k, x_i, x_r, x_nil, x_add, x_sub, x_mul, x_div, x_rem, x_get, x_getR, x_ald, x_aldR, x_len, x_lenR, x_if, xa_nil, xa_ci, xa_cr, x_callI, x_callR, x_new, x_newa, x_newq, x_max, x_min, xc_cmp, xc_cmp0, xc_null, xc_nn, xc_not, xc_and, xc_or, xc_if, xs_skip, xs_seq, xs_decI, xs_decR, xs_setI, xs_inc, xs_if, xs_blk, xs_retI, xs_retB, xs_retR, xs_retD, xs_ret0, xs_putI, xs_putZ, xs_putR, xs_putop, xs_ast, xs_astop, xs_astR, xs_callV, xs_callP, xs_super, xs_sw, s_go_inl, s_go_inr, s_cut_inl, s_cut_inr, o_void_n, v_i_int, v_i_none, v_r_ref, v_r_null, v_r_rf, h_set_some, o_some_s, zB_ne0, zB_ite, zB_ite2, g_Vn, g_Pi, nI_add, Option.bind_some, Option.map_some, Option.bind_none, Option.map_none, List.getElem?_cons_zero, List.getElem?_cons_succ, List.set_cons_zero, List.set_cons_succ, List.cons_append, List.nil_append, List.take_succ_cons, List.take_zero, List.length_cons, List.length_nil, Nat.zero_add, Nat.reduceAdd, Nat.reduceLT, if_true, if_false, Bool.false_eq_true, Bool.true_eq_false, decide_eq_true_eq, decide_true, decide_false, Bool.not_true, Bool.not_false, Option.isNone_none, Option.isNone_some, Option.isSome_none, Option.isSome_some, ite_true, ite_false, reduceIte, reduceCtorEq, and_true, true_and, eq_self, Option.some.injEq, Sum.inr.injEq, Sum.inl.injEq, Prod.mk.injEq, not_true_eq_false, not_false_eq_true, Bool.decide_eq_true, n0_ne, n1_ne, xz_ret, zb_if, n1_if, n0_if, v_rf, h_ix_nI, nI_clamp, zB_t, zB_f, uN_uN, uN_ap, Nat.reduceEqDiff, Nat.reduceMul, Nat.reduceSub, w1.obj, w2.obj, kg0, kg5, h_obj_eq s1.2.1, po1, qg4, pv, r2, r3]
      have sc : sepC false = 44 := rfl
      rw [sc] at hf h12 ⊢
      by_cases d : sgB p 44 A.2.2 = true
      · rw [if_pos d] at hf h12 b3 ⊢
        have d' := d
        unfold sgB at d'
        rw [Bool.and_eq_true, decide_eq_true_eq] at d'
        obtain ⟨σ', P', C', T', k', r, w', t0, to⟩ := ih (A.2.2 + 1) (k + 1) σ3 P2 C2 _ Q3 w3 hQ3 e3 (by omega) b3 (by omega) hf (by
          show (S.1 ++ [A.2.1.2.1]).length + _ ≤ 12
          rw [List.length_append]
          rw [List.length_cons] at h12
          show S.1.length + 1 + _ ≤ 12
          omega) F (by omega)
        refine ⟨σ', P', C', T', k', (wh_T hC hW).trans r, w', ?_, fun j hj => (to j hj).trans (if_neg hj)⟩
        rw [t0]
        show ((S.1 ++ [A.2.1.2.1]) ++ _, S.2) = (S.1 ++ A.2.1.2.1 :: _, S.2)
        rw [List.append_assoc]
        rfl
      · rw [if_neg d] at hf h12 b3 ⊢
        have hend : A.2.2 = p.length := by
          by_cases g : A.2.2 = p.length
          · exact g
          · rw [if_neg g] at hf; cases hf
        obtain ⟨σ4, Q4, r4, w4, -⟩ := k_part w3 hQ3 e3 q2 b3 false
        rw [hend, partP_end] at r4
        have r4 : M_X4_nextPart [.ref 51, .int (nI 0)] σ3 = _ := r4
        obtain ⟨F, rfl⟩ : ∃ F', F = F' + 1 := ⟨F - 1, by omega⟩
        refine ⟨σ4, P2, C2, _, k + 1, (wh_T hC hW).trans (wh_F ?_), w4, ?_, fun j hj => if_neg hj⟩
        · simp (disch := omega) only [x_k, x_i, x_r, x_nil, x_add, x_sub, x_mul, x_div, x_rem, x_get, x_getR, x_ald, x_aldR, x_len, x_lenR, x_if, xa_nil, xa_ci, xa_cr, x_callI, x_callR, x_new, x_newa, x_newq, x_max, x_min, xc_cmp, xc_cmp0, xc_null, xc_nn, xc_not, xc_and, xc_or, xc_if, xs_skip, xs_seq, xs_decI, xs_decR, xs_setI, xs_inc, xs_if, xs_blk, xs_retI, xs_retB, xs_retR, xs_retD, xs_ret0, xs_putI, xs_putZ, xs_putR, xs_putop, xs_ast, xs_astop, xs_astR, xs_callV, xs_callP, xs_super, xs_sw, s_go_inl, s_go_inr, s_cut_inl, s_cut_inr, o_void_n, v_i_int, v_i_none, v_r_ref, v_r_null, v_r_rf, h_set_some, o_some_s, zB_ne0, zB_ite, zB_ite2, g_Vn, g_Pi, nI_add, Option.bind_some, Option.map_some, Option.bind_none, Option.map_none, List.getElem?_cons_zero, List.getElem?_cons_succ, List.set_cons_zero, List.set_cons_succ, List.cons_append, List.nil_append, List.take_succ_cons, List.take_zero, List.length_cons, List.length_nil, Nat.zero_add, Nat.reduceAdd, Nat.reduceLT, if_true, if_false, Bool.false_eq_true, Bool.true_eq_false, decide_eq_true_eq, decide_true, decide_false, Bool.not_true, Bool.not_false, Option.isNone_none, Option.isNone_some, Option.isSome_none, Option.isSome_some, ite_true, ite_false, reduceIte, reduceCtorEq, and_true, true_and, eq_self, Option.some.injEq, Sum.inr.injEq, Sum.inl.injEq, Prod.mk.injEq, not_true_eq_false, not_false_eq_true, Bool.decide_eq_true, n0_ne, n1_ne, xz_ret, zb_if, n1_if, n0_if, v_rf, h_ix_nI, nI_clamp, zB_t, zB_f, uN_uN, uN_ap, Nat.reduceEqDiff, Nat.reduceMul, Nat.reduceSub, j_lt, show k + 1 < 60 by omega, w3.obj, kg5, r4]
        · rfl
theorem k_read (h : WV σ M V) : ∃ σ', M_X8_read [.ref 0] σ = some (some (.int (spRead V).1), σ') ∧ WV σ' M (spRead V).2 := by
  have h' := h
  obtain ⟨P, C, T, fi, er, nu, po, w, v⟩ := h
  have hh : V.2.1.length ≤ 4 := w.2.2.2.2.2.2.2.2.2
  obtain ⟨Q, hQ, eQ⟩ := w.qp
  obtain ⟨Q1, r1, hQ1, hn⟩ := f_faultOf w.len hQ false
  rw [← eQ] at r1
  have r1 : M_X4_faultOf [.ref 51, .int (nI 0)] σ = _ := r1
  have w1 := w.pd hQ1
  have e1 := qp_same w.len Q1
  obtain ⟨σ1, es1⟩ : ∃ σ1, σ1 = qp σ Q1 := ⟨_, rfl⟩
  rw [← es1] at r1 w1 e1
  have s1 := w1.now.1
  rw [v.1] at s1
  have hl := s1.1.1
  have po1 := w_pad w1 e1
  have hle : ∀ a, (fltP V.2.2.2.1 false 61 0).1 = some a → a < 2 ^ 31 := fun a ha => by
    have := fltP_le 61 0 (Nat.zero_le _) ha
    have := hQ.1
    omega
  have ne := nx_ne hle
  unfold spRead
  obtain ⟨X, hX⟩ : ∃ X, X = fltP V.2.2.2.1 false 61 0 := ⟨_, rfl⟩
  rw [← hX] at r1 hn ne ⊢
  cases e : X.1 with
  | some a =>
    rw [e] at r1 ne
    refine ⟨σ1, mV_eq w.2.1 rfl rfl ?_, P, C, T, fi, er, nu, po, w1, v⟩
    have ne : i_ne (nx (some a)) (-1) = true := ne
    unfold B_X8_read
    simp only [x_k, x_i, x_r, x_nil, x_add, x_sub, x_mul, x_div, x_rem, x_get, x_getR, x_ald, x_aldR, x_len, x_lenR, x_if, xa_nil, xa_ci, xa_cr, x_callI, x_callR, x_new, x_newa, x_newq, x_max, x_min, xc_cmp, xc_cmp0, xc_null, xc_nn, xc_not, xc_and, xc_or, xc_if, xs_skip, xs_seq, xs_decI, xs_decR, xs_setI, xs_inc, xs_if, xs_blk, xs_retI, xs_retB, xs_retR, xs_retD, xs_ret0, xs_putI, xs_putZ, xs_putR, xs_putop, xs_ast, xs_astop, xs_astR, xs_callV, xs_callP, xs_super, xs_sw, s_go_inl, s_go_inr, s_cut_inl, s_cut_inr, o_void_n, v_i_int, v_i_none, v_r_ref, v_r_null, v_r_rf, h_set_some, o_some_s, zB_ne0, zB_ite, zB_ite2, g_Vn, g_Pi, nI_add, Option.bind_some, Option.map_some, Option.bind_none, Option.map_none, List.getElem?_cons_zero, List.getElem?_cons_succ, List.set_cons_zero, List.set_cons_succ, List.cons_append, List.nil_append, List.take_succ_cons, List.take_zero, List.length_cons, List.length_nil, Nat.zero_add, Nat.reduceAdd, Nat.reduceLT, if_true, if_false, Bool.false_eq_true, Bool.true_eq_false, decide_eq_true_eq, decide_true, decide_false, Bool.not_true, Bool.not_false, Option.isNone_none, Option.isNone_some, Option.isSome_none, Option.isSome_some, ite_true, ite_false, reduceIte, reduceCtorEq, and_true, true_and, eq_self, Option.some.injEq, Sum.inr.injEq, Sum.inl.injEq, Prod.mk.injEq, w.obj, kg5, v_rf, r1, ne]
  | none =>
    rw [e] at r1 ne
    have ne : i_ne (nx none) (-1) = false := ne
    have hn := hn e
    by_cases c : 12 < V.1.1.length + X.2.length
    · refine ⟨σ1, mV_eq w.2.1 rfl rfl ?_, by simp only [if_pos c]; exact ⟨P, C, T, fi, er, nu, po, w1, v⟩⟩
      simp only [if_pos c]
      have xl : X.2.length ≤ 61 := by rw [hX]; exact fltP_cnt 61 0
      unfold B_X8_read
      simp (disch := omega) only [x_k, x_i, x_r, x_nil, x_add, x_sub, x_mul, x_div, x_rem, x_get, x_getR, x_ald, x_aldR, x_len, x_lenR, x_if, xa_nil, xa_ci, xa_cr, x_callI, x_callR, x_new, x_newa, x_newq, x_max, x_min, xc_cmp, xc_cmp0, xc_null, xc_nn, xc_not, xc_and, xc_or, xc_if, xs_skip, xs_seq, xs_decI, xs_decR, xs_setI, xs_inc, xs_if, xs_blk, xs_retI, xs_retB, xs_retR, xs_retD, xs_ret0, xs_putI, xs_putZ, xs_putR, xs_putop, xs_ast, xs_astop, xs_astR, xs_callV, xs_callP, xs_super, xs_sw, s_go_inl, s_go_inr, s_cut_inl, s_cut_inr, o_void_n, v_i_int, v_i_none, v_r_ref, v_r_null, v_r_rf, h_set_some, o_some_s, zB_ne0, zB_ite, zB_ite2, g_Vn, g_Pi, nI_add, Option.bind_some, Option.map_some, Option.bind_none, Option.map_none, List.getElem?_cons_zero, List.getElem?_cons_succ, List.set_cons_zero, List.set_cons_succ, List.cons_append, List.nil_append, List.take_succ_cons, List.take_zero, List.length_cons, List.length_nil, Nat.zero_add, Nat.reduceAdd, Nat.reduceLT, if_true, if_false, Bool.false_eq_true, Bool.true_eq_false, decide_eq_true_eq, decide_true, decide_false, Bool.not_true, Bool.not_false, Option.isNone_none, Option.isNone_some, Option.isSome_none, Option.isSome_some, ite_true, ite_false, reduceIte, reduceCtorEq, and_true, true_and, eq_self, Option.some.injEq, Sum.inr.injEq, Sum.inl.injEq, Prod.mk.injEq, w.obj, w1.obj, kg0, kg5, v_rf, r1, ne, po1, qg3, hn, h_obj_eq s1.2.1, pk_sub, j_gt, show 12 - V.1.1.length < X.2.length by omega]
    · simp only [if_neg c]
      obtain ⟨σ2, P2, C2, r2, w2⟩ := f_prepare w1
      obtain ⟨T2, hT2⟩ : ∃ T2, T2 = uN T (3 + (fi + V.2.1.length) % 5) (T 0) := ⟨_, rfl⟩
      rw [← hT2] at w2
      have t20 : T2 0 = V.1 := by
        rw [hT2]
        show (if 0 = 3 + (fi + V.2.1.length) % 5 then _ else T 0) = _
        rw [if_neg (by omega)]
        exact v.1
      obtain ⟨Q2, hQ2, e2⟩ := w2.qp
      have rb := f_begin (σ := σ2) (Q := Q2) w2.len
      rw [← e2] at rb
      have hQ3 : PadQ ((uN Q2.1 2 (nI 0), Q2.2) : tC) V.2.2.2.1 := hQ2.same rfl rfl
      have w3 := w2.pd hQ3
      have e3 := qp_same w2.len ((uN Q2.1 2 (nI 0), Q2.2) : tC)
      obtain ⟨σ3, es3⟩ : ∃ σ3, σ3 = qp σ2 ((uN Q2.1 2 (nI 0), Q2.2) : tC) := ⟨_, rfl⟩
      rw [← es3] at rb w3 e3
      obtain ⟨σ4, P4, C4, T4, k', r4, w4, t40, t4o⟩ := k_readL 61 0 0 σ3 P2 C2 T2 _ w3 hQ3 e3 (Nat.zero_le _) rfl (Nat.le_refl _) (by rw [← hX]; exact e) (by rw [← hX, t20]; omega) s_FUEL (by unfold s_FUEL; omega)
      rw [t20, ← hX] at t40
      have r4 : s_while C_X8_read_1 W_X8_read_1 [.ref 0, .int (nI 0)] σ3 = _ := r4
      obtain ⟨Q4, hQ4, e4⟩ := w4.qp
      obtain ⟨Q5, r5, hQ5⟩ := f_empty w4.len hQ4
      rw [← e4] at r5
      have w5 := w4.pd hQ5
      obtain ⟨σ5, es5⟩ : ∃ σ5, σ5 = qp σ4 Q5 := ⟨_, rfl⟩
      rw [← es5] at r5 w5
      have s5 := w5.now.1
      have ll : (T4 0).1.length = V.1.1.length + X.2.length := by
        rw [t40]
        show (V.1.1 ++ _).length = _
        rw [List.length_append, List.length_map]
      obtain ⟨σ6, fi', r6, w6, v6⟩ := keepV w5 v (by
        rw [t4o _ (by omega), hT2]
        show (if 3 + (fi + V.2.1.length) % 5 = 3 + (fi + V.2.1.length) % 5 then T 0 else _) = V.1
        rw [if_pos rfl]
        exact v.1) (by
        rw [t4o _ (by omega), hT2]
        show (if 2 = 3 + (fi + V.2.1.length) % 5 then _ else T 2) = T 2
        rw [if_neg (by omega)]) (fun k hk => by
        rw [t4o _ (by omega), hT2]
        show (if 3 + (fi + k) % 5 = 3 + (fi + V.2.1.length) % 5 then _ else T (3 + (fi + k) % 5)) = _
        rw [if_neg (ring_ne hk hh)]) (n := V.1.1.length + X.2.length) (by omega)
      rw [t40] at v6
      refine ⟨σ6, mV_eq w.2.1 rfl rfl ?_, P4, C4, T4, fi', er, nu, po, w6, v6⟩
      unfold B_X8_read
      simp (disch := omega) only [x_k, x_i, x_r, x_nil, x_add, x_sub, x_mul, x_div, x_rem, x_get, x_getR, x_ald, x_aldR, x_len, x_lenR, x_if, xa_nil, xa_ci, xa_cr, x_callI, x_callR, x_new, x_newa, x_newq, x_max, x_min, xc_cmp, xc_cmp0, xc_null, xc_nn, xc_not, xc_and, xc_or, xc_if, xs_skip, xs_seq, xs_decI, xs_decR, xs_setI, xs_inc, xs_if, xs_blk, xs_retI, xs_retB, xs_retR, xs_retD, xs_ret0, xs_putI, xs_putZ, xs_putR, xs_putop, xs_ast, xs_astop, xs_astR, xs_callV, xs_callP, xs_super, xs_sw, s_go_inl, s_go_inr, s_cut_inl, s_cut_inr, o_void_n, v_i_int, v_i_none, v_r_ref, v_r_null, v_r_rf, h_set_some, o_some_s, zB_ne0, zB_ite, zB_ite2, g_Vn, g_Pi, nI_add, Option.bind_some, Option.map_some, Option.bind_none, Option.map_none, List.getElem?_cons_zero, List.getElem?_cons_succ, List.set_cons_zero, List.set_cons_succ, List.cons_append, List.nil_append, List.take_succ_cons, List.take_zero, List.length_cons, List.length_nil, Nat.zero_add, Nat.reduceAdd, Nat.reduceLT, if_true, if_false, Bool.false_eq_true, Bool.true_eq_false, decide_eq_true_eq, decide_true, decide_false, Bool.not_true, Bool.not_false, Option.isNone_none, Option.isNone_some, Option.isSome_none, Option.isSome_some, ite_true, ite_false, reduceIte, reduceCtorEq, and_true, true_and, eq_self, Option.some.injEq, Sum.inr.injEq, Sum.inl.injEq, Prod.mk.injEq, not_true_eq_false, not_false_eq_true, Bool.decide_eq_true, n0_ne, n1_ne, xz_ret, zb_if, n1_if, n0_if, v_rf, h_ix_nI, nI_clamp, zB_t, zB_f, uN_uN, uN_ap, Nat.reduceEqDiff, Nat.reduceMul, Nat.reduceSub, w.obj, w1.obj, w2.obj, w3.obj, w4.obj, w5.obj, kg0, kg4, kg5, v_rf, r1, ne, po1, qg3, hn, h_obj_eq s1.2.1, pk_sub, j_gt, show ¬ 12 - V.1.1.length < X.2.length by omega, r2, rb, r4, r5, h_obj_eq s5.2.1, ll, r6]
end
