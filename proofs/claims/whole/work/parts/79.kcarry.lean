/-! StairKin's calls (own work): the pad is carried out -/
theorem cryF_c {t : tP} {l : List tP} {S : tS} {n : Nat} : cryF (t :: l) S n = if i_lt (deedT S t).1 0 = true then (n, S, some ((deedT S t).1, n, t.2.2.2)) else cryF l (deedT S t).2 (n + 1) := rfl
theorem cryF_in : ∀ (l : List tP) (S : tS) (n : Nat), n ≤ (cryF l S n).1 ∧ (cryF l S n).1 ≤ n + l.length ∧ ∀ e, (cryF l S n).2.2 = some e → i_lt e.1 0 = true
  | [], S, n => ⟨Nat.le_refl _, Nat.le_refl _, fun e he => (by cases he)⟩
  | t :: l, S, n => by
    rw [cryF_c]
    by_cases c : i_lt (deedT S t).1 0 = true
    · rw [if_pos c]
      exact ⟨Nat.le_refl _, Nat.le_add_right _ _, fun e he => by cases he; exact c⟩
    · rw [if_neg c]
      obtain ⟨a1, a2, a3⟩ := cryF_in l (deedT S t).2 (n + 1)
      rw [List.length_cons]
      exact ⟨by omega, by omega, a3⟩
section
variable {σ : sSt} {M : tM} {V : tV} {P C : Nat → Nat} {T : Nat → tS} {sv : Bool} {fi he : Nat} {er nu po : Int32} {p : List Nat}
theorem f_deedT {a p c : Nat} {S : tS} (h : StAt σ a p c S) {t : tP} (ht : letB t.1 = true) : ∃ σ' p' c', M_X6_deed [.ref a, .int (kn t.1), .int (nI t.2.1), .int (nI t.2.2.1)] σ = some (some (.int (deedT S t).1), σ') ∧ StAt σ' a p' c' (deedT S t).2 ∧ EffS σ σ' a p c p' c' := by
  have s := h.1
  unfold letB at ht
  rw [decide_eq_true_eq] at ht
  rcases ht with q | q | q
  · have e1 : kn t.1 = nI 0 := by rw [q]; rfl
    have e2 : deedT S t = dShare S (nI t.2.1) := by unfold deedT; rw [if_pos q]
    rw [e1, e2]
    obtain ⟨σ', p', c', r, t', e⟩ := f_shareD h (nI t.2.1)
    exact ⟨σ', p', c', f_deed0 s r, t', e⟩
  · have e1 : kn t.1 = nI 1 := by rw [q]; rfl
    have e2 : deedT S t = dDivide S (nI t.2.1) := by unfold deedT; rw [if_neg (by omega), if_pos q]
    rw [e1, e2]
    obtain ⟨σ', p', c', r, t', e⟩ := f_divideD h (nI t.2.1)
    exact ⟨σ', p', c', f_deed1 s r, t', e⟩
  · have e1 : kn t.1 = nI 2 := by rw [q]; rfl
    have e2 : deedT S t = dStrike S (nI t.2.1) (nI t.2.2.1) := by unfold deedT; rw [if_neg (by omega), if_neg (by omega)]
    rw [e1, e2]
    obtain ⟨σ', p', c', r, t', e⟩ := f_strikeD h (nI t.2.1) (nI t.2.2.1)
    exact ⟨σ', p', c', f_deed2 s r, t', e⟩
theorem deedT_no {S : tS} (h : okS S) (t : tP) : i_lt (deedT S t).1 0 = true → (deedT S t).2 = S := by
  unfold deedT
  split
  · exact dShare_no h _
  · split
    · exact dDivide_no h _
    · exact dStrike_no h _ _
def erF (o : Option (Int32 × Nat × Nat)) : Int32 := match o with | none => nI 0 | some e => e.1
theorem k_carryL : ∀ (n s k : Nat) (σ : sSt) (P C : Nat → Nat) (T : Nat → tS) (nu po : Int32) (Q : tC), W0 σ P C T sv fi he (nI 0) nu po p M → PadQ Q p → σ = qp σ Q → s ≤ p.length → Q.1 2 = nI s → 2 * k ≤ s → (fltP p true n s).1 = none → ∀ F, n + 1 < F → ∃ (σ' : sSt) (P' C' : Nat → Nat) (T' : Nat → tS) (k' : Nat) (er' nu' po' : Int32), s_wh C_X8_carryOut_1 W_X8_carryOut_1 F [.ref 0, .int (nI k), .int (nI k)] σ = some (.inr ([.ref 0, .int (nI (cryF (fltP p true n s).2 (T 0) k).1), .int (nI k')], σ')) ∧ W0 σ' P' C' T' sv fi he er' nu' po' p M ∧ T' 0 = (cryF (fltP p true n s).2 (T 0) k).2.1 ∧ (∀ j, j ≠ 0 → T' j = T j) ∧ WStop er' nu' po' (cryF (fltP p true n s).2 (T 0) k).2.2 := by
  intro n
  induction n with
  | zero => intro s k σ P C T nu po Q w hQ e hs h2 hk hf; cases hf
  | succ n ih =>
    intro s k σ P C T nu po Q w hQ e hs h2 hk hf F hF
    obtain ⟨F, rfl⟩ : ∃ F', F = F' + 1 := ⟨F - 1, by omega⟩
    have h1 := hQ.1
    have hdeed := fltP_deed (p := p) h1 (n + 1) s hs
    have ef : fltP p true (n + 1) s = if (partP p true s).1 = true then (if sgB p (sepC true) (partP p true s).2.2 = true then ((fltP p true n ((partP p true s).2.2 + 1)).1, (partP p true s).2.1 :: (fltP p true n ((partP p true s).2.2 + 1)).2) else (if (partP p true s).2.2 = p.length then none else some (partP p true s).2.2, [(partP p true s).2.1])) else (some (partP p true s).2.2, []) := rfl
    rw [ef] at hf hdeed ⊢
    obtain ⟨σ1, Q1, r1, w1, hQ1, e1, b4, b5⟩ := k_part w hQ e hs h2 true
    obtain ⟨q1, q2, q3⟩ := partP_in (p := p) (w := true) hs
    have r1 : M_X4_nextPart [.ref 51, .int (nI 1)] σ = _ := r1
    obtain ⟨A, hA⟩ : ∃ A, A = partP p true s := ⟨_, rfl⟩
    rw [← hA] at r1 b4 b5 q1 q2 q3 hf hdeed ⊢
    cases c : A.1 with
    | false => rw [c, if_neg Bool.false_ne_true] at hf; cases hf
    | true =>
      rw [c] at r1
      rw [c, if_pos rfl] at hf hdeed
      rw [if_pos rfl]
      have q3 := q3 c
      obtain ⟨p5, p6, p7, p8⟩ : Q1.1 5 = kn A.2.1.1 ∧ Q1.1 6 = nI A.2.1.2.1 ∧ Q1.1 7 = nI A.2.1.2.2.1 ∧ Q1.1 8 = nI A.2.1.2.2.2 := b5 c
      have z0 : i_eq (nI 0) 0 = true := by decide
      have hC : C_X8_carryOut_1 [.ref 0, .int (nI k), .int (nI k)] σ = some (true, σ1) := by
        simp (disch := omega) only [x_k, x_i, x_r, x_nil, x_add, x_sub, x_mul, x_div, x_rem, x_get, x_getR, x_ald, x_aldR, x_len, x_lenR, x_if, xa_nil, xa_ci, xa_cr, x_callI, x_callR, x_new, x_newa, x_newq, x_max, x_min, xc_cmp, xc_cmp0, xc_null, xc_nn, xc_not, xc_and, xc_or, xc_if, xs_skip, xs_seq, xs_decI, xs_decR, xs_setI, xs_inc, xs_if, xs_blk, xs_retI, xs_retB, xs_retR, xs_retD, xs_ret0, xs_putI, xs_putZ, xs_putR, xs_putop, xs_ast, xs_astop, xs_astR, xs_callV, xs_callP, xs_super, xs_sw, s_go_inl, s_go_inr, s_cut_inl, s_cut_inr, o_void_n, v_i_int, v_i_none, v_r_ref, v_r_null, v_r_rf, h_set_some, o_some_s, zB_ne0, zB_ite, zB_ite2, g_Vn, g_Pi, nI_add, Option.bind_some, Option.map_some, Option.bind_none, Option.map_none, List.getElem?_cons_zero, List.getElem?_cons_succ, List.set_cons_zero, List.set_cons_succ, List.cons_append, List.nil_append, List.take_succ_cons, List.take_zero, List.length_cons, List.length_nil, Nat.zero_add, Nat.reduceAdd, Nat.reduceLT, if_true, if_false, Bool.false_eq_true, Bool.true_eq_false, decide_eq_true_eq, decide_true, decide_false, Bool.not_true, Bool.not_false, Option.isNone_none, Option.isNone_some, Option.isSome_none, Option.isSome_some, ite_true, ite_false, reduceIte, reduceCtorEq, and_true, true_and, eq_self, Option.some.injEq, Sum.inr.injEq, Sum.inl.injEq, Prod.mk.injEq, not_true_eq_false, not_false_eq_true, Bool.decide_eq_true, n0_ne, n1_ne, xz_ret, zb_if, n1_if, n0_if, v_rf, h_ix_nI, nI_clamp, zB_t, zB_f, uN_uN, uN_ap, Nat.reduceEqDiff, Nat.reduceMul, Nat.reduceSub, j_lt, show k < 60 by omega, w.obj, kg5, kg8, z0, r1]
      have t1 := w1.now
      have po1 := w_pad w1 e1
      obtain ⟨S, hS⟩ : ∃ S, S = T 0 := ⟨_, rfl⟩
      rw [← hS] at t1 ⊢
      have hl := t1.1.1.1
      have hb : letB A.2.1.1 = true ∧ A.2.1.2.1 ≤ 11 ∧ A.2.1.2.2.1 ≤ 9999 ∧ A.2.1.2.2.2 ≤ 60 := by
        refine hdeed A.2.1 ?_
        split
        · exact List.mem_cons_self
        · exact List.mem_cons_self
      obtain ⟨σ2, p2, c2, r2, t2, eff⟩ := f_deedT t1 hb.1
      obtain ⟨P2, C2, w2, e2⟩ := w_deedQ w1 (i := 0) (by omega) t2 eff e1
      have po2 := w_pad w2 e2
      have sc : sepC true = 59 := rfl
      rw [sc] at hf ⊢
      cases z : i_lt (deedT S A.2.1).1 0 with
      | true =>
        have same := deedT_no t1.1.1 A.2.1 z
        obtain ⟨B, hB⟩ : ∃ B, B = (if sgB p 59 A.2.2 = true then ((fltP p true n (A.2.2 + 1)).1, A.2.1 :: (fltP p true n (A.2.2 + 1)).2) else (if A.2.2 = p.length then none else some A.2.2, [A.2.1])) := ⟨_, rfl⟩
        rw [← hB]
        obtain ⟨l, hl2⟩ : ∃ l, B.2 = A.2.1 :: l := by
          rw [hB]
          split
          · exact ⟨_, rfl⟩
          · exact ⟨_, rfl⟩
        rw [hl2, cryF_c, if_pos z]
        obtain ⟨Tz, hTz⟩ : ∃ Tz, Tz = uN T 0 (deedT S A.2.1).2 := ⟨_, rfl⟩
        have tz0 : Tz 0 = S := by rw [hTz]; exact same
        have tzo : ∀ j, j ≠ 0 → Tz j = T j := fun j hj => by rw [hTz]; exact if_neg hj
        rw [← hTz] at w2
        obtain ⟨an, han⟩ : ∃ an, an = (deedT S A.2.1).1 := ⟨_, rfl⟩
        rw [← han] at r2 z ⊢
        obtain ⟨σ3, es3⟩ : ∃ σ3 : sSt, σ3 = (σ2.1.set 0 (.inl (6, kF sv an nu po)), σ2.2) := ⟨_, rfl⟩
        have w3 : W0 σ3 P2 C2 Tz sv fi he an nu po p M := by rw [es3]; exact w2.k sv an nu po
        obtain ⟨σ4, es4⟩ : ∃ σ4 : sSt, σ4 = (σ3.1.set 0 (.inl (6, kF sv an (nI k) po)), σ3.2) := ⟨_, rfl⟩
        have w4 : W0 σ4 P2 C2 Tz sv fi he an (nI k) po p M := by rw [es4]; exact w3.k sv an (nI k) po
        obtain ⟨σ5, es5⟩ : ∃ σ5 : sSt, σ5 = (σ4.1.set 0 (.inl (6, kF sv an (nI k) (nI A.2.1.2.2.2))), σ4.2) := ⟨_, rfl⟩
        have w5 : W0 σ5 P2 C2 Tz sv fi he an (nI k) (nI A.2.1.2.2.2) p M := by rw [es5]; exact w4.k sv an (nI k) _
        have h51 : σ4.1[51]? = σ2.1[51]? := by
          rw [es4, es3]
          show ((σ2.1.set 0 _).set 0 _)[51]? = _
          rw [List.getElem?_set_ne (by omega), List.getElem?_set_ne (by omega)]
        have po4 : h_obj σ4 (some 51) 4 = some (qF Q1.1) := by
          refine h_obj_eq (h51.trans ?_)
          rw [e2]
          exact qp_at (k := 0) w2.len rfl
        have s8 : (kF sv (nI 0) nu po).set 8 (.int an) = kF sv an nu po := rfl
        have s9 : (kF sv an nu po).set 9 (.int (nI k)) = kF sv an (nI k) po := rfl
        have s10 : (kF sv an (nI k) po).set 10 (.int (nI A.2.1.2.2.2)) = kF sv an (nI k) (nI A.2.1.2.2.2) := rfl
        have hW : W_X8_carryOut_1 [.ref 0, .int (nI k), .int (nI k)] σ1 = some (.inr ([.ref 0, .int (nI k), .int (nI (k + 1))], σ5)) := by
          simp (disch := omega) only [x_k, x_i, x_r, x_nil, x_add, x_sub, x_mul, x_div, x_rem, x_get, x_getR, x_ald, x_aldR, x_len, x_lenR, x_if, xa_nil, xa_ci, xa_cr, x_callI, x_callR, x_new, x_newa, x_newq, x_max, x_min, xc_cmp, xc_cmp0, xc_null, xc_nn, xc_not, xc_and, xc_or, xc_if, xs_skip, xs_seq, xs_decI, xs_decR, xs_setI, xs_inc, xs_if, xs_blk, xs_retI, xs_retB, xs_retR, xs_retD, xs_ret0, xs_putI, xs_putZ, xs_putR, xs_putop, xs_ast, xs_astop, xs_astR, xs_callV, xs_callP, xs_super, xs_sw, s_go_inl, s_go_inr, s_cut_inl, s_cut_inr, o_void_n, v_i_int, v_i_none, v_r_ref, v_r_null, v_r_rf, h_set_some, o_some_s, zB_ne0, zB_ite, zB_ite2, g_Vn, g_Pi, nI_add, Option.bind_some, Option.map_some, Option.bind_none, Option.map_none, List.getElem?_cons_zero, List.getElem?_cons_succ, List.set_cons_zero, List.set_cons_succ, List.cons_append, List.nil_append, List.take_succ_cons, List.take_zero, List.length_cons, List.length_nil, Nat.zero_add, Nat.reduceAdd, Nat.reduceLT, if_true, if_false, Bool.false_eq_true, Bool.true_eq_false, decide_eq_true_eq, decide_true, decide_false, Bool.not_true, Bool.not_false, Option.isNone_none, Option.isNone_some, Option.isSome_none, Option.isSome_some, ite_true, ite_false, reduceIte, reduceCtorEq, and_true, true_and, eq_self, Option.some.injEq, Sum.inr.injEq, Sum.inl.injEq, Prod.mk.injEq, not_true_eq_false, not_false_eq_true, Bool.decide_eq_true, n0_ne, n1_ne, xz_ret, zb_if, n1_if, n0_if, v_rf, h_ix_nI, nI_clamp, zB_t, zB_f, uN_uN, uN_ap, Nat.reduceEqDiff, Nat.reduceMul, Nat.reduceSub, w1.obj, kg0, kg5, po1, qg5, qg6, qg7, p5, p6, p7, r2, z, w2.obj, kF_len, s8, ← es3, w3.obj, s9, ← es4, w4.obj, po4, qg8, p8, s10, ← es5]
        obtain ⟨F, rfl⟩ : ∃ F', F = F' + 1 := ⟨F - 1, by omega⟩
        have zz : i_eq an 0 = false := decide_eq_false (fun q => by rw [q] at z; exact absurd z (by decide))
        refine ⟨σ5, P2, C2, Tz, k + 1, an, nI k, nI A.2.1.2.2.2, (wh_T hC hW).trans (wh_F ?_), w5, tz0, tzo, fun q => (by cases q), fun e he => ?_⟩
        · simp (disch := omega) only [x_k, x_i, x_r, x_nil, x_add, x_sub, x_mul, x_div, x_rem, x_get, x_getR, x_ald, x_aldR, x_len, x_lenR, x_if, xa_nil, xa_ci, xa_cr, x_callI, x_callR, x_new, x_newa, x_newq, x_max, x_min, xc_cmp, xc_cmp0, xc_null, xc_nn, xc_not, xc_and, xc_or, xc_if, xs_skip, xs_seq, xs_decI, xs_decR, xs_setI, xs_inc, xs_if, xs_blk, xs_retI, xs_retB, xs_retR, xs_retD, xs_ret0, xs_putI, xs_putZ, xs_putR, xs_putop, xs_ast, xs_astop, xs_astR, xs_callV, xs_callP, xs_super, xs_sw, s_go_inl, s_go_inr, s_cut_inl, s_cut_inr, o_void_n, v_i_int, v_i_none, v_r_ref, v_r_null, v_r_rf, h_set_some, o_some_s, zB_ne0, zB_ite, zB_ite2, g_Vn, g_Pi, nI_add, Option.bind_some, Option.map_some, Option.bind_none, Option.map_none, List.getElem?_cons_zero, List.getElem?_cons_succ, List.set_cons_zero, List.set_cons_succ, List.cons_append, List.nil_append, List.take_succ_cons, List.take_zero, List.length_cons, List.length_nil, Nat.zero_add, Nat.reduceAdd, Nat.reduceLT, if_true, if_false, Bool.false_eq_true, Bool.true_eq_false, decide_eq_true_eq, decide_true, decide_false, Bool.not_true, Bool.not_false, Option.isNone_none, Option.isNone_some, Option.isSome_none, Option.isSome_some, ite_true, ite_false, reduceIte, reduceCtorEq, and_true, true_and, eq_self, Option.some.injEq, Sum.inr.injEq, Sum.inl.injEq, Prod.mk.injEq, not_true_eq_false, not_false_eq_true, Bool.decide_eq_true, n0_ne, n1_ne, xz_ret, zb_if, n1_if, n0_if, v_rf, h_ix_nI, nI_clamp, zB_t, zB_f, uN_uN, uN_ap, Nat.reduceEqDiff, Nat.reduceMul, Nat.reduceSub, j_lt, show k + 1 < 60 by omega, w5.obj, kg8, zz]
        · cases he
          exact ⟨rfl, z, rfl, rfl⟩
      | false =>
        have z' : ¬ i_lt (deedT S A.2.1).1 0 = true := by rw [z]; exact Bool.false_ne_true
        obtain ⟨σ3, Q3, r3, w3, hQ3, e3, b3⟩ := k_skip w2 hQ1 e2 (c := 59) q2 b4 (by omega) (by omega)
        have hW : W_X8_carryOut_1 [.ref 0, .int (nI k), .int (nI k)] σ1 = some (.inr ([.ref 0, .int (nI (k + 1)), .int (nI (k + 1))], σ3)) := by
          simp (disch := omega) only [x_k, x_i, x_r, x_nil, x_add, x_sub, x_mul, x_div, x_rem, x_get, x_getR, x_ald, x_aldR, x_len, x_lenR, x_if, xa_nil, xa_ci, xa_cr, x_callI, x_callR, x_new, x_newa, x_newq, x_max, x_min, xc_cmp, xc_cmp0, xc_null, xc_nn, xc_not, xc_and, xc_or, xc_if, xs_skip, xs_seq, xs_decI, xs_decR, xs_setI, xs_inc, xs_if, xs_blk, xs_retI, xs_retB, xs_retR, xs_retD, xs_ret0, xs_putI, xs_putZ, xs_putR, xs_putop, xs_ast, xs_astop, xs_astR, xs_callV, xs_callP, xs_super, xs_sw, s_go_inl, s_go_inr, s_cut_inl, s_cut_inr, o_void_n, v_i_int, v_i_none, v_r_ref, v_r_null, v_r_rf, h_set_some, o_some_s, zB_ne0, zB_ite, zB_ite2, g_Vn, g_Pi, nI_add, Option.bind_some, Option.map_some, Option.bind_none, Option.map_none, List.getElem?_cons_zero, List.getElem?_cons_succ, List.set_cons_zero, List.set_cons_succ, List.cons_append, List.nil_append, List.take_succ_cons, List.take_zero, List.length_cons, List.length_nil, Nat.zero_add, Nat.reduceAdd, Nat.reduceLT, if_true, if_false, Bool.false_eq_true, Bool.true_eq_false, decide_eq_true_eq, decide_true, decide_false, Bool.not_true, Bool.not_false, Option.isNone_none, Option.isNone_some, Option.isSome_none, Option.isSome_some, ite_true, ite_false, reduceIte, reduceCtorEq, and_true, true_and, eq_self, Option.some.injEq, Sum.inr.injEq, Sum.inl.injEq, Prod.mk.injEq, not_true_eq_false, not_false_eq_true, Bool.decide_eq_true, n0_ne, n1_ne, xz_ret, zb_if, n1_if, n0_if, v_rf, h_ix_nI, nI_clamp, zB_t, zB_f, uN_uN, uN_ap, Nat.reduceEqDiff, Nat.reduceMul, Nat.reduceSub, w1.obj, kg0, kg5, po1, qg5, qg6, qg7, p5, p6, p7, r2, z, w2.obj, r3]
        by_cases d : sgB p 59 A.2.2 = true
        · rw [if_pos d] at hf b3 ⊢
          have d' := d
          unfold sgB at d'
          rw [Bool.and_eq_true, decide_eq_true_eq] at d'
          obtain ⟨σ', P', C', T', k', er', nu', po', r, w', t0, to, ws⟩ := ih (A.2.2 + 1) (k + 1) σ3 P2 C2 _ nu po Q3 w3 hQ3 e3 (by omega) b3 (by omega) hf F (by omega)
          rw [cryF_c, if_neg z']
          exact ⟨σ', P', C', T', k', er', nu', po', (wh_T hC hW).trans r, w', t0, fun j hj => (to j hj).trans (if_neg hj), ws⟩
        · rw [if_neg d] at hf b3 ⊢
          have hend : A.2.2 = p.length := by
            by_cases g : A.2.2 = p.length
            · exact g
            · rw [if_neg g] at hf; cases hf
          obtain ⟨σ4, Q4, r4, w4, -⟩ := k_part w3 hQ3 e3 q2 b3 true
          rw [hend, partP_end] at r4
          have r4 : M_X4_nextPart [.ref 51, .int (nI 1)] σ3 = _ := r4
          obtain ⟨F, rfl⟩ : ∃ F', F = F' + 1 := ⟨F - 1, by omega⟩
          rw [cryF_c, if_neg z']
          refine ⟨σ4, P2, C2, _, k + 1, nI 0, nu, po, (wh_T hC hW).trans (wh_F ?_), w4, rfl, fun j hj => if_neg hj, fun _ => rfl, fun e he => by cases he⟩
          simp (disch := omega) only [x_k, x_i, x_r, x_nil, x_add, x_sub, x_mul, x_div, x_rem, x_get, x_getR, x_ald, x_aldR, x_len, x_lenR, x_if, xa_nil, xa_ci, xa_cr, x_callI, x_callR, x_new, x_newa, x_newq, x_max, x_min, xc_cmp, xc_cmp0, xc_null, xc_nn, xc_not, xc_and, xc_or, xc_if, xs_skip, xs_seq, xs_decI, xs_decR, xs_setI, xs_inc, xs_if, xs_blk, xs_retI, xs_retB, xs_retR, xs_retD, xs_ret0, xs_putI, xs_putZ, xs_putR, xs_putop, xs_ast, xs_astop, xs_astR, xs_callV, xs_callP, xs_super, xs_sw, s_go_inl, s_go_inr, s_cut_inl, s_cut_inr, o_void_n, v_i_int, v_i_none, v_r_ref, v_r_null, v_r_rf, h_set_some, o_some_s, zB_ne0, zB_ite, zB_ite2, g_Vn, g_Pi, nI_add, Option.bind_some, Option.map_some, Option.bind_none, Option.map_none, List.getElem?_cons_zero, List.getElem?_cons_succ, List.set_cons_zero, List.set_cons_succ, List.cons_append, List.nil_append, List.take_succ_cons, List.take_zero, List.length_cons, List.length_nil, Nat.zero_add, Nat.reduceAdd, Nat.reduceLT, if_true, if_false, Bool.false_eq_true, Bool.true_eq_false, decide_eq_true_eq, decide_true, decide_false, Bool.not_true, Bool.not_false, Option.isNone_none, Option.isNone_some, Option.isSome_none, Option.isSome_some, ite_true, ite_false, reduceIte, reduceCtorEq, and_true, true_and, eq_self, Option.some.injEq, Sum.inr.injEq, Sum.inl.injEq, Prod.mk.injEq, not_true_eq_false, not_false_eq_true, Bool.decide_eq_true, n0_ne, n1_ne, xz_ret, zb_if, n1_if, n0_if, v_rf, h_ix_nI, nI_clamp, zB_t, zB_f, uN_uN, uN_ap, Nat.reduceEqDiff, Nat.reduceMul, Nat.reduceSub, j_lt, show k + 1 < 60 by omega, w3.obj, kg5, kg8, z0, r4]
theorem k_carryOut (h : WV σ M V) : ∃ σ', M_X8_carryOut [.ref 0] σ = some (some (.int (spCarry V).1), σ') ∧ WV σ' M (spCarry V).2 := by
  have h' := h
  obtain ⟨P, C, T, fi, er, nu, po, w, v⟩ := h
  have hh : V.2.1.length ≤ 4 := w.2.2.2.2.2.2.2.2.2
  obtain ⟨Q, hQ, eQ⟩ := w.qp
  obtain ⟨Q1, r1, hQ1, hn⟩ := f_faultOf w.len hQ true
  rw [← eQ] at r1
  have r1 : M_X4_faultOf [.ref 51, .int (nI 1)] σ = _ := r1
  have w1 := w.pd hQ1
  have e1 := qp_same w.len Q1
  obtain ⟨σ1, es1⟩ : ∃ σ1, σ1 = qp σ Q1 := ⟨_, rfl⟩
  rw [← es1] at r1 w1 e1
  have hle : ∀ a, (fltP V.2.2.2.1 true 61 0).1 = some a → a < 2 ^ 31 := fun a ha => by
    have := fltP_le 61 0 (Nat.zero_le _) ha
    have := hQ.1
    omega
  have ne := nx_ne hle
  unfold spCarry
  obtain ⟨X, hX⟩ : ∃ X, X = fltP V.2.2.2.1 true 61 0 := ⟨_, rfl⟩
  rw [← hX] at r1 hn ne ⊢
  cases e : X.1 with
  | some a =>
    rw [e] at r1 ne
    refine ⟨σ1, mV_eq w.2.1 rfl rfl ?_, P, C, T, fi, er, nu, po, w1, v⟩
    have ne : i_ne (nx (some a)) (-1) = true := ne
    unfold B_X8_carryOut
    simp only [x_k, x_i, x_r, x_nil, x_add, x_sub, x_mul, x_div, x_rem, x_get, x_getR, x_ald, x_aldR, x_len, x_lenR, x_if, xa_nil, xa_ci, xa_cr, x_callI, x_callR, x_new, x_newa, x_newq, x_max, x_min, xc_cmp, xc_cmp0, xc_null, xc_nn, xc_not, xc_and, xc_or, xc_if, xs_skip, xs_seq, xs_decI, xs_decR, xs_setI, xs_inc, xs_if, xs_blk, xs_retI, xs_retB, xs_retR, xs_retD, xs_ret0, xs_putI, xs_putZ, xs_putR, xs_putop, xs_ast, xs_astop, xs_astR, xs_callV, xs_callP, xs_super, xs_sw, s_go_inl, s_go_inr, s_cut_inl, s_cut_inr, o_void_n, v_i_int, v_i_none, v_r_ref, v_r_null, v_r_rf, h_set_some, o_some_s, zB_ne0, zB_ite, zB_ite2, g_Vn, g_Pi, nI_add, Option.bind_some, Option.map_some, Option.bind_none, Option.map_none, List.getElem?_cons_zero, List.getElem?_cons_succ, List.set_cons_zero, List.set_cons_succ, List.cons_append, List.nil_append, List.take_succ_cons, List.take_zero, List.length_cons, List.length_nil, Nat.zero_add, Nat.reduceAdd, Nat.reduceLT, if_true, if_false, Bool.false_eq_true, Bool.true_eq_false, decide_eq_true_eq, decide_true, decide_false, Bool.not_true, Bool.not_false, Option.isNone_none, Option.isNone_some, Option.isSome_none, Option.isSome_some, ite_true, ite_false, reduceIte, reduceCtorEq, and_true, true_and, eq_self, Option.some.injEq, Sum.inr.injEq, Sum.inl.injEq, Prod.mk.injEq, w.obj, kg5, v_rf, r1, ne]
  | none =>
    rw [e] at r1 ne
    have ne : i_ne (nx none) (-1) = false := ne
    obtain ⟨σ2, P2, C2, r2, w2⟩ := f_prepare w1
    obtain ⟨T2, hT2⟩ : ∃ T2, T2 = uN T (3 + (fi + V.2.1.length) % 5) (T 0) := ⟨_, rfl⟩
    rw [← hT2] at w2
    have t20 : T2 0 = V.1 := by
      rw [hT2]
      show (if 0 = 3 + (fi + V.2.1.length) % 5 then _ else T 0) = _
      rw [if_neg (by omega)]
      exact v.1
    obtain ⟨σ3, es3⟩ : ∃ σ3 : sSt, σ3 = (σ2.1.set 0 (.inl (6, kF V.2.2.1.isSome (nI 0) nu po)), σ2.2) := ⟨_, rfl⟩
    have w3 : W0 σ3 P2 C2 T2 V.2.2.1.isSome fi V.2.1.length (nI 0) nu po V.2.2.2.1 M := by rw [es3]; exact w2.k _ (nI 0) nu po
    have s8 : (kF V.2.2.1.isSome er nu po).set 8 (.int (nI 0)) = kF V.2.2.1.isSome (nI 0) nu po := rfl
    obtain ⟨Q3, hQ3, e3⟩ := w3.qp
    have rb := f_begin (σ := σ3) (Q := Q3) w3.len
    rw [← e3] at rb
    have hQ4 : PadQ ((uN Q3.1 2 (nI 0), Q3.2) : tC) V.2.2.2.1 := hQ3.same rfl rfl
    have w4 := w3.pd hQ4
    have e4 := qp_same w3.len ((uN Q3.1 2 (nI 0), Q3.2) : tC)
    obtain ⟨σ4, es4⟩ : ∃ σ4, σ4 = qp σ3 ((uN Q3.1 2 (nI 0), Q3.2) : tC) := ⟨_, rfl⟩
    rw [← es4] at rb w4 e4
    obtain ⟨σ5, P5, C5, T5, k', er', nu', po', r5, w5, t50, t5o, ws⟩ := k_carryL 61 0 0 σ4 P2 C2 T2 nu po _ w4 hQ4 e4 (Nat.zero_le _) rfl (Nat.le_refl _) (by rw [← hX]; exact e) s_FUEL (by unfold s_FUEL; omega)
    rw [t20, ← hX] at r5 t50 ws
    have r5 : s_while C_X8_carryOut_1 W_X8_carryOut_1 [.ref 0, .int (nI 0), .int (nI 0)] σ4 = _ := r5
    obtain ⟨Q5, hQ5, e5⟩ := w5.qp
    obtain ⟨Q6, r6, hQ6⟩ := f_empty w5.len hQ5
    rw [← e5] at r6
    have w6 := w5.pd hQ6
    obtain ⟨σ6, es6⟩ : ∃ σ6, σ6 = qp σ5 Q6 := ⟨_, rfl⟩
    rw [← es6] at r6 w6
    have xl : X.2.length ≤ 61 := by rw [hX]; exact fltP_cnt 61 0
    have cl := (cryF_in X.2 V.1 0).2.1
    obtain ⟨σ7, fi', r7, w7, v7⟩ := keepV w6 v (by
      rw [t5o _ (by omega), hT2]
      show (if 3 + (fi + V.2.1.length) % 5 = 3 + (fi + V.2.1.length) % 5 then T 0 else _) = V.1
      rw [if_pos rfl]
      exact v.1) (by
      rw [t5o _ (by omega), hT2]
      show (if 2 = 3 + (fi + V.2.1.length) % 5 then _ else T 2) = T 2
      rw [if_neg (by omega)]) (fun k hk => by
      rw [t5o _ (by omega), hT2]
      show (if 3 + (fi + k) % 5 = 3 + (fi + V.2.1.length) % 5 then _ else T (3 + (fi + k) % 5)) = _
      rw [if_neg (ring_ne hk hh)]) (n := (cryF X.2 V.1 0).1) (by omega)
    rw [t50] at v7
    refine ⟨σ7, mV_eq w.2.1 rfl rfl ?_, P5, C5, T5, fi', er', nu', po', w7, v7.1, v7.2.1, v7.2.2.1, ws⟩
    unfold B_X8_carryOut
    simp (disch := omega) only [x_k, x_i, x_r, x_nil, x_add, x_sub, x_mul, x_div, x_rem, x_get, x_getR, x_ald, x_aldR, x_len, x_lenR, x_if, xa_nil, xa_ci, xa_cr, x_callI, x_callR, x_new, x_newa, x_newq, x_max, x_min, xc_cmp, xc_cmp0, xc_null, xc_nn, xc_not, xc_and, xc_or, xc_if, xs_skip, xs_seq, xs_decI, xs_decR, xs_setI, xs_inc, xs_if, xs_blk, xs_retI, xs_retB, xs_retR, xs_retD, xs_ret0, xs_putI, xs_putZ, xs_putR, xs_putop, xs_ast, xs_astop, xs_astR, xs_callV, xs_callP, xs_super, xs_sw, s_go_inl, s_go_inr, s_cut_inl, s_cut_inr, o_void_n, v_i_int, v_i_none, v_r_ref, v_r_null, v_r_rf, h_set_some, o_some_s, zB_ne0, zB_ite, zB_ite2, g_Vn, g_Pi, nI_add, Option.bind_some, Option.map_some, Option.bind_none, Option.map_none, List.getElem?_cons_zero, List.getElem?_cons_succ, List.set_cons_zero, List.set_cons_succ, List.cons_append, List.nil_append, List.take_succ_cons, List.take_zero, List.length_cons, List.length_nil, Nat.zero_add, Nat.reduceAdd, Nat.reduceLT, if_true, if_false, Bool.false_eq_true, Bool.true_eq_false, decide_eq_true_eq, decide_true, decide_false, Bool.not_true, Bool.not_false, Option.isNone_none, Option.isNone_some, Option.isSome_none, Option.isSome_some, ite_true, ite_false, reduceIte, reduceCtorEq, and_true, true_and, eq_self, Option.some.injEq, Sum.inr.injEq, Sum.inl.injEq, Prod.mk.injEq, not_true_eq_false, not_false_eq_true, Bool.decide_eq_true, n0_ne, n1_ne, xz_ret, zb_if, n1_if, n0_if, v_rf, h_ix_nI, nI_clamp, zB_t, zB_f, uN_uN, uN_ap, Nat.reduceEqDiff, Nat.reduceMul, Nat.reduceSub, w.obj, w1.obj, w2.obj, kF_len, s8, ← es3, w3.obj, w4.obj, w5.obj, w6.obj, kg0, kg4, kg5, v_rf, r1, ne, r2, rb, r5, r6, r7]
end
