/-! THE LAW'S DEEDS (own work): share, divide, strike, settle -/
theorem p25_inj : ∀ j, j < 25 → ∀ k, k < 25 → p25 j = p25 k → j = k := by decide +kernel
theorem spl_came {S : tS} (h : okS S) {i d : Nat} (hi : i < S.1.length) (hd : 1 ≤ d) (hdv : sN S i % d = 0) {q : Nat} (hq : isPr q) : came (spl S i d) q = came S q := by
  have b1 := sN_ok h i
  have hm : d * (sN S i / d) = sN S i := Nat.mul_div_cancel' (Nat.dvd_of_mod_eq_zero hdv)
  have hq1 : 1 ≤ sN S i / d := dvd_pos b1.1 hdv
  have hex : ex q (sN S i) = ex q d + ex q (sN S i / d) := by
    have := ex_mul hq d d (sN S i / d) (Nat.le_refl _) hd hq1
    rw [hm] at this
    exact this
  have key : ∀ s a e : Int32, s + a + (e + -a) = s + e := fun s a e => by
    rw [Int32.add_assoc, ← Int32.add_assoc a, Int32.add_comm a e, Int32.add_assoc e, Int32.add_right_neg, Int32.add_zero]
  unfold spl came
  by_cases c : sN S i / d = 1
  · rw [if_pos c]
    show sCh S q + nI (ex q d) + exL q (S.1.eraseIdx i) = _
    rw [c, ex_1, Nat.add_zero] at hex
    rw [exL_del S.1 i (sN_in hi), hex, key]
  · rw [if_neg c]
    show sCh S q + nI (ex q d) + exL q (S.1.set i (sN S i / d)) = _
    rw [exL_set S.1 i (sN_in hi), hex, ← nI_add]
    have key2 : ∀ s a b e : Int32, s + a + (e + -(a + b) + b) = s + e := fun s a b e => by
      rw [Int32.neg_add, Int32.sub_eq_add_neg, Int32.add_assoc e, Int32.add_assoc (-a), Int32.add_left_neg, Int32.add_zero]
      exact key s a e
    exact key2 _ _ _ _
theorem dShare_n {S : tS} (h : okS S) {i : Nat} (hi : i < 2 ^ 31) : dShare S (nI i) = if i + 1 < S.1.length then (if 9999 < lcm2 (sN S i) (sN S (i + 1)) then (-3, S) else (nI (Nat.gcd (sN S i) (sN S (i + 1))), shr S i)) else (-1, S) := by
  unfold dShare
  rw [s2B_n h hi, nN_n hi]
  by_cases c : i + 1 < S.1.length
  · rw [if_pos (decide_eq_true c), if_pos c]
  · rw [if_neg (fun z => c (of_decide_eq_true z)), if_neg c]
theorem dDivide_n {S : tS} (h : okS S) {i : Nat} (hi : i < 2 ^ 31) : dDivide S (nI i) = if i + 1 < S.1.length then (if sN S (i + 1) % sN S i = 0 then (nI (sN S (i + 1) / sN S i), spl S (i + 1) (sN S i)) else (-2, S)) else (-1, S) := by
  unfold dDivide
  rw [s2B_n h hi, nN_n hi]
  by_cases c : i + 1 < S.1.length
  · rw [if_pos (decide_eq_true c), if_pos c]
  · rw [if_neg (fun z => c (of_decide_eq_true z)), if_neg c]
theorem stB_n {S : tS} (h : okS S) {i : Nat} (hi : i < 2 ^ 31) : stB S (nI i) = decide (i < S.1.length) := by
  have := h.1
  unfold stB
  rw [j_ge (a := i) (b := 0) hi (by omega), decide_eq_true (Nat.zero_le i), Bool.true_and, j_lt hi (by omega)]
theorem prI_n {q : Nat} (h : isPr q) (h9 : q ≤ 9999) : prI (nI q) = true := by
  unfold prI prB
  rw [nN_n (by omega), j_ge (a := q) (b := 0) (by omega) (by omega), Bool.and_eq_true, decide_eq_true_eq, decide_eq_true_eq]
  exact ⟨Nat.zero_le q, h.1, h9, isPr_lp h⟩
theorem dStrike_n {S : tS} (h : okS S) {i q : Nat} (hi : i < 2 ^ 31) (hq : isPr q) (hq9 : q ≤ 9999) : dStrike S (nI i) (nI q) = if i < S.1.length then (if sN S i % q = 0 then (nI (sN S i / q), spl S i q) else (-2, S)) else (-1, S) := by
  unfold dStrike
  rw [stB_n h hi, prI_n hq hq9, nN_n hi, nN_n (by omega), Bool.and_true]
  by_cases c : i < S.1.length
  · rw [if_pos (decide_eq_true c), if_pos c]
  · rw [if_neg (fun z => c (of_decide_eq_true z)), if_neg c]
theorem dTake_n {S : tS} (h : okS S) {i : Nat} (hi : i < 2 ^ 31) : dTake S (nI i) = if i < S.1.length then (nI (sN S i), S.1.eraseIdx i, S.2) else (-1, S) := by
  unfold dTake
  rw [stB_n h hi, nN_n hi]
  by_cases c : i < S.1.length
  · rw [if_pos (decide_eq_true c), if_pos c]
  · rw [if_neg (fun z => c (of_decide_eq_true z)), if_neg c]
/-- is the step the highest one, or above -/
theorem i_top {S : tS} (h : okS S) {i : Nat} (hi : i < 2 ^ 31) : i_gt (nI i) (nI S.1.length - nI 2) = decide (¬ i + 1 < S.1.length) := by
  have e := e_s2 h (nI i)
  rw [j_ge (a := i) (b := 0) hi (by omega), decide_eq_true (Nat.zero_le i), Bool.true_and, s2B_n h hi] at e
  rw [ngt_le, e, ← decide_not]
section
variable {σ : sSt} {M : tM} {S : tS}
/-- two neighbours are written -/
theorem ln_set {i x : Nat} (h : LN S M) (hx : 1 ≤ x ∧ x ≤ 9999) (hi : i < S.1.length) : LN (S.1.set i x, S.2) (uN M 0 (upd (M 0) i (nI x))) := by
  refine ⟨h.1.set hx.1 hx.2, ?_, h.2.2.1, h.2.2.2.1, h.2.2.2.2.1, fun k y hy => ?_⟩
  · show M 1 0 = nI (S.1.set i x).length
    rw [List.length_set]; exact h.2.1
  · show (if k = i then nI x else M 0 k) = nI y
    rcases getD_set hy with ⟨e1, e2⟩ | ⟨e1, e2⟩
    · rw [if_pos e1, e2]
    · rw [if_neg e1]
      exact h.2.2.2.2.2 k y e2
theorem l_share (hσ : 65 ≤ σ.1.length) (h : LN S M) {i : Nat} (hi : i < 1000) : ∃ M', M_L_share [.ref 60, .ref 61, .int (nI i)] (mp σ M) = some (some (.int (dShare S (nI i)).1), mp σ M') ∧ LN (dShare S (nI i)).2 M' ∧ ∀ k, 1 ≤ k → M' k = M k := by
  have hl := h.1.1
  have ht := i_top h.1 (i := i) (by omega)
  rw [dShare_n h.1 (by omega)]
  by_cases c : i + 1 < S.1.length
  · have b1 := sN_ok h.1 i
    have b2 := sN_ok h.1 (i + 1)
    have hg := gcd_pos (b := sN S (i + 1)) b1.1
    have hg2 := gcd_le (b := sN S (i + 1)) b1.1
    have hc := fun σ => l_common (σ := σ) b1.1 b2.1 b1.2 b2.2
    have e1 := h.nu (i := i) (by omega)
    have e2 := h.nu c
    have em : sN S i / Nat.gcd (sN S i) (sN S (i + 1)) * sN S (i + 1) = lcm2 (sN S i) (sN S (i + 1)) := rfl
    have hlm : lcm2 (sN S i) (sN S (i + 1)) ≤ 9999 * 9999 := Nat.mul_le_mul (Nat.le_trans (Nat.div_le_self _ _) b1.2) b2.2
    have lp := lcm2_pos b1.1 b2.1
    rw [if_pos c]
    by_cases q : 9999 < lcm2 (sN S i) (sN S (i + 1))
    · rw [if_pos q]
      refine ⟨M, m_eq rfl rfl ?_, h, fun k _ => rfl⟩
      unfold B_L_share
      simp (disch := omega) only [x_and, x_or, x_shl, x_shr, x_k, x_i, x_r, x_nil, x_add, x_sub, x_mul, x_div, x_rem, x_get, x_getR, x_ald, x_aldR, x_len, x_lenR, x_if, xa_nil, xa_ci, xa_cr, x_callI, x_callR, x_new, x_newa, x_newq, x_max, x_min, xc_cmp, xc_cmp0, xc_null, xc_nn, xc_not, xc_and, xc_or, xc_if, xs_skip, xs_seq, xs_decI, xs_decR, xs_setI, xs_inc, xs_if, xs_blk, xs_retI, xs_retB, xs_retR, xs_retD, xs_ret0, xs_putI, xs_putZ, xs_putR, xs_putop, xs_ast, xs_astop, xs_astR, xs_callV, xs_callP, xs_super, xs_sw, s_go_inl, s_go_inr, s_cut_inl, s_cut_inr, o_void_n, v_i_int, v_i_none, v_r_ref, v_r_null, v_r_rf, h_set_some, o_some_s, zB_ne0, zB_ite, zB_ite2, g_Vn, g_Pi, nI_add, Option.bind_some, Option.map_some, Option.bind_none, Option.map_none, List.getElem?_cons_zero, List.getElem?_cons_succ, List.set_cons_zero, List.set_cons_succ, List.cons_append, List.nil_append, List.take_succ_cons, List.take_zero, List.length_cons, List.length_nil, Nat.zero_add, Nat.reduceAdd, Nat.reduceLT, if_true, if_false, Bool.false_eq_true, Bool.true_eq_false, decide_eq_true_eq, decide_true, decide_false, Bool.not_true, Bool.not_false, Option.isNone_none, Option.isNone_some, Option.isSome_none, Option.isSome_some, ite_true, ite_false, reduceIte, reduceCtorEq, and_true, true_and, eq_self, Option.some.injEq, Sum.inr.injEq, Sum.inl.injEq, Prod.mk.injEq, not_true_eq_false, not_false_eq_true, Bool.decide_eq_true, n0_ne, n1_ne, xz_ret, zb_if, n1_if, n0_if, v_rf, h_ix_nI, nI_clamp, zB_t, zB_f, uN_uN, uN_ap, Nat.reduceEqDiff, Nat.reduceMul, Nat.reduceSub, mp_a0 hσ, mp_a1 hσ, mp_a2 hσ, mp_a3 hσ, mp_a4 hσ, mp_s0 hσ, mp_s1 hσ, mp_s2 hσ, mp_s3 hσ, mp_s4 hσ, h.z, ht, c, e1, e2, hc, j_div, pk_mul, em, j_gt, q]
    · rw [if_neg q]
      have h1 := ln_set h (i := i) (x := Nat.gcd (sN S i) (sN S (i + 1))) ⟨hg, by omega⟩ (by omega)
      have h2 := ln_set h1 (i := i + 1) (x := lcm2 (sN S i) (sN S (i + 1))) ⟨lp, by omega⟩ (by show i + 1 < (S.1.set _ _).length; rw [List.length_set]; exact c)
      refine ⟨_, m_eq rfl rfl ?_, h2, fun k hk => ?_⟩
      · unfold B_L_share
        simp (disch := omega) only [x_and, x_or, x_shl, x_shr, x_k, x_i, x_r, x_nil, x_add, x_sub, x_mul, x_div, x_rem, x_get, x_getR, x_ald, x_aldR, x_len, x_lenR, x_if, xa_nil, xa_ci, xa_cr, x_callI, x_callR, x_new, x_newa, x_newq, x_max, x_min, xc_cmp, xc_cmp0, xc_null, xc_nn, xc_not, xc_and, xc_or, xc_if, xs_skip, xs_seq, xs_decI, xs_decR, xs_setI, xs_inc, xs_if, xs_blk, xs_retI, xs_retB, xs_retR, xs_retD, xs_ret0, xs_putI, xs_putZ, xs_putR, xs_putop, xs_ast, xs_astop, xs_astR, xs_callV, xs_callP, xs_super, xs_sw, s_go_inl, s_go_inr, s_cut_inl, s_cut_inr, o_void_n, v_i_int, v_i_none, v_r_ref, v_r_null, v_r_rf, h_set_some, o_some_s, zB_ne0, zB_ite, zB_ite2, g_Vn, g_Pi, nI_add, Option.bind_some, Option.map_some, Option.bind_none, Option.map_none, List.getElem?_cons_zero, List.getElem?_cons_succ, List.set_cons_zero, List.set_cons_succ, List.cons_append, List.nil_append, List.take_succ_cons, List.take_zero, List.length_cons, List.length_nil, Nat.zero_add, Nat.reduceAdd, Nat.reduceLT, if_true, if_false, Bool.false_eq_true, Bool.true_eq_false, decide_eq_true_eq, decide_true, decide_false, Bool.not_true, Bool.not_false, Option.isNone_none, Option.isNone_some, Option.isSome_none, Option.isSome_some, ite_true, ite_false, reduceIte, reduceCtorEq, and_true, true_and, eq_self, Option.some.injEq, Sum.inr.injEq, Sum.inl.injEq, Prod.mk.injEq, not_true_eq_false, not_false_eq_true, Bool.decide_eq_true, n0_ne, n1_ne, xz_ret, zb_if, n1_if, n0_if, v_rf, h_ix_nI, nI_clamp, zB_t, zB_f, uN_uN, uN_ap, Nat.reduceEqDiff, Nat.reduceMul, Nat.reduceSub, mp_a0 hσ, mp_a1 hσ, mp_a2 hσ, mp_a3 hσ, mp_a4 hσ, mp_s0 hσ, mp_s1 hσ, mp_s2 hσ, mp_s3 hσ, mp_s4 hσ, h.z, ht, c, e1, e2, hc, j_div, pk_mul, em, j_gt, q]
      · show (if k = 0 then _ else if k = 0 then _ else M k) = M k
        rw [if_neg (by omega), if_neg (by omega)]
  · rw [if_neg c]
    refine ⟨M, m_eq rfl rfl ?_, h, fun k _ => rfl⟩
    unfold B_L_share
    simp (disch := omega) only [x_and, x_or, x_shl, x_shr, x_k, x_i, x_r, x_nil, x_add, x_sub, x_mul, x_div, x_rem, x_get, x_getR, x_ald, x_aldR, x_len, x_lenR, x_if, xa_nil, xa_ci, xa_cr, x_callI, x_callR, x_new, x_newa, x_newq, x_max, x_min, xc_cmp, xc_cmp0, xc_null, xc_nn, xc_not, xc_and, xc_or, xc_if, xs_skip, xs_seq, xs_decI, xs_decR, xs_setI, xs_inc, xs_if, xs_blk, xs_retI, xs_retB, xs_retR, xs_retD, xs_ret0, xs_putI, xs_putZ, xs_putR, xs_putop, xs_ast, xs_astop, xs_astR, xs_callV, xs_callP, xs_super, xs_sw, s_go_inl, s_go_inr, s_cut_inl, s_cut_inr, o_void_n, v_i_int, v_i_none, v_r_ref, v_r_null, v_r_rf, h_set_some, o_some_s, zB_ne0, zB_ite, zB_ite2, g_Vn, g_Pi, nI_add, Option.bind_some, Option.map_some, Option.bind_none, Option.map_none, List.getElem?_cons_zero, List.getElem?_cons_succ, List.set_cons_zero, List.set_cons_succ, List.cons_append, List.nil_append, List.take_succ_cons, List.take_zero, List.length_cons, List.length_nil, Nat.zero_add, Nat.reduceAdd, Nat.reduceLT, if_true, if_false, Bool.false_eq_true, Bool.true_eq_false, decide_eq_true_eq, decide_true, decide_false, Bool.not_true, Bool.not_false, Option.isNone_none, Option.isNone_some, Option.isSome_none, Option.isSome_some, ite_true, ite_false, reduceIte, reduceCtorEq, and_true, true_and, eq_self, Option.some.injEq, Sum.inr.injEq, Sum.inl.injEq, Prod.mk.injEq, not_true_eq_false, not_false_eq_true, Bool.decide_eq_true, n0_ne, n1_ne, xz_ret, zb_if, n1_if, n0_if, v_rf, h_ix_nI, nI_clamp, zB_t, zB_f, uN_uN, uN_ap, Nat.reduceEqDiff, Nat.reduceMul, Nat.reduceSub, mp_a0 hσ, mp_a1 hσ, mp_a2 hσ, mp_a3 hσ, mp_a4 hσ, mp_s0 hσ, mp_s1 hσ, mp_s2 hσ, mp_s3 hσ, mp_s4 hσ, h.z, ht, c]
/-- broken, or not: the picture behind a step is split -/
theorem ln_spl {i d : Nat} (h : LN S M) (hi : i < S.1.length) {M' : tM} (e : LN (if sN (S.1.set i (sN S i / d), S.2) i = 1 then ((S.1.set i (sN S i / d)).eraseIdx i, S.2.1, S.2.2.1, S.2.2.2.1 + nI 1, S.2.2.2.2) else (S.1.set i (sN S i / d), S.2)) M') : LN (spl S i d) M' := by
  have es : sN (S.1.set i (sN S i / d), S.2) i = sN S i / d := by
    unfold sN
    show (S.1.set i _).getD i 1 = _
    rw [List.getD_eq_getElem?_getD, List.getElem?_set_self hi]
    rfl
  rw [es, erase_set] at e
  unfold spl
  by_cases c : sN S i / d = 1
  · rw [if_pos c] at e ⊢
    exact e
  · rw [if_neg c] at e ⊢
    exact e
theorem l_divide (hσ : 65 ≤ σ.1.length) (h : LN S M) (hr : ∀ j, j < 25 → M 4 j = nI (p25 j)) (hc : ∀ j, j < 25 → M 2 j = sCh S (p25 j)) {i : Nat} (hi : i < 1000) : ∃ M', M_L_divide [.ref 60, .ref 61, .ref 62, .ref 64, .int (nI i)] (mp σ M) = some (some (.int (dDivide S (nI i)).1), mp σ M') ∧ LN (dDivide S (nI i)).2 M' ∧ (∀ j, j < 25 → M' 2 j = sCh (dDivide S (nI i)).2 (p25 j)) ∧ ∀ k, 3 ≤ k → M' k = M k := by
  have hl := h.1.1
  have ht := i_top h.1 (i := i) (by omega)
  rw [dDivide_n h.1 (by omega)]
  by_cases c : i + 1 < S.1.length
  · have b1 := sN_ok h.1 i
    have b2 := sN_ok h.1 (i + 1)
    have e1 := h.nu (i := i) (by omega)
    have e2 := h.nu c
    have m1 := Nat.mod_lt (sN S (i + 1)) (show 0 < sN S i by omega)
    rw [if_pos c]
    by_cases q : sN S (i + 1) % sN S i = 0
    · rw [if_pos q]
      have q1 := dvd_pos b2.1 q
      have q2 := Nat.div_le_self (sN S (i + 1)) (sN S i)
      obtain ⟨f, ra, hf⟩ := l_account (M := M) hσ hr (k := 2) (Or.inl rfl) b1.1 b1.2 (nI 1)
      have ra : M_L_account [.ref 62, .ref 64, .int (nI (sN S i)), .int (nI 1)] (mp σ M) = _ := ra
      have h1 : LN S (uN M 2 f) := h
      have h2 := ln_set h1 (i := i + 1) (x := sN S (i + 1) / sN S i) ⟨q1, by omega⟩ c
      obtain ⟨M3, rb, h3, o3⟩ := l_broke (M := uN (uN M 2 f) 0 (upd (uN M 2 f 0) (i + 1) (nI (sN S (i + 1) / sN S i)))) hσ h2 (i := i + 1) (by show i + 1 < (S.1.set _ _).length; rw [List.length_set]; exact c)
      have rb : M_L_broke [.ref 60, .ref 61, .int (nI (i + 1))] (mp σ (uN (uN M 2 f) 0 (upd (M 0) (i + 1) (nI (sN S (i + 1) / sN S i))))) = _ := rb
      refine ⟨M3, m_eq rfl rfl ?_, ln_spl h c h3, fun j hj => ?_, fun k hk => ?_⟩
      · unfold B_L_divide
        simp (disch := omega) only [x_and, x_or, x_shl, x_shr, x_k, x_i, x_r, x_nil, x_add, x_sub, x_mul, x_div, x_rem, x_get, x_getR, x_ald, x_aldR, x_len, x_lenR, x_if, xa_nil, xa_ci, xa_cr, x_callI, x_callR, x_new, x_newa, x_newq, x_max, x_min, xc_cmp, xc_cmp0, xc_null, xc_nn, xc_not, xc_and, xc_or, xc_if, xs_skip, xs_seq, xs_decI, xs_decR, xs_setI, xs_inc, xs_if, xs_blk, xs_retI, xs_retB, xs_retR, xs_retD, xs_ret0, xs_putI, xs_putZ, xs_putR, xs_putop, xs_ast, xs_astop, xs_astR, xs_callV, xs_callP, xs_super, xs_sw, s_go_inl, s_go_inr, s_cut_inl, s_cut_inr, o_void_n, v_i_int, v_i_none, v_r_ref, v_r_null, v_r_rf, h_set_some, o_some_s, zB_ne0, zB_ite, zB_ite2, g_Vn, g_Pi, nI_add, Option.bind_some, Option.map_some, Option.bind_none, Option.map_none, List.getElem?_cons_zero, List.getElem?_cons_succ, List.set_cons_zero, List.set_cons_succ, List.cons_append, List.nil_append, List.take_succ_cons, List.take_zero, List.length_cons, List.length_nil, Nat.zero_add, Nat.reduceAdd, Nat.reduceLT, if_true, if_false, Bool.false_eq_true, Bool.true_eq_false, decide_eq_true_eq, decide_true, decide_false, Bool.not_true, Bool.not_false, Option.isNone_none, Option.isNone_some, Option.isSome_none, Option.isSome_some, ite_true, ite_false, reduceIte, reduceCtorEq, and_true, true_and, eq_self, Option.some.injEq, Sum.inr.injEq, Sum.inl.injEq, Prod.mk.injEq, not_true_eq_false, not_false_eq_true, Bool.decide_eq_true, n0_ne, n1_ne, xz_ret, zb_if, n1_if, n0_if, v_rf, h_ix_nI, nI_clamp, zB_t, zB_f, uN_uN, uN_ap, Nat.reduceEqDiff, Nat.reduceMul, Nat.reduceSub, mp_a0 hσ, mp_a1 hσ, mp_a2 hσ, mp_a3 hσ, mp_a4 hσ, mp_s0 hσ, mp_s1 hσ, mp_s2 hσ, mp_s3 hσ, mp_s4 hσ, h.z, ht, c, e1, e2, j_rem, j_gt0, q, Nat.lt_irrefl, j_div, ra, rb]
      · have es : sCh (spl S (i + 1) (sN S i)) (p25 j) = sCh S (p25 j) + nI (ex (p25 j) (sN S i)) := by
          unfold spl
          split <;> rfl
        rw [es, o3 2 (by omega)]
        show f j = _
        rw [hf j hj, hc j hj]
        congr 1
        rw [← j_one, Int32.one_mul]
      · rw [o3 k (by omega)]
        show (if k = 0 then _ else if k = 2 then _ else M k) = M k
        rw [if_neg (by omega), if_neg (by omega)]
    · rw [if_neg q]
      refine ⟨M, m_eq rfl rfl ?_, h, hc, fun k _ => rfl⟩
      unfold B_L_divide
      simp (disch := omega) only [x_and, x_or, x_shl, x_shr, x_k, x_i, x_r, x_nil, x_add, x_sub, x_mul, x_div, x_rem, x_get, x_getR, x_ald, x_aldR, x_len, x_lenR, x_if, xa_nil, xa_ci, xa_cr, x_callI, x_callR, x_new, x_newa, x_newq, x_max, x_min, xc_cmp, xc_cmp0, xc_null, xc_nn, xc_not, xc_and, xc_or, xc_if, xs_skip, xs_seq, xs_decI, xs_decR, xs_setI, xs_inc, xs_if, xs_blk, xs_retI, xs_retB, xs_retR, xs_retD, xs_ret0, xs_putI, xs_putZ, xs_putR, xs_putop, xs_ast, xs_astop, xs_astR, xs_callV, xs_callP, xs_super, xs_sw, s_go_inl, s_go_inr, s_cut_inl, s_cut_inr, o_void_n, v_i_int, v_i_none, v_r_ref, v_r_null, v_r_rf, h_set_some, o_some_s, zB_ne0, zB_ite, zB_ite2, g_Vn, g_Pi, nI_add, Option.bind_some, Option.map_some, Option.bind_none, Option.map_none, List.getElem?_cons_zero, List.getElem?_cons_succ, List.set_cons_zero, List.set_cons_succ, List.cons_append, List.nil_append, List.take_succ_cons, List.take_zero, List.length_cons, List.length_nil, Nat.zero_add, Nat.reduceAdd, Nat.reduceLT, if_true, if_false, Bool.false_eq_true, Bool.true_eq_false, decide_eq_true_eq, decide_true, decide_false, Bool.not_true, Bool.not_false, Option.isNone_none, Option.isNone_some, Option.isSome_none, Option.isSome_some, ite_true, ite_false, reduceIte, reduceCtorEq, and_true, true_and, eq_self, Option.some.injEq, Sum.inr.injEq, Sum.inl.injEq, Prod.mk.injEq, not_true_eq_false, not_false_eq_true, Bool.decide_eq_true, n0_ne, n1_ne, xz_ret, zb_if, n1_if, n0_if, v_rf, h_ix_nI, nI_clamp, zB_t, zB_f, uN_uN, uN_ap, Nat.reduceEqDiff, Nat.reduceMul, Nat.reduceSub, mp_a0 hσ, mp_a1 hσ, mp_a2 hσ, mp_a3 hσ, mp_a4 hσ, mp_s0 hσ, mp_s1 hσ, mp_s2 hσ, mp_s3 hσ, mp_s4 hσ, h.z, ht, c, e1, e2, j_rem, j_gt0, show 0 < sN S (i + 1) % sN S i by omega]
  · rw [if_neg c]
    refine ⟨M, m_eq rfl rfl ?_, h, hc, fun k _ => rfl⟩
    unfold B_L_divide
    simp (disch := omega) only [x_and, x_or, x_shl, x_shr, x_k, x_i, x_r, x_nil, x_add, x_sub, x_mul, x_div, x_rem, x_get, x_getR, x_ald, x_aldR, x_len, x_lenR, x_if, xa_nil, xa_ci, xa_cr, x_callI, x_callR, x_new, x_newa, x_newq, x_max, x_min, xc_cmp, xc_cmp0, xc_null, xc_nn, xc_not, xc_and, xc_or, xc_if, xs_skip, xs_seq, xs_decI, xs_decR, xs_setI, xs_inc, xs_if, xs_blk, xs_retI, xs_retB, xs_retR, xs_retD, xs_ret0, xs_putI, xs_putZ, xs_putR, xs_putop, xs_ast, xs_astop, xs_astR, xs_callV, xs_callP, xs_super, xs_sw, s_go_inl, s_go_inr, s_cut_inl, s_cut_inr, o_void_n, v_i_int, v_i_none, v_r_ref, v_r_null, v_r_rf, h_set_some, o_some_s, zB_ne0, zB_ite, zB_ite2, g_Vn, g_Pi, nI_add, Option.bind_some, Option.map_some, Option.bind_none, Option.map_none, List.getElem?_cons_zero, List.getElem?_cons_succ, List.set_cons_zero, List.set_cons_succ, List.cons_append, List.nil_append, List.take_succ_cons, List.take_zero, List.length_cons, List.length_nil, Nat.zero_add, Nat.reduceAdd, Nat.reduceLT, if_true, if_false, Bool.false_eq_true, Bool.true_eq_false, decide_eq_true_eq, decide_true, decide_false, Bool.not_true, Bool.not_false, Option.isNone_none, Option.isNone_some, Option.isSome_none, Option.isSome_some, ite_true, ite_false, reduceIte, reduceCtorEq, and_true, true_and, eq_self, Option.some.injEq, Sum.inr.injEq, Sum.inl.injEq, Prod.mk.injEq, not_true_eq_false, not_false_eq_true, Bool.decide_eq_true, n0_ne, n1_ne, xz_ret, zb_if, n1_if, n0_if, v_rf, h_ix_nI, nI_clamp, zB_t, zB_f, uN_uN, uN_ap, Nat.reduceEqDiff, Nat.reduceMul, Nat.reduceSub, mp_a0 hσ, mp_a1 hσ, mp_a2 hσ, mp_a3 hσ, mp_a4 hσ, mp_s0 hσ, mp_s1 hσ, mp_s2 hσ, mp_s3 hσ, mp_s4 hσ, h.z, ht, c]
theorem l_strike (hσ : 65 ≤ σ.1.length) (h : LN S M) (hr : ∀ j, j < 25 → M 4 j = nI (p25 j)) (hc : ∀ j, j < 25 → M 2 j = sCh S (p25 j)) {i k : Nat} (hi : i < 1000) (hk : k < 25) : ∃ M', M_L_strike [.ref 60, .ref 61, .ref 62, .ref 64, .int (nI i), .int (nI k)] (mp σ M) = some (some (.int (dStrike S (nI i) (nI (p25 k))).1), mp σ M') ∧ LN (dStrike S (nI i) (nI (p25 k))).2 M' ∧ (∀ j, j < 25 → M' 2 j = sCh (dStrike S (nI i) (nI (p25 k))).2 (p25 j)) ∧ ∀ j, 3 ≤ j → M' j = M j := by
  have hl := h.1.1
  have hp := p25_ok k hk
  have pp := p25_pr hk
  have rk := hr k hk
  rw [dStrike_n h.1 (by omega) pp (by omega)]
  by_cases c : i < S.1.length
  · have b1 := sN_ok h.1 i
    have e1 := h.nu c
    have m1 := Nat.mod_lt (sN S i) (show 0 < p25 k by omega)
    rw [if_pos c]
    by_cases q : sN S i % p25 k = 0
    · rw [if_pos q]
      have q1 := dvd_pos b1.1 q
      have q2 := Nat.div_le_self (sN S i) (p25 k)
      obtain ⟨f, hf⟩ : ∃ f, f = upd (M 2) k (M 2 k + nI 1) := ⟨_, rfl⟩
      have h2 := ln_set h (i := i) (x := sN S i / p25 k) ⟨q1, by omega⟩ c
      have h3 : LN (S.1.set i (sN S i / p25 k), S.2) (uN (uN M 0 (upd (M 0) i (nI (sN S i / p25 k)))) 2 f) := h2
      obtain ⟨M3, rb, h4, o3⟩ := l_broke hσ h3 (i := i) (by show i < (S.1.set _ _).length; rw [List.length_set]; exact c)
      refine ⟨M3, m_eq rfl rfl ?_, ln_spl h c h4, fun j hj => ?_, fun j hj => ?_⟩
      · unfold B_L_strike
        simp (disch := omega) only [x_and, x_or, x_shl, x_shr, x_k, x_i, x_r, x_nil, x_add, x_sub, x_mul, x_div, x_rem, x_get, x_getR, x_ald, x_aldR, x_len, x_lenR, x_if, xa_nil, xa_ci, xa_cr, x_callI, x_callR, x_new, x_newa, x_newq, x_max, x_min, xc_cmp, xc_cmp0, xc_null, xc_nn, xc_not, xc_and, xc_or, xc_if, xs_skip, xs_seq, xs_decI, xs_decR, xs_setI, xs_inc, xs_if, xs_blk, xs_retI, xs_retB, xs_retR, xs_retD, xs_ret0, xs_putI, xs_putZ, xs_putR, xs_putop, xs_ast, xs_astop, xs_astR, xs_callV, xs_callP, xs_super, xs_sw, s_go_inl, s_go_inr, s_cut_inl, s_cut_inr, o_void_n, v_i_int, v_i_none, v_r_ref, v_r_null, v_r_rf, h_set_some, o_some_s, zB_ne0, zB_ite, zB_ite2, g_Vn, g_Pi, nI_add, Option.bind_some, Option.map_some, Option.bind_none, Option.map_none, List.getElem?_cons_zero, List.getElem?_cons_succ, List.set_cons_zero, List.set_cons_succ, List.cons_append, List.nil_append, List.take_succ_cons, List.take_zero, List.length_cons, List.length_nil, Nat.zero_add, Nat.reduceAdd, Nat.reduceLT, if_true, if_false, Bool.false_eq_true, Bool.true_eq_false, decide_eq_true_eq, decide_true, decide_false, Bool.not_true, Bool.not_false, Option.isNone_none, Option.isNone_some, Option.isSome_none, Option.isSome_some, ite_true, ite_false, reduceIte, reduceCtorEq, and_true, true_and, eq_self, Option.some.injEq, Sum.inr.injEq, Sum.inl.injEq, Prod.mk.injEq, not_true_eq_false, not_false_eq_true, Bool.decide_eq_true, n0_ne, n1_ne, xz_ret, zb_if, n1_if, n0_if, v_rf, h_ix_nI, nI_clamp, zB_t, zB_f, uN_uN, uN_ap, Nat.reduceEqDiff, Nat.reduceMul, Nat.reduceSub, mp_a0 hσ, mp_a1 hσ, mp_a2 hσ, mp_a3 hσ, mp_a4 hσ, mp_s0 hσ, mp_s1 hσ, mp_s2 hσ, mp_s3 hσ, mp_s4 hσ, h.z, j_ge, show ¬ S.1.length ≤ i by omega, e1, rk, j_rem, j_gt0, q, Nat.lt_irrefl, j_div, ← hf, rb]
      · have es : sCh (spl S i (p25 k)) (p25 j) = sCh S (p25 j) + nI (ex (p25 j) (p25 k)) := by
          unfold spl
          split <;> rfl
        rw [es, o3 2 (by omega), ex_pr (p25_pr hj) pp]
        show f j = _
        rw [hf]
        show (if j = k then M 2 k + nI 1 else M 2 j) = _
        by_cases e : j = k
        · subst e
          rw [if_pos rfl, if_pos rfl, hc j hj]
        · rw [if_neg e, if_neg (fun z => e (p25_inj j hj k hk z)), nI_z, hc j hj]
      · rw [o3 j (by omega)]
        show (if j = 2 then _ else if j = 0 then _ else M j) = M j
        rw [if_neg (by omega), if_neg (by omega)]
    · rw [if_neg q]
      refine ⟨M, m_eq rfl rfl ?_, h, hc, fun k _ => rfl⟩
      unfold B_L_strike
      simp (disch := omega) only [x_and, x_or, x_shl, x_shr, x_k, x_i, x_r, x_nil, x_add, x_sub, x_mul, x_div, x_rem, x_get, x_getR, x_ald, x_aldR, x_len, x_lenR, x_if, xa_nil, xa_ci, xa_cr, x_callI, x_callR, x_new, x_newa, x_newq, x_max, x_min, xc_cmp, xc_cmp0, xc_null, xc_nn, xc_not, xc_and, xc_or, xc_if, xs_skip, xs_seq, xs_decI, xs_decR, xs_setI, xs_inc, xs_if, xs_blk, xs_retI, xs_retB, xs_retR, xs_retD, xs_ret0, xs_putI, xs_putZ, xs_putR, xs_putop, xs_ast, xs_astop, xs_astR, xs_callV, xs_callP, xs_super, xs_sw, s_go_inl, s_go_inr, s_cut_inl, s_cut_inr, o_void_n, v_i_int, v_i_none, v_r_ref, v_r_null, v_r_rf, h_set_some, o_some_s, zB_ne0, zB_ite, zB_ite2, g_Vn, g_Pi, nI_add, Option.bind_some, Option.map_some, Option.bind_none, Option.map_none, List.getElem?_cons_zero, List.getElem?_cons_succ, List.set_cons_zero, List.set_cons_succ, List.cons_append, List.nil_append, List.take_succ_cons, List.take_zero, List.length_cons, List.length_nil, Nat.zero_add, Nat.reduceAdd, Nat.reduceLT, if_true, if_false, Bool.false_eq_true, Bool.true_eq_false, decide_eq_true_eq, decide_true, decide_false, Bool.not_true, Bool.not_false, Option.isNone_none, Option.isNone_some, Option.isSome_none, Option.isSome_some, ite_true, ite_false, reduceIte, reduceCtorEq, and_true, true_and, eq_self, Option.some.injEq, Sum.inr.injEq, Sum.inl.injEq, Prod.mk.injEq, not_true_eq_false, not_false_eq_true, Bool.decide_eq_true, n0_ne, n1_ne, xz_ret, zb_if, n1_if, n0_if, v_rf, h_ix_nI, nI_clamp, zB_t, zB_f, uN_uN, uN_ap, Nat.reduceEqDiff, Nat.reduceMul, Nat.reduceSub, mp_a0 hσ, mp_a1 hσ, mp_a2 hσ, mp_a3 hσ, mp_a4 hσ, mp_s0 hσ, mp_s1 hσ, mp_s2 hσ, mp_s3 hσ, mp_s4 hσ, h.z, j_ge, show ¬ S.1.length ≤ i by omega, e1, rk, j_rem, j_gt0, show 0 < sN S i % p25 k by omega]
  · rw [if_neg c]
    refine ⟨M, m_eq rfl rfl ?_, h, hc, fun k _ => rfl⟩
    unfold B_L_strike
    simp (disch := omega) only [x_and, x_or, x_shl, x_shr, x_k, x_i, x_r, x_nil, x_add, x_sub, x_mul, x_div, x_rem, x_get, x_getR, x_ald, x_aldR, x_len, x_lenR, x_if, xa_nil, xa_ci, xa_cr, x_callI, x_callR, x_new, x_newa, x_newq, x_max, x_min, xc_cmp, xc_cmp0, xc_null, xc_nn, xc_not, xc_and, xc_or, xc_if, xs_skip, xs_seq, xs_decI, xs_decR, xs_setI, xs_inc, xs_if, xs_blk, xs_retI, xs_retB, xs_retR, xs_retD, xs_ret0, xs_putI, xs_putZ, xs_putR, xs_putop, xs_ast, xs_astop, xs_astR, xs_callV, xs_callP, xs_super, xs_sw, s_go_inl, s_go_inr, s_cut_inl, s_cut_inr, o_void_n, v_i_int, v_i_none, v_r_ref, v_r_null, v_r_rf, h_set_some, o_some_s, zB_ne0, zB_ite, zB_ite2, g_Vn, g_Pi, nI_add, Option.bind_some, Option.map_some, Option.bind_none, Option.map_none, List.getElem?_cons_zero, List.getElem?_cons_succ, List.set_cons_zero, List.set_cons_succ, List.cons_append, List.nil_append, List.take_succ_cons, List.take_zero, List.length_cons, List.length_nil, Nat.zero_add, Nat.reduceAdd, Nat.reduceLT, if_true, if_false, Bool.false_eq_true, Bool.true_eq_false, decide_eq_true_eq, decide_true, decide_false, Bool.not_true, Bool.not_false, Option.isNone_none, Option.isNone_some, Option.isSome_none, Option.isSome_some, ite_true, ite_false, reduceIte, reduceCtorEq, and_true, true_and, eq_self, Option.some.injEq, Sum.inr.injEq, Sum.inl.injEq, Prod.mk.injEq, not_true_eq_false, not_false_eq_true, Bool.decide_eq_true, n0_ne, n1_ne, xz_ret, zb_if, n1_if, n0_if, v_rf, h_ix_nI, nI_clamp, zB_t, zB_f, uN_uN, uN_ap, Nat.reduceEqDiff, Nat.reduceMul, Nat.reduceSub, mp_a0 hσ, mp_a1 hσ, mp_a2 hσ, mp_a3 hσ, mp_a4 hσ, mp_s0 hσ, mp_s1 hσ, mp_s2 hσ, mp_s3 hσ, mp_s4 hσ, h.z, j_ge, show S.1.length ≤ i by omega]
end
