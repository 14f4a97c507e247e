/-! areFactors (own work) -/
theorem pr_cop {p y : Nat} (hp : isPr p) (h : ¬ p ∣ y) : Nat.Coprime p y := by
  have d1 := Nat.gcd_dvd_left p y
  have d2 := Nat.gcd_dvd_right p y
  have p2 := hp.1
  have le := Nat.le_of_dvd (by omega) d1
  have pos : 0 < Nat.gcd p y := Nat.gcd_pos_of_pos_left y (by omega)
  show Nat.gcd p y = 1
  rcases Nat.lt_or_ge (Nat.gcd p y) 2 with c | c
  · omega
  · rcases Nat.lt_or_ge (Nat.gcd p y) p with e | e
    · exact absurd d1 (hp.2 _ c e)
    · have : Nat.gcd p y = p := by omega
      rw [this] at d2
      exact absurd d2 h
theorem cfac_gcd : ∀ (k x y : Nat), x ≤ k → 1 ≤ x → 1 ≤ y → cfac x y = Nat.gcd x y := by
  intro k
  induction k with
  | zero => intro x y h h1; omega
  | succ k ih =>
    intro x y h h1 hy
    by_cases h2 : 2 ≤ x
    · have hd := lp_div_lt h2
      have q1 := lp_div_pos h2
      have hp := lp_pr h2
      have e := fac_mul h2
      rw [cfac_c h2]
      by_cases c : y % lp x = 0
      · have q2 := dvd_pos hy c
        rw [if_pos c, ih _ _ (by omega) q1 q2]
        have ey : lp x * (y / lp x) = y := Nat.mul_div_cancel' (Nat.dvd_of_mod_eq_zero c)
        have g := Nat.gcd_mul_left (lp x) (x / lp x) (y / lp x)
        rw [e, ey] at g
        rw [g, Nat.mul_comm]
      · rw [if_neg c, ih _ _ (by omega) q1 hy]
        have g := Nat.Coprime.gcd_mul_left_cancel (x / lp x) (pr_cop hp (fun z => c (Nat.mod_eq_zero_of_dvd z)))
        rw [e] at g
        exact g.symm
    · have : x = 1 := by omega
      subst this
      rw [cfac_s (by omega), Nat.gcd_one_left]
theorem rFactor_n {S : tS} (ok : okS S) {k x : Nat} (hk : k < S.1.length) (hx : x < 2 ^ 31) : rFactor S (nI k) (nI x) = facI (sN S k) x := by
  have := ok.1
  unfold rFactor
  rw [stB_n ok (by omega), decide_eq_true hk, j_ge0 hx, Bool.and_self, if_pos rfl, nN_n (by omega), nN_n hx]
theorem rFactor_m {S : tS} (x : Int32) : rFactor S x (-1) = -1 := by
  unfold rFactor
  rw [show i_ge (-1) 0 = false by decide, Bool.and_false, if_neg Bool.false_ne_true]
theorem rCommon_0 {S : tS} (ok : okS S) {k j : Nat} (hk : k < S.1.length) (hj : j < S.1.length) : rCommon S (nI k) (nI j) (nI 0) = nI (Nat.gcd (sN S k) (sN S j)) := by
  have := ok.1
  unfold rCommon
  rw [stB_n ok (by omega), decide_eq_true hk, stB_n ok (by omega), decide_eq_true hj, show inB (nI 0) (nI 0) (nI 1) = true by decide, Bool.and_self, Bool.and_self, if_pos rfl, if_pos rfl, nN_n (by omega), nN_n (by omega)]
theorem rCommon_1 {S : tS} (ok : okS S) {k j : Nat} (hk : k < S.1.length) (hj : j < S.1.length) : rCommon S (nI k) (nI j) (nI 1) = nI (Nat.gcd (sN S k) (sN S j)) := by
  have := ok.1
  unfold rCommon
  rw [stB_n ok (by omega), decide_eq_true hk, stB_n ok (by omega), decide_eq_true hj, show inB (nI 1) (nI 0) (nI 1) = true by decide, Bool.and_self, Bool.and_self, if_pos rfl, if_neg (by decide), nN_n (by omega), nN_n (by omega), cfac_gcd _ _ _ (Nat.le_refl _) (sN_ok ok k).1 (sN_ok ok j).1]
theorem exS_le {n : Nat} (hn : n ≤ 9999) : ∀ f, exS n f ≤ 13 * f
  | 0 => Nat.le_refl 0
  | f + 1 => by
    have := exS_le hn f
    have := ex_le13 (p := p25 f) hn
    show exS n f + ex (p25 f) n ≤ _
    omega
theorem exN_le (n : Nat) : ∀ f, exN n f ≤ f
  | 0 => Nat.le_refl 0
  | f + 1 => by
    have := exN_le n f
    show exN n f + (if _ then 1 else 0) ≤ f + 1
    split <;> omega
section
variable {σ : sSt} {M : tM} {V : tV}
theorem lf1 (hr : ∀ j, j < 25 → M 4 j = nI (p25 j)) (hn : LN V.1 M) (h25 : L25 V.1) {k f : Nat} (hk : k < V.1.1.length) (hf : f < 25) (u : Int32) : ∀ (d n : Nat) (σ : sSt), WV σ M V → n + d = ex (p25 f) (sN V.1 k) → ∀ F, d < F → ∃ σ', s_wh C_L_areFactors_1 W_L_areFactors_1 F [.ref 0, .ref 60, .ref 61, .ref 64, .int (nI 1), .int (nI k), .int (nI (exS (sN V.1 k) f + n)), .int u, .int (if 0 < n then nI (p25 f) else oN (exG (sN V.1 k) f)), .int (nI f), .int (nI (ex (p25 f) (sN V.1 k))), .int (nI n)] σ = some (.inr ([.ref 0, .ref 60, .ref 61, .ref 64, .int (nI 1), .int (nI k), .int (nI (exS (sN V.1 k) (f + 1))), .int u, .int (oN (exG (sN V.1 k) (f + 1))), .int (nI f), .int (nI (ex (p25 f) (sN V.1 k))), .int (nI (ex (p25 f) (sN V.1 k)))], σ')) ∧ WV σ' M V := by
  have ok := hn.1
  have b1 := sN_ok ok k
  have g := h25.nu k
  have x13 := ex_le13 (p := p25 f) b1.2
  have s13 := exS_le b1.2 f
  intro d
  induction d with
  | zero =>
    intro n σ hv hk' F hF
    obtain ⟨F, rfl⟩ : ∃ F', F = F' + 1 := ⟨F - 1, by omega⟩
    rw [Nat.add_zero] at hk'
    subst hk'
    have e : (if 0 < ex (p25 f) (sN V.1 k) then nI (p25 f) else oN (exG (sN V.1 k) f)) = oN (exG (sN V.1 k) (f + 1)) := by
      show _ = oN (if 0 < ex (p25 f) (sN V.1 k) then some (p25 f) else exG (sN V.1 k) f)
      by_cases c : 0 < ex (p25 f) (sN V.1 k)
      · rw [if_pos c, if_pos c]
        rfl
      · rw [if_neg c, if_neg c]
    rw [e]
    refine ⟨σ, wh_F ?_, hv⟩
    simp (disch := omega) only [x_and, x_or, x_shl, x_shr, x_k, x_i, x_r, x_nil, x_add, x_sub, x_mul, x_div, x_rem, x_get, x_getR, x_ald, x_aldR, x_len, x_lenR, x_if, xa_nil, xa_ci, xa_cr, x_callI, x_callR, x_new, x_newa, x_newq, x_max, x_min, xc_cmp, xc_cmp0, xc_null, xc_nn, xc_not, xc_and, xc_or, xc_if, xs_skip, xs_seq, xs_decI, xs_decR, xs_setI, xs_inc, xs_if, xs_blk, xs_retI, xs_retB, xs_retR, xs_retD, xs_ret0, xs_putI, xs_putZ, xs_putR, xs_putop, xs_ast, xs_astop, xs_astR, xs_callV, xs_callP, xs_super, xs_sw, s_go_inl, s_go_inr, s_cut_inl, s_cut_inr, o_void_n, v_i_int, v_i_none, v_r_ref, v_r_null, v_r_rf, h_set_some, o_some_s, zB_ne0, zB_ite, zB_ite2, g_Vn, g_Pi, nI_add, Option.bind_some, Option.map_some, Option.bind_none, Option.map_none, List.getElem?_cons_zero, List.getElem?_cons_succ, List.set_cons_zero, List.set_cons_succ, List.cons_append, List.nil_append, List.take_succ_cons, List.take_zero, List.length_cons, List.length_nil, Nat.zero_add, Nat.reduceAdd, Nat.reduceLT, if_true, if_false, Bool.false_eq_true, Bool.true_eq_false, decide_eq_true_eq, decide_true, decide_false, Bool.not_true, Bool.not_false, Option.isNone_none, Option.isNone_some, Option.isSome_none, Option.isSome_some, ite_true, ite_false, reduceIte, reduceCtorEq, and_true, true_and, eq_self, Option.some.injEq, Sum.inr.injEq, Sum.inl.injEq, Prod.mk.injEq, j_lt, Nat.lt_irrefl]
  | succ d ih =>
    intro n σ hv hk' F hF
    obtain ⟨F, rfl⟩ : ∃ F', F = F' + 1 := ⟨F - 1, by omega⟩
    obtain ⟨σ1, r1, v1⟩ := k_factor hv (nI k) (nI (exS (sN V.1 k) f + n))
    rw [rFactor_n ok hk (by omega)] at r1
    have fa : facI (sN V.1 k) (exS (sN V.1 k) f + n) = nI (p25 f) := by
      unfold facI
      rw [fac_at _ _ (Nat.le_refl _) b1.1 g f hf _ (by omega) (by omega)]
    rw [fa] at r1
    have w1 := v1.lw
    have rf := hr f hf
    obtain ⟨σ2, r2, v2⟩ := ih (n + 1) σ1 v1 (by omega) F (by omega)
    rw [if_pos (Nat.succ_pos n), ← Nat.add_assoc] at r2
    refine ⟨σ2, (wh_T (σ1 := σ) (L2 := [.ref 0, .ref 60, .ref 61, .ref 64, .int (nI 1), .int (nI k), .int (nI (exS (sN V.1 k) f + n + 1)), .int u, .int (nI (p25 f)), .int (nI f), .int (nI (ex (p25 f) (sN V.1 k))), .int (nI (n + 1))]) (σ2 := σ1) ?_ ?_).trans r2, v2⟩
    · simp (disch := omega) only [x_and, x_or, x_shl, x_shr, x_k, x_i, x_r, x_nil, x_add, x_sub, x_mul, x_div, x_rem, x_get, x_getR, x_ald, x_aldR, x_len, x_lenR, x_if, xa_nil, xa_ci, xa_cr, x_callI, x_callR, x_new, x_newa, x_newq, x_max, x_min, xc_cmp, xc_cmp0, xc_null, xc_nn, xc_not, xc_and, xc_or, xc_if, xs_skip, xs_seq, xs_decI, xs_decR, xs_setI, xs_inc, xs_if, xs_blk, xs_retI, xs_retB, xs_retR, xs_retD, xs_ret0, xs_putI, xs_putZ, xs_putR, xs_putop, xs_ast, xs_astop, xs_astR, xs_callV, xs_callP, xs_super, xs_sw, s_go_inl, s_go_inr, s_cut_inl, s_cut_inr, o_void_n, v_i_int, v_i_none, v_r_ref, v_r_null, v_r_rf, h_set_some, o_some_s, zB_ne0, zB_ite, zB_ite2, g_Vn, g_Pi, nI_add, Option.bind_some, Option.map_some, Option.bind_none, Option.map_none, List.getElem?_cons_zero, List.getElem?_cons_succ, List.set_cons_zero, List.set_cons_succ, List.cons_append, List.nil_append, List.take_succ_cons, List.take_zero, List.length_cons, List.length_nil, Nat.zero_add, Nat.reduceAdd, Nat.reduceLT, if_true, if_false, Bool.false_eq_true, Bool.true_eq_false, decide_eq_true_eq, decide_true, decide_false, Bool.not_true, Bool.not_false, Option.isNone_none, Option.isNone_some, Option.isSome_none, Option.isSome_some, ite_true, ite_false, reduceIte, reduceCtorEq, and_true, true_and, eq_self, Option.some.injEq, Sum.inr.injEq, Sum.inl.injEq, Prod.mk.injEq, j_lt, show n < ex (p25 f) (sN V.1 k) by omega]
    · simp (disch := omega) only [x_and, x_or, x_shl, x_shr, x_k, x_i, x_r, x_nil, x_add, x_sub, x_mul, x_div, x_rem, x_get, x_getR, x_ald, x_aldR, x_len, x_lenR, x_if, xa_nil, xa_ci, xa_cr, x_callI, x_callR, x_new, x_newa, x_newq, x_max, x_min, xc_cmp, xc_cmp0, xc_null, xc_nn, xc_not, xc_and, xc_or, xc_if, xs_skip, xs_seq, xs_decI, xs_decR, xs_setI, xs_inc, xs_if, xs_blk, xs_retI, xs_retB, xs_retR, xs_retD, xs_ret0, xs_putI, xs_putZ, xs_putR, xs_putop, xs_ast, xs_astop, xs_astR, xs_callV, xs_callP, xs_super, xs_sw, s_go_inl, s_go_inr, s_cut_inl, s_cut_inr, o_void_n, v_i_int, v_i_none, v_r_ref, v_r_null, v_r_rf, h_set_some, o_some_s, zB_ne0, zB_ite, zB_ite2, g_Vn, g_Pi, nI_add, Option.bind_some, Option.map_some, Option.bind_none, Option.map_none, List.getElem?_cons_zero, List.getElem?_cons_succ, List.set_cons_zero, List.set_cons_succ, List.cons_append, List.nil_append, List.take_succ_cons, List.take_zero, List.length_cons, List.length_nil, Nat.zero_add, Nat.reduceAdd, Nat.reduceLT, if_true, if_false, Bool.false_eq_true, Bool.true_eq_false, decide_eq_true_eq, decide_true, decide_false, Bool.not_true, Bool.not_false, Option.isNone_none, Option.isNone_some, Option.isSome_none, Option.isSome_some, ite_true, ite_false, reduceIte, reduceCtorEq, and_true, true_and, eq_self, Option.some.injEq, Sum.inr.injEq, Sum.inl.injEq, Prod.mk.injEq, not_true_eq_false, not_false_eq_true, Bool.decide_eq_true, n0_ne, n1_ne, xz_ret, zb_if, n1_if, n0_if, v_rf, h_ix_nI, nI_clamp, zB_t, zB_f, uN_uN, uN_ap, Nat.reduceEqDiff, Nat.reduceMul, Nat.reduceSub, r1, w1.2.2.2.2, rf, i_eqS]
theorem lf2 (hr : ∀ j, j < 25 → M 4 j = nI (p25 j)) (hn : LN V.1 M) (h25 : L25 V.1) {k : Nat} (hk : k < V.1.1.length) : ∀ (d f : Nat) (σ : sSt), WV σ M V → f + d = 25 → ∀ F, d < F → ∃ σ', s_wh C_L_areFactors_2 W_L_areFactors_2 F [.ref 0, .ref 60, .ref 61, .ref 64, .int (nI 1), .int (nI k), .int (nI (exS (sN V.1 k) f)), .int (nI (exN (sN V.1 k) f)), .int (oN (exG (sN V.1 k) f)), .int (nI f)] σ = some (.inr ([.ref 0, .ref 60, .ref 61, .ref 64, .int (nI 1), .int (nI k), .int (nI (exS (sN V.1 k) 25)), .int (nI (exN (sN V.1 k) 25)), .int (oN (exG (sN V.1 k) 25)), .int (nI 25)], σ')) ∧ WV σ' M V := by
  have ok := hn.1
  have hl := ok.1
  have b1 := sN_ok ok k
  intro d
  induction d with
  | zero =>
    intro f σ hv hk' F hF
    obtain ⟨F, rfl⟩ : ∃ F', F = F' + 1 := ⟨F - 1, by omega⟩
    rw [Nat.add_zero] at hk'
    subst hk'
    refine ⟨σ, wh_F ?_, hv⟩
    simp (disch := omega) only [x_and, x_or, x_shl, x_shr, x_k, x_i, x_r, x_nil, x_add, x_sub, x_mul, x_div, x_rem, x_get, x_getR, x_ald, x_aldR, x_len, x_lenR, x_if, xa_nil, xa_ci, xa_cr, x_callI, x_callR, x_new, x_newa, x_newq, x_max, x_min, xc_cmp, xc_cmp0, xc_null, xc_nn, xc_not, xc_and, xc_or, xc_if, xs_skip, xs_seq, xs_decI, xs_decR, xs_setI, xs_inc, xs_if, xs_blk, xs_retI, xs_retB, xs_retR, xs_retD, xs_ret0, xs_putI, xs_putZ, xs_putR, xs_putop, xs_ast, xs_astop, xs_astR, xs_callV, xs_callP, xs_super, xs_sw, s_go_inl, s_go_inr, s_cut_inl, s_cut_inr, o_void_n, v_i_int, v_i_none, v_r_ref, v_r_null, v_r_rf, h_set_some, o_some_s, zB_ne0, zB_ite, zB_ite2, g_Vn, g_Pi, nI_add, Option.bind_some, Option.map_some, Option.bind_none, Option.map_none, List.getElem?_cons_zero, List.getElem?_cons_succ, List.set_cons_zero, List.set_cons_succ, List.cons_append, List.nil_append, List.take_succ_cons, List.take_zero, List.length_cons, List.length_nil, Nat.zero_add, Nat.reduceAdd, Nat.reduceLT, if_true, if_false, Bool.false_eq_true, Bool.true_eq_false, decide_eq_true_eq, decide_true, decide_false, Bool.not_true, Bool.not_false, Option.isNone_none, Option.isNone_some, Option.isSome_none, Option.isSome_some, ite_true, ite_false, reduceIte, reduceCtorEq, and_true, true_and, eq_self, Option.some.injEq, Sum.inr.injEq, Sum.inl.injEq, Prod.mk.injEq, j_lt, Nat.lt_irrefl]
  | succ d ih =>
    intro f σ hv hk' F hF
    obtain ⟨F, rfl⟩ : ∃ F', F = F' + 1 := ⟨F - 1, by omega⟩
    have w := hv.lw
    have rf := hr f (by omega)
    have pf := p25_ok f (by omega)
    have x13 := ex_le13 (p := p25 f) b1.2
    have nk := hn.nu hk
    have le := l_exponent (σ := σ) b1.1 b1.2 pf.1 (show p25 f < 2 ^ 31 by omega)
    obtain ⟨σ1, r1, v1⟩ := lf1 hr hn h25 hk (show f < 25 by omega) (nI (exN (sN V.1 k) f + if 0 < ex (p25 f) (sN V.1 k) then 1 else 0)) _ 0 σ hv (Nat.zero_add _) s_FUEL (by unfold s_FUEL; omega)
    rw [Nat.add_zero, if_neg (Nat.lt_irrefl 0)] at r1
    have r1 : s_while C_L_areFactors_1 W_L_areFactors_1 [.ref 0, .ref 60, .ref 61, .ref 64, .int (nI 1), .int (nI k), .int (nI (exS (sN V.1 k) f)), .int (nI (exN (sN V.1 k) f + if 0 < ex (p25 f) (sN V.1 k) then 1 else 0)), .int (oN (exG (sN V.1 k) f)), .int (nI f), .int (nI (ex (p25 f) (sN V.1 k))), .int (nI 0)] σ = _ := r1
    obtain ⟨σ2, r2, v2⟩ := ih (f + 1) σ1 v1 (by omega) F (by omega)
    refine ⟨σ2, (wh_T (σ1 := σ) (L2 := [.ref 0, .ref 60, .ref 61, .ref 64, .int (nI 1), .int (nI k), .int (nI (exS (sN V.1 k) (f + 1))), .int (nI (exN (sN V.1 k) f + if 0 < ex (p25 f) (sN V.1 k) then 1 else 0)), .int (oN (exG (sN V.1 k) (f + 1))), .int (nI (f + 1))]) (σ2 := σ1) ?_ ?_).trans r2, v2⟩
    · simp (disch := omega) only [x_and, x_or, x_shl, x_shr, x_k, x_i, x_r, x_nil, x_add, x_sub, x_mul, x_div, x_rem, x_get, x_getR, x_ald, x_aldR, x_len, x_lenR, x_if, xa_nil, xa_ci, xa_cr, x_callI, x_callR, x_new, x_newa, x_newq, x_max, x_min, xc_cmp, xc_cmp0, xc_null, xc_nn, xc_not, xc_and, xc_or, xc_if, xs_skip, xs_seq, xs_decI, xs_decR, xs_setI, xs_inc, xs_if, xs_blk, xs_retI, xs_retB, xs_retR, xs_retD, xs_ret0, xs_putI, xs_putZ, xs_putR, xs_putop, xs_ast, xs_astop, xs_astR, xs_callV, xs_callP, xs_super, xs_sw, s_go_inl, s_go_inr, s_cut_inl, s_cut_inr, o_void_n, v_i_int, v_i_none, v_r_ref, v_r_null, v_r_rf, h_set_some, o_some_s, zB_ne0, zB_ite, zB_ite2, g_Vn, g_Pi, nI_add, Option.bind_some, Option.map_some, Option.bind_none, Option.map_none, List.getElem?_cons_zero, List.getElem?_cons_succ, List.set_cons_zero, List.set_cons_succ, List.cons_append, List.nil_append, List.take_succ_cons, List.take_zero, List.length_cons, List.length_nil, Nat.zero_add, Nat.reduceAdd, Nat.reduceLT, if_true, if_false, Bool.false_eq_true, Bool.true_eq_false, decide_eq_true_eq, decide_true, decide_false, Bool.not_true, Bool.not_false, Option.isNone_none, Option.isNone_some, Option.isSome_none, Option.isSome_some, ite_true, ite_false, reduceIte, reduceCtorEq, and_true, true_and, eq_self, Option.some.injEq, Sum.inr.injEq, Sum.inl.injEq, Prod.mk.injEq, j_lt, show f < 25 by omega]
    · simp (disch := omega) only [x_and, x_or, x_shl, x_shr, x_k, x_i, x_r, x_nil, x_add, x_sub, x_mul, x_div, x_rem, x_get, x_getR, x_ald, x_aldR, x_len, x_lenR, x_if, xa_nil, xa_ci, xa_cr, x_callI, x_callR, x_new, x_newa, x_newq, x_max, x_min, xc_cmp, xc_cmp0, xc_null, xc_nn, xc_not, xc_and, xc_or, xc_if, xs_skip, xs_seq, xs_decI, xs_decR, xs_setI, xs_inc, xs_if, xs_blk, xs_retI, xs_retB, xs_retR, xs_retD, xs_ret0, xs_putI, xs_putZ, xs_putR, xs_putop, xs_ast, xs_astop, xs_astR, xs_callV, xs_callP, xs_super, xs_sw, s_go_inl, s_go_inr, s_cut_inl, s_cut_inr, o_void_n, v_i_int, v_i_none, v_r_ref, v_r_null, v_r_rf, h_set_some, o_some_s, zB_ne0, zB_ite, zB_ite2, g_Vn, g_Pi, nI_add, Option.bind_some, Option.map_some, Option.bind_none, Option.map_none, List.getElem?_cons_zero, List.getElem?_cons_succ, List.set_cons_zero, List.set_cons_succ, List.cons_append, List.nil_append, List.take_succ_cons, List.take_zero, List.length_cons, List.length_nil, Nat.zero_add, Nat.reduceAdd, Nat.reduceLT, if_true, if_false, Bool.false_eq_true, Bool.true_eq_false, decide_eq_true_eq, decide_true, decide_false, Bool.not_true, Bool.not_false, Option.isNone_none, Option.isNone_some, Option.isSome_none, Option.isSome_some, ite_true, ite_false, reduceIte, reduceCtorEq, and_true, true_and, eq_self, Option.some.injEq, Sum.inr.injEq, Sum.inl.injEq, Prod.mk.injEq, not_true_eq_false, not_false_eq_true, Bool.decide_eq_true, n0_ne, n1_ne, xz_ret, zb_if, n1_if, n0_if, v_rf, h_ix_nI, nI_clamp, zB_t, zB_f, uN_uN, uN_ap, Nat.reduceEqDiff, Nat.reduceMul, Nat.reduceSub, w.1, w.2.1, w.2.2.1, w.2.2.2.1, w.2.2.2.2, nk, rf, le, j_gt0, zB_addD, r1]
theorem lf3 (hn : LN V.1 M) {k : Nat} (hk : k < V.1.1.length) (p6 p7 p8 : Int32) : ∀ (d j : Nat) (σ : sSt), WV σ M V → j + d = V.1.1.length → ∀ F, d < F → ∃ σ', s_wh C_L_areFactors_3 W_L_areFactors_3 F [.ref 0, .ref 60, .ref 61, .ref 64, .int (nI 1), .int (nI k), .int p6, .int p7, .int p8, .int (nI j)] σ = some (.inr ([.ref 0, .ref 60, .ref 61, .ref 64, .int (nI 1), .int (nI k), .int p6, .int p7, .int p8, .int (nI V.1.1.length)], σ')) ∧ WV σ' M V := by
  have ok := hn.1
  have hl := ok.1
  have hz := hn.z
  have b1 := sN_ok ok k
  intro d
  induction d with
  | zero =>
    intro j σ hv hk' F hF
    obtain ⟨F, rfl⟩ : ∃ F', F = F' + 1 := ⟨F - 1, by omega⟩
    rw [Nat.add_zero] at hk'
    subst hk'
    have w := hv.lw
    refine ⟨σ, wh_F ?_, hv⟩
    simp (disch := omega) only [x_and, x_or, x_shl, x_shr, x_k, x_i, x_r, x_nil, x_add, x_sub, x_mul, x_div, x_rem, x_get, x_getR, x_ald, x_aldR, x_len, x_lenR, x_if, xa_nil, xa_ci, xa_cr, x_callI, x_callR, x_new, x_newa, x_newq, x_max, x_min, xc_cmp, xc_cmp0, xc_null, xc_nn, xc_not, xc_and, xc_or, xc_if, xs_skip, xs_seq, xs_decI, xs_decR, xs_setI, xs_inc, xs_if, xs_blk, xs_retI, xs_retB, xs_retR, xs_retD, xs_ret0, xs_putI, xs_putZ, xs_putR, xs_putop, xs_ast, xs_astop, xs_astR, xs_callV, xs_callP, xs_super, xs_sw, s_go_inl, s_go_inr, s_cut_inl, s_cut_inr, o_void_n, v_i_int, v_i_none, v_r_ref, v_r_null, v_r_rf, h_set_some, o_some_s, zB_ne0, zB_ite, zB_ite2, g_Vn, g_Pi, nI_add, Option.bind_some, Option.map_some, Option.bind_none, Option.map_none, List.getElem?_cons_zero, List.getElem?_cons_succ, List.set_cons_zero, List.set_cons_succ, List.cons_append, List.nil_append, List.take_succ_cons, List.take_zero, List.length_cons, List.length_nil, Nat.zero_add, Nat.reduceAdd, Nat.reduceLT, if_true, if_false, Bool.false_eq_true, Bool.true_eq_false, decide_eq_true_eq, decide_true, decide_false, Bool.not_true, Bool.not_false, Option.isNone_none, Option.isNone_some, Option.isSome_none, Option.isSome_some, ite_true, ite_false, reduceIte, reduceCtorEq, and_true, true_and, eq_self, Option.some.injEq, Sum.inr.injEq, Sum.inl.injEq, Prod.mk.injEq, not_true_eq_false, not_false_eq_true, Bool.decide_eq_true, n0_ne, n1_ne, xz_ret, zb_if, n1_if, n0_if, v_rf, h_ix_nI, nI_clamp, zB_t, zB_f, uN_uN, uN_ap, Nat.reduceEqDiff, Nat.reduceMul, Nat.reduceSub, w.1, w.2.1, w.2.2.1, w.2.2.2.1, w.2.2.2.2, hz, j_lt, Nat.lt_irrefl]
  | succ d ih =>
    intro j σ hv hk' F hF
    obtain ⟨F, rfl⟩ : ∃ F', F = F' + 1 := ⟨F - 1, by omega⟩
    have w := hv.lw
    have hj : j < V.1.1.length := by omega
    have b2 := sN_ok ok j
    have nk := hn.nu hk
    have nj := hn.nu hj
    have lc := fun σ => l_common (σ := σ) b1.1 b2.1 b1.2 b2.2
    obtain ⟨σ1, r1, v1⟩ := k_common hv (nI k) (nI j) (nI 0)
    rw [rCommon_0 ok hk hj] at r1
    obtain ⟨σ2, r2, v2⟩ := k_common v1 (nI k) (nI j) (nI 1)
    rw [rCommon_1 ok hk hj] at r2
    have w1 := v1.lw
    have w2 := v2.lw
    obtain ⟨σ3, r3, v3⟩ := ih (j + 1) σ2 v2 (by omega) F (by omega)
    refine ⟨σ3, (wh_T (σ1 := σ) (L2 := [.ref 0, .ref 60, .ref 61, .ref 64, .int (nI 1), .int (nI k), .int p6, .int p7, .int p8, .int (nI (j + 1))]) (σ2 := σ2) ?_ ?_).trans r3, v3⟩
    · simp (disch := omega) only [x_and, x_or, x_shl, x_shr, x_k, x_i, x_r, x_nil, x_add, x_sub, x_mul, x_div, x_rem, x_get, x_getR, x_ald, x_aldR, x_len, x_lenR, x_if, xa_nil, xa_ci, xa_cr, x_callI, x_callR, x_new, x_newa, x_newq, x_max, x_min, xc_cmp, xc_cmp0, xc_null, xc_nn, xc_not, xc_and, xc_or, xc_if, xs_skip, xs_seq, xs_decI, xs_decR, xs_setI, xs_inc, xs_if, xs_blk, xs_retI, xs_retB, xs_retR, xs_retD, xs_ret0, xs_putI, xs_putZ, xs_putR, xs_putop, xs_ast, xs_astop, xs_astR, xs_callV, xs_callP, xs_super, xs_sw, s_go_inl, s_go_inr, s_cut_inl, s_cut_inr, o_void_n, v_i_int, v_i_none, v_r_ref, v_r_null, v_r_rf, h_set_some, o_some_s, zB_ne0, zB_ite, zB_ite2, g_Vn, g_Pi, nI_add, Option.bind_some, Option.map_some, Option.bind_none, Option.map_none, List.getElem?_cons_zero, List.getElem?_cons_succ, List.set_cons_zero, List.set_cons_succ, List.cons_append, List.nil_append, List.take_succ_cons, List.take_zero, List.length_cons, List.length_nil, Nat.zero_add, Nat.reduceAdd, Nat.reduceLT, if_true, if_false, Bool.false_eq_true, Bool.true_eq_false, decide_eq_true_eq, decide_true, decide_false, Bool.not_true, Bool.not_false, Option.isNone_none, Option.isNone_some, Option.isSome_none, Option.isSome_some, ite_true, ite_false, reduceIte, reduceCtorEq, and_true, true_and, eq_self, Option.some.injEq, Sum.inr.injEq, Sum.inl.injEq, Prod.mk.injEq, not_true_eq_false, not_false_eq_true, Bool.decide_eq_true, n0_ne, n1_ne, xz_ret, zb_if, n1_if, n0_if, v_rf, h_ix_nI, nI_clamp, zB_t, zB_f, uN_uN, uN_ap, Nat.reduceEqDiff, Nat.reduceMul, Nat.reduceSub, w.1, w.2.1, w.2.2.1, w.2.2.2.1, w.2.2.2.2, hz, j_lt, hj]
    · simp (disch := omega) only [x_and, x_or, x_shl, x_shr, x_k, x_i, x_r, x_nil, x_add, x_sub, x_mul, x_div, x_rem, x_get, x_getR, x_ald, x_aldR, x_len, x_lenR, x_if, xa_nil, xa_ci, xa_cr, x_callI, x_callR, x_new, x_newa, x_newq, x_max, x_min, xc_cmp, xc_cmp0, xc_null, xc_nn, xc_not, xc_and, xc_or, xc_if, xs_skip, xs_seq, xs_decI, xs_decR, xs_setI, xs_inc, xs_if, xs_blk, xs_retI, xs_retB, xs_retR, xs_retD, xs_ret0, xs_putI, xs_putZ, xs_putR, xs_putop, xs_ast, xs_astop, xs_astR, xs_callV, xs_callP, xs_super, xs_sw, s_go_inl, s_go_inr, s_cut_inl, s_cut_inr, o_void_n, v_i_int, v_i_none, v_r_ref, v_r_null, v_r_rf, h_set_some, o_some_s, zB_ne0, zB_ite, zB_ite2, g_Vn, g_Pi, nI_add, Option.bind_some, Option.map_some, Option.bind_none, Option.map_none, List.getElem?_cons_zero, List.getElem?_cons_succ, List.set_cons_zero, List.set_cons_succ, List.cons_append, List.nil_append, List.take_succ_cons, List.take_zero, List.length_cons, List.length_nil, Nat.zero_add, Nat.reduceAdd, Nat.reduceLT, if_true, if_false, Bool.false_eq_true, Bool.true_eq_false, decide_eq_true_eq, decide_true, decide_false, Bool.not_true, Bool.not_false, Option.isNone_none, Option.isNone_some, Option.isSome_none, Option.isSome_some, ite_true, ite_false, reduceIte, reduceCtorEq, and_true, true_and, eq_self, Option.some.injEq, Sum.inr.injEq, Sum.inl.injEq, Prod.mk.injEq, not_true_eq_false, not_false_eq_true, Bool.decide_eq_true, n0_ne, n1_ne, xz_ret, zb_if, n1_if, n0_if, v_rf, h_ix_nI, nI_clamp, zB_t, zB_f, uN_uN, uN_ap, Nat.reduceEqDiff, Nat.reduceMul, Nat.reduceSub, r1, r2, w1.1, w2.1, nk, nj, lc, i_eqS]
theorem lf4 (hr : ∀ j, j < 25 → M 4 j = nI (p25 j)) (hn : LN V.1 M) (h25 : L25 V.1) : ∀ (d k : Nat) (σ : sSt), WV σ M V → k + d = V.1.1.length → ∀ F, d < F → ∃ σ', s_wh C_L_areFactors_4 W_L_areFactors_4 F [.ref 0, .ref 60, .ref 61, .ref 64, .int (nI 1), .int (nI k)] σ = some (.inr ([.ref 0, .ref 60, .ref 61, .ref 64, .int (nI 1), .int (nI V.1.1.length)], σ')) ∧ WV σ' M V := by
  have ok := hn.1
  have hl := ok.1
  have hz := hn.z
  intro d
  induction d with
  | zero =>
    intro k σ hv hk' F hF
    obtain ⟨F, rfl⟩ : ∃ F', F = F' + 1 := ⟨F - 1, by omega⟩
    rw [Nat.add_zero] at hk'
    subst hk'
    have w := hv.lw
    refine ⟨σ, wh_F ?_, hv⟩
    simp (disch := omega) only [x_and, x_or, x_shl, x_shr, x_k, x_i, x_r, x_nil, x_add, x_sub, x_mul, x_div, x_rem, x_get, x_getR, x_ald, x_aldR, x_len, x_lenR, x_if, xa_nil, xa_ci, xa_cr, x_callI, x_callR, x_new, x_newa, x_newq, x_max, x_min, xc_cmp, xc_cmp0, xc_null, xc_nn, xc_not, xc_and, xc_or, xc_if, xs_skip, xs_seq, xs_decI, xs_decR, xs_setI, xs_inc, xs_if, xs_blk, xs_retI, xs_retB, xs_retR, xs_retD, xs_ret0, xs_putI, xs_putZ, xs_putR, xs_putop, xs_ast, xs_astop, xs_astR, xs_callV, xs_callP, xs_super, xs_sw, s_go_inl, s_go_inr, s_cut_inl, s_cut_inr, o_void_n, v_i_int, v_i_none, v_r_ref, v_r_null, v_r_rf, h_set_some, o_some_s, zB_ne0, zB_ite, zB_ite2, g_Vn, g_Pi, nI_add, Option.bind_some, Option.map_some, Option.bind_none, Option.map_none, List.getElem?_cons_zero, List.getElem?_cons_succ, List.set_cons_zero, List.set_cons_succ, List.cons_append, List.nil_append, List.take_succ_cons, List.take_zero, List.length_cons, List.length_nil, Nat.zero_add, Nat.reduceAdd, Nat.reduceLT, if_true, if_false, Bool.false_eq_true, Bool.true_eq_false, decide_eq_true_eq, decide_true, decide_false, Bool.not_true, Bool.not_false, Option.isNone_none, Option.isNone_some, Option.isSome_none, Option.isSome_some, ite_true, ite_false, reduceIte, reduceCtorEq, and_true, true_and, eq_self, Option.some.injEq, Sum.inr.injEq, Sum.inl.injEq, Prod.mk.injEq, not_true_eq_false, not_false_eq_true, Bool.decide_eq_true, n0_ne, n1_ne, xz_ret, zb_if, n1_if, n0_if, v_rf, h_ix_nI, nI_clamp, zB_t, zB_f, uN_uN, uN_ap, Nat.reduceEqDiff, Nat.reduceMul, Nat.reduceSub, w.1, w.2.1, w.2.2.1, w.2.2.2.1, w.2.2.2.2, hz, j_lt, Nat.lt_irrefl]
  | succ d ih =>
    intro k σ hv hk' F hF
    obtain ⟨F, rfl⟩ : ∃ F', F = F' + 1 := ⟨F - 1, by omega⟩
    have w := hv.lw
    have hk : k < V.1.1.length := by omega
    have b1 := sN_ok ok k
    have g := h25.nu k
    have s13 := exS_le b1.2 25
    obtain ⟨σ1, r1, v1⟩ := lf2 hr hn h25 hk 25 0 σ hv (by omega) s_FUEL (by unfold s_FUEL; omega)
    have r1 : s_while C_L_areFactors_2 W_L_areFactors_2 [.ref 0, .ref 60, .ref 61, .ref 64, .int (nI 1), .int (nI k), .int (nI 0), .int (nI 0), .int (-4), .int (nI 0)] σ = _ := r1
    have fl := fac_num (sN V.1 k) (sN V.1 k) (Nat.le_refl _) b1.1 g
    obtain ⟨σ2, r2, v2⟩ := k_factor v1 (nI k) (nI (exS (sN V.1 k) 25))
    rw [rFactor_n ok hk (by omega)] at r2
    have fa : facI (sN V.1 k) (exS (sN V.1 k) 25) = -4 := by
      unfold facI
      rw [List.getElem?_eq_none (by rw [fl]; exact Nat.le_refl _)]
    rw [fa] at r2
    obtain ⟨σ3, r3, v3⟩ := k_factor v2 (nI k) (-1)
    rw [rFactor_m] at r3
    obtain ⟨σ4, r4, v4⟩ := k_step v3 (nI k) (nI 4)
    rw [rStep_4 ok hk, fl] at r4
    obtain ⟨σ5, r5, v5⟩ := k_step v4 (nI k) (nI 5)
    rw [rStep_5 ok hk, dfac_num b1.1 g] at r5
    obtain ⟨σ6, r6, v6⟩ := k_step v5 (nI k) (nI 6)
    rw [rStep_6 ok hk, gpr_num b1.1 g] at r6
    obtain ⟨σ7, r7, v7⟩ := lf3 hn hk (nI (exS (sN V.1 k) 25)) (nI (exN (sN V.1 k) 25)) (oN (exG (sN V.1 k) 25)) V.1.1.length 0 σ6 v6 (by omega) s_FUEL (by unfold s_FUEL; omega)
    have r7 : s_while C_L_areFactors_3 W_L_areFactors_3 [.ref 0, .ref 60, .ref 61, .ref 64, .int (nI 1), .int (nI k), .int (nI (exS (sN V.1 k) 25)), .int (nI (exN (sN V.1 k) 25)), .int (oN (exG (sN V.1 k) 25)), .int (nI 0)] σ6 = _ := r7
    obtain ⟨σ8, r8, v8⟩ := ih (k + 1) σ7 v7 (by omega) F (by omega)
    refine ⟨σ8, (wh_T (σ1 := σ) (L2 := [.ref 0, .ref 60, .ref 61, .ref 64, .int (nI 1), .int (nI (k + 1))]) (σ2 := σ7) ?_ ?_).trans r8, v8⟩
    · simp (disch := omega) only [x_and, x_or, x_shl, x_shr, x_k, x_i, x_r, x_nil, x_add, x_sub, x_mul, x_div, x_rem, x_get, x_getR, x_ald, x_aldR, x_len, x_lenR, x_if, xa_nil, xa_ci, xa_cr, x_callI, x_callR, x_new, x_newa, x_newq, x_max, x_min, xc_cmp, xc_cmp0, xc_null, xc_nn, xc_not, xc_and, xc_or, xc_if, xs_skip, xs_seq, xs_decI, xs_decR, xs_setI, xs_inc, xs_if, xs_blk, xs_retI, xs_retB, xs_retR, xs_retD, xs_ret0, xs_putI, xs_putZ, xs_putR, xs_putop, xs_ast, xs_astop, xs_astR, xs_callV, xs_callP, xs_super, xs_sw, s_go_inl, s_go_inr, s_cut_inl, s_cut_inr, o_void_n, v_i_int, v_i_none, v_r_ref, v_r_null, v_r_rf, h_set_some, o_some_s, zB_ne0, zB_ite, zB_ite2, g_Vn, g_Pi, nI_add, Option.bind_some, Option.map_some, Option.bind_none, Option.map_none, List.getElem?_cons_zero, List.getElem?_cons_succ, List.set_cons_zero, List.set_cons_succ, List.cons_append, List.nil_append, List.take_succ_cons, List.take_zero, List.length_cons, List.length_nil, Nat.zero_add, Nat.reduceAdd, Nat.reduceLT, if_true, if_false, Bool.false_eq_true, Bool.true_eq_false, decide_eq_true_eq, decide_true, decide_false, Bool.not_true, Bool.not_false, Option.isNone_none, Option.isNone_some, Option.isSome_none, Option.isSome_some, ite_true, ite_false, reduceIte, reduceCtorEq, and_true, true_and, eq_self, Option.some.injEq, Sum.inr.injEq, Sum.inl.injEq, Prod.mk.injEq, not_true_eq_false, not_false_eq_true, Bool.decide_eq_true, n0_ne, n1_ne, xz_ret, zb_if, n1_if, n0_if, v_rf, h_ix_nI, nI_clamp, zB_t, zB_f, uN_uN, uN_ap, Nat.reduceEqDiff, Nat.reduceMul, Nat.reduceSub, w.1, w.2.1, w.2.2.1, w.2.2.2.1, w.2.2.2.2, hz, j_lt, hk]
    · simp (disch := omega) only [x_and, x_or, x_shl, x_shr, x_k, x_i, x_r, x_nil, x_add, x_sub, x_mul, x_div, x_rem, x_get, x_getR, x_ald, x_aldR, x_len, x_lenR, x_if, xa_nil, xa_ci, xa_cr, x_callI, x_callR, x_new, x_newa, x_newq, x_max, x_min, xc_cmp, xc_cmp0, xc_null, xc_nn, xc_not, xc_and, xc_or, xc_if, xs_skip, xs_seq, xs_decI, xs_decR, xs_setI, xs_inc, xs_if, xs_blk, xs_retI, xs_retB, xs_retR, xs_retD, xs_ret0, xs_putI, xs_putZ, xs_putR, xs_putop, xs_ast, xs_astop, xs_astR, xs_callV, xs_callP, xs_super, xs_sw, s_go_inl, s_go_inr, s_cut_inl, s_cut_inr, o_void_n, v_i_int, v_i_none, v_r_ref, v_r_null, v_r_rf, h_set_some, o_some_s, zB_ne0, zB_ite, zB_ite2, g_Vn, g_Pi, nI_add, Option.bind_some, Option.map_some, Option.bind_none, Option.map_none, List.getElem?_cons_zero, List.getElem?_cons_succ, List.set_cons_zero, List.set_cons_succ, List.cons_append, List.nil_append, List.take_succ_cons, List.take_zero, List.length_cons, List.length_nil, Nat.zero_add, Nat.reduceAdd, Nat.reduceLT, if_true, if_false, Bool.false_eq_true, Bool.true_eq_false, decide_eq_true_eq, decide_true, decide_false, Bool.not_true, Bool.not_false, Option.isNone_none, Option.isNone_some, Option.isSome_none, Option.isSome_some, ite_true, ite_false, reduceIte, reduceCtorEq, and_true, true_and, eq_self, Option.some.injEq, Sum.inr.injEq, Sum.inl.injEq, Prod.mk.injEq, not_true_eq_false, not_false_eq_true, Bool.decide_eq_true, n0_ne, n1_ne, xz_ret, zb_if, n1_if, n0_if, v_rf, h_ix_nI, nI_clamp, zB_t, zB_f, uN_uN, uN_ap, Nat.reduceEqDiff, Nat.reduceMul, Nat.reduceSub, r1, r2, r3, r4, r5, r6, r7, i_eqS]
theorem l_areFactors (hv : WV σ M V) (hr : ∀ j, j < 25 → M 4 j = nI (p25 j)) (hn : LN V.1 M) (h25 : L25 V.1) : ∃ σ', M_L_areFactors [.ref 0, .ref 60, .ref 61, .ref 64] σ = some (some (.int (nI 1)), σ') ∧ WV σ' M V := by
  have hl := hn.1.1
  obtain ⟨σ', r, v⟩ := lf4 hr hn h25 V.1.1.length 0 σ hv (by omega) s_FUEL (by unfold s_FUEL; omega)
  have r : s_while C_L_areFactors_4 W_L_areFactors_4 [.ref 0, .ref 60, .ref 61, .ref 64, .int (nI 1), .int (nI 0)] σ = _ := r
  refine ⟨σ', m_eq rfl rfl ?_, v⟩
  unfold B_L_areFactors
  simp (disch := omega) only [x_and, x_or, x_shl, x_shr, x_k, x_i, x_r, x_nil, x_add, x_sub, x_mul, x_div, x_rem, x_get, x_getR, x_ald, x_aldR, x_len, x_lenR, x_if, xa_nil, xa_ci, xa_cr, x_callI, x_callR, x_new, x_newa, x_newq, x_max, x_min, xc_cmp, xc_cmp0, xc_null, xc_nn, xc_not, xc_and, xc_or, xc_if, xs_skip, xs_seq, xs_decI, xs_decR, xs_setI, xs_inc, xs_if, xs_blk, xs_retI, xs_retB, xs_retR, xs_retD, xs_ret0, xs_putI, xs_putZ, xs_putR, xs_putop, xs_ast, xs_astop, xs_astR, xs_callV, xs_callP, xs_super, xs_sw, s_go_inl, s_go_inr, s_cut_inl, s_cut_inr, o_void_n, v_i_int, v_i_none, v_r_ref, v_r_null, v_r_rf, h_set_some, o_some_s, zB_ne0, zB_ite, zB_ite2, g_Vn, g_Pi, nI_add, Option.bind_some, Option.map_some, Option.bind_none, Option.map_none, List.getElem?_cons_zero, List.getElem?_cons_succ, List.set_cons_zero, List.set_cons_succ, List.cons_append, List.nil_append, List.take_succ_cons, List.take_zero, List.length_cons, List.length_nil, Nat.zero_add, Nat.reduceAdd, Nat.reduceLT, if_true, if_false, Bool.false_eq_true, Bool.true_eq_false, decide_eq_true_eq, decide_true, decide_false, Bool.not_true, Bool.not_false, Option.isNone_none, Option.isNone_some, Option.isSome_none, Option.isSome_some, ite_true, ite_false, reduceIte, reduceCtorEq, and_true, true_and, eq_self, Option.some.injEq, Sum.inr.injEq, Sum.inl.injEq, Prod.mk.injEq, not_true_eq_false, not_false_eq_true, Bool.decide_eq_true, n0_ne, n1_ne, xz_ret, zb_if, n1_if, n0_if, v_rf, h_ix_nI, nI_clamp, zB_t, zB_f, uN_uN, uN_ap, Nat.reduceEqDiff, Nat.reduceMul, Nat.reduceSub, r]
end
