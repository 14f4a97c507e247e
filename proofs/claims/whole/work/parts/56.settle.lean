/-! ROUNDS OF SHARING COME TO AN END (own work): behind k rounds the highest k steps are multiples of all below them -/
def LastP (S : tS) (k : Nat) : Prop := ∀ j, S.1.length ≤ j + k → j < S.1.length → ∀ i, i < j → sN S i ∣ sN S j
theorem sN_set2 {l : List Nat} {c : Nat × Nat × Int32 × (Nat → Int32)} {i x y : Nat} (h : i + 1 < l.length) (j : Nat) : sN ((l.set i x).set (i + 1) y, c) j = if j = i + 1 then y else if j = i then x else sN (l, c) j := by
  unfold sN
  show ((l.set i x).set (i + 1) y).getD j 1 = _
  rw [List.getD_eq_getElem?_getD]
  by_cases e : j = i + 1
  · rw [if_pos e, e, List.getElem?_set_self (by rw [List.length_set]; exact h)]
    rfl
  · rw [if_neg e, List.getElem?_set_ne (fun q => e q.symm)]
    by_cases e2 : j = i
    · rw [if_pos e2, e2, List.getElem?_set_self (by omega)]
      rfl
    · rw [if_neg e2, List.getElem?_set_ne (fun q => e2 q.symm), List.getD_eq_getElem?_getD]
theorem sN_shr {S : tS} {i : Nat} (h : i + 1 < S.1.length) (j : Nat) : sN (shr S i) j = if j = i + 1 then lcm2 (sN S i) (sN S (i + 1)) else if j = i then Nat.gcd (sN S i) (sN S (i + 1)) else sN S j := sN_set2 h j
theorem lcm2_eq (a b : Nat) : lcm2 a b = Nat.lcm a b := by
  unfold lcm2 Nat.lcm
  rw [Nat.mul_comm a b, Nat.mul_div_assoc b (Nat.gcd_dvd_left a b), Nat.mul_comm]
theorem rnd_last (m : Nat) (X : Nat → Nat) : ∀ (d k : Nat) (S T : tS), rndF d k S = some T → k + d + 1 = S.1.length → (∀ j, m ≤ j → j < S.1.length → ∀ i, i < j → X i ∣ X j) →
    (∀ j, k < j → sN S j = X j) → (∀ i, i < k → sN S i ∣ sN S k) → (∀ y, (∀ i, i ≤ k → X i ∣ y) → sN S k ∣ y) → (∀ j, j < k → m ≤ j + 1 → ∀ i, i < j → sN S i ∣ sN S j) →
    T.1.length = S.1.length ∧ ∀ j, j < S.1.length → m ≤ j + 1 → ∀ i, i < j → sN T i ∣ sN T j := by
  intro d
  induction d with
  | zero =>
    intro k S T h hk hX h1 h2 h3 h4
    cases h
    refine ⟨rfl, fun j hj hm i hi => ?_⟩
    by_cases e : j = k
    · rw [e] at hi ⊢
      exact h2 i hi
    · exact h4 j (by omega) hm i hi
  | succ d ih =>
    intro k S T h hk hX h1 h2 h3 h4
    unfold rndF at h
    split at h
    · next hb =>
      have hn : k + 1 < S.1.length := by omega
      have sv := sN_shr hn
      have s0 : sN (shr S k) k = Nat.gcd (sN S k) (sN S (k + 1)) := by rw [sv, if_neg (by omega), if_pos rfl]
      have s1 : sN (shr S k) (k + 1) = lcm2 (sN S k) (sN S (k + 1)) := by rw [sv, if_pos rfl]
      have s2 : ∀ j, j ≠ k → j ≠ k + 1 → sN (shr S k) j = sN S j := fun j a b => by rw [sv, if_neg b, if_neg a]
      have e1 := h1 (k + 1) (by omega)
      have := ih (k + 1) (shr S k) T h (by rw [shr_len]; omega) (by rw [shr_len]; exact hX) (fun j hj => by rw [s2 j (by omega) (by omega)]; exact h1 j (by omega)) (fun i hi => by
        rw [s1, lcm2_eq]
        by_cases e : i = k
        · rw [e, s0]
          exact Nat.dvd_trans (Nat.gcd_dvd_left _ _) (Nat.dvd_lcm_left _ _)
        · rw [s2 i e (by omega)]
          exact Nat.dvd_trans (h2 i (by omega)) (Nat.dvd_lcm_left _ _)) (fun y hy => by
        rw [s1, lcm2_eq]
        exact Nat.lcm_dvd (h3 y (fun i hi => hy i (by omega))) (by rw [e1]; exact hy (k + 1) (Nat.le_refl _))) (fun j hj hm i hi => by
        by_cases e : j = k
        · subst e
          rw [s0, s2 i (by omega) (by omega)]
          have : sN S j ∣ sN S (j + 1) := h3 _ (fun i hi => by rw [e1]; exact hX (j + 1) hm hn i (by omega))
          rw [Nat.gcd_eq_left this]
          exact h2 i hi
        · rw [s2 i (by omega) (by omega), s2 j e (by omega)]
          exact h4 j (by omega) hm i hi)
      rw [shr_len] at this
      exact this
    · cases h
theorem last_round {S T : tS} {k : Nat} (h : rndF (S.1.length - 1) 0 S = some T) (h1 : 1 ≤ S.1.length) (hk : LastP S k) : T.1.length = S.1.length ∧ LastP T (k + 1) := by
  obtain ⟨a, b⟩ := rnd_last (S.1.length - k) (sN S) (S.1.length - 1) 0 S T h (by omega) (fun j hm hj i hi => hk j (by omega) hj i hi) (fun j _ => rfl) (fun i hi => absurd hi (Nat.not_lt_zero i)) (fun y hy => hy 0 (Nat.le_refl 0)) (fun j hj => absurd hj (Nat.not_lt_zero j))
  refine ⟨a, fun j hj hl i hi => ?_⟩
  rw [a] at hj hl
  exact b j hl (by omega) i hi
theorem last_stl {S : tS} {k : Nat} (hk : LastP S k) (h : S.1.length ≤ k + 1) : stl S = true := decide_eq_true (fun i hi => Nat.mod_eq_zero_of_dvd (hk (i + 1) (by omega) (by omega) i (by omega)))
section
variable {σ : sSt} {M : tM} {S : tS}
theorem rnd_ok : ∀ (d k : Nat) (S T : tS), okS S → rndF d k S = some T → k + d + 1 = S.1.length → okS T ∧ T.1.length = S.1.length := by
  intro d
  induction d with
  | zero => intro k S T h e _; cases e; exact ⟨h, rfl⟩
  | succ d ih =>
    intro k S T h e hk
    unfold rndF at e
    split at e
    · next hb =>
      have b1 := sN_ok h k
      have b2 := sN_ok h (k + 1)
      have hg := gcd_pos (b := sN S (k + 1)) b1.1
      have hg2 := gcd_le (b := sN S (k + 1)) b1.1
      have ok : okS (shr S k) := okS.set (S := (S.1.set k _, S.2)) (h.set hg (by omega)) (lcm2_pos b1.1 b2.1) hb
      have := ih (k + 1) (shr S k) T ok e (by rw [shr_len]; omega)
      rw [shr_len] at this
      exact this
    · cases e
theorem g_round1 (hσ : 72 ≤ σ.1.length) (x : Int32) : ∀ (d k : Nat) (M : tM) (S : tS), SRow (M.2 1) S → k + d + 1 = S.1.length → ∀ F, d < F → ∃ f',
    (∀ T, rndF d k S = some T → s_wh C_X9_rounds_1 W_X9_rounds_1 F [.ref 60, .int x, .int (nI k)] (mp σ M) = some (.inr ([.ref 60, .int x, .int (nI (k + d))], mp σ (mS M f'))) ∧ SRow f' T) ∧
    (rndF d k S = none → s_wh C_X9_rounds_1 W_X9_rounds_1 F [.ref 60, .int x, .int (nI k)] (mp σ M) = some (.inl (some (.int (-3)), mp σ (mS M f')))) := by
  intro d
  induction d with
  | zero =>
    intro k M S h hk F hF
    obtain ⟨F, rfl⟩ : ∃ F', F = F' + 1 := ⟨F - 1, by omega⟩
    have hl := h.1.1
    refine ⟨M.2 1, fun T hT => ⟨wh_F ?_, by cases hT; exact h⟩, fun hT => by cases hT⟩
    rw [mS_self]
    simp (disch := omega) only [x_k, x_i, x_r, x_nil, x_add, x_sub, x_mul, x_div, x_rem, x_get, x_getR, x_ald, x_aldR, x_len, x_lenR, x_if, xa_nil, xa_ci, xa_cr, x_callI, x_callR, x_new, x_newa, x_newq, x_max, x_min, xc_cmp, xc_cmp0, xc_null, xc_nn, xc_not, xc_and, xc_or, xc_if, xs_skip, xs_seq, xs_decI, xs_decR, xs_setI, xs_inc, xs_if, xs_blk, xs_retI, xs_retB, xs_retR, xs_retD, xs_ret0, xs_putI, xs_putZ, xs_putR, xs_putop, xs_ast, xs_astop, xs_astR, xs_callV, xs_callP, xs_super, xs_sw, s_go_inl, s_go_inr, s_cut_inl, s_cut_inr, o_void_n, v_i_int, v_i_none, v_r_ref, v_r_null, v_r_rf, h_set_some, o_some_s, zB_ne0, zB_ite, zB_ite2, g_Vn, g_Pi, nI_add, Option.bind_some, Option.map_some, Option.bind_none, Option.map_none, List.getElem?_cons_zero, List.getElem?_cons_succ, List.set_cons_zero, List.set_cons_succ, List.cons_append, List.nil_append, List.take_succ_cons, List.take_zero, List.length_cons, List.length_nil, Nat.zero_add, Nat.reduceAdd, Nat.reduceLT, if_true, if_false, Bool.false_eq_true, Bool.true_eq_false, decide_eq_true_eq, decide_true, decide_false, Bool.not_true, Bool.not_false, Option.isNone_none, Option.isNone_some, Option.isSome_none, Option.isSome_some, ite_true, ite_false, reduceIte, reduceCtorEq, and_true, true_and, eq_self, Option.some.injEq, Sum.inr.injEq, Sum.inl.injEq, Prod.mk.injEq, Bool.decide_eq_true, n0_ne, n1_ne, xz_ret, zb_if, n1_if, n0_if, v_rf, h_ix_nI, nI_clamp, zB_t, zB_f, uN_uN, uN_ap, Nat.reduceEqDiff, Nat.reduceMul, Nat.reduceSub, mp_o hσ, mF_len, mp_a1 hσ, mp_a2 hσ, mp_a3 hσ, mp_a4 hσ, mp_a5 hσ, mp_a6 hσ, mp_a7 hσ, mp_a8 hσ, mp_a9 hσ, mp_a10 hσ, mp_a11 hσ, mp_s0 hσ, mp_s1 hσ, mp_s2 hσ, mp_s3 hσ, mp_s4 hσ, mp_s5 hσ, mp_s6 hσ, mp_s7 hσ, mp_s8 hσ, mp_s9 hσ, mp_s10 hσ, mp_s11 hσ, mg0, mg1, mg2, mg3, mg4, mg5, mg6, mg7, mg8, mg9, mg10, mg11, mg12, mg13, mg14, mg15, mg16, mg17, ms5, ms6, ms7, ms9, ms10, ms13, ms14, h.2.2.2.1, pk_sub, j_lt, show ¬ k < S.1.length - 1 by omega]
  | succ d ih =>
    intro k M S h hk F hF
    obtain ⟨F, rfl⟩ : ∃ F', F = F' + 1 := ⟨F - 1, by omega⟩
    have hl := h.1.1
    have hn : k + 1 < S.1.length := by omega
    have b1 := sN_ok h.1 k
    have b2 := sN_ok h.1 (k + 1)
    have hg := gcd_pos (b := sN S (k + 1)) b1.1
    have hg2 := gcd_le (b := sN S (k + 1)) b1.1
    have w := g_whyNotShared hσ h hn
    have hC : C_X9_rounds_1 [.ref 60, .int x, .int (nI k)] (mp σ M) = some (true, mp σ M) := by
      simp (disch := omega) only [x_k, x_i, x_r, x_nil, x_add, x_sub, x_mul, x_div, x_rem, x_get, x_getR, x_ald, x_aldR, x_len, x_lenR, x_if, xa_nil, xa_ci, xa_cr, x_callI, x_callR, x_new, x_newa, x_newq, x_max, x_min, xc_cmp, xc_cmp0, xc_null, xc_nn, xc_not, xc_and, xc_or, xc_if, xs_skip, xs_seq, xs_decI, xs_decR, xs_setI, xs_inc, xs_if, xs_blk, xs_retI, xs_retB, xs_retR, xs_retD, xs_ret0, xs_putI, xs_putZ, xs_putR, xs_putop, xs_ast, xs_astop, xs_astR, xs_callV, xs_callP, xs_super, xs_sw, s_go_inl, s_go_inr, s_cut_inl, s_cut_inr, o_void_n, v_i_int, v_i_none, v_r_ref, v_r_null, v_r_rf, h_set_some, o_some_s, zB_ne0, zB_ite, zB_ite2, g_Vn, g_Pi, nI_add, Option.bind_some, Option.map_some, Option.bind_none, Option.map_none, List.getElem?_cons_zero, List.getElem?_cons_succ, List.set_cons_zero, List.set_cons_succ, List.cons_append, List.nil_append, List.take_succ_cons, List.take_zero, List.length_cons, List.length_nil, Nat.zero_add, Nat.reduceAdd, Nat.reduceLT, if_true, if_false, Bool.false_eq_true, Bool.true_eq_false, decide_eq_true_eq, decide_true, decide_false, Bool.not_true, Bool.not_false, Option.isNone_none, Option.isNone_some, Option.isSome_none, Option.isSome_some, ite_true, ite_false, reduceIte, reduceCtorEq, and_true, true_and, eq_self, Option.some.injEq, Sum.inr.injEq, Sum.inl.injEq, Prod.mk.injEq, Bool.decide_eq_true, n0_ne, n1_ne, xz_ret, zb_if, n1_if, n0_if, v_rf, h_ix_nI, nI_clamp, zB_t, zB_f, uN_uN, uN_ap, Nat.reduceEqDiff, Nat.reduceMul, Nat.reduceSub, mp_o hσ, mF_len, mp_a1 hσ, mp_a2 hσ, mp_a3 hσ, mp_a4 hσ, mp_a5 hσ, mp_a6 hσ, mp_a7 hσ, mp_a8 hσ, mp_a9 hσ, mp_a10 hσ, mp_a11 hσ, mp_s0 hσ, mp_s1 hσ, mp_s2 hσ, mp_s3 hσ, mp_s4 hσ, mp_s5 hσ, mp_s6 hσ, mp_s7 hσ, mp_s8 hσ, mp_s9 hσ, mp_s10 hσ, mp_s11 hσ, mg0, mg1, mg2, mg3, mg4, mg5, mg6, mg7, mg8, mg9, mg10, mg11, mg12, mg13, mg14, mg15, mg16, mg17, ms5, ms6, ms7, ms9, ms10, ms13, ms14, h.2.2.2.1, pk_sub, j_lt, show k < S.1.length - 1 by omega]
    by_cases hb : lcm2 (sN S k) (sN S (k + 1)) ≤ 9999
    · rw [if_neg (by omega)] at w
      obtain ⟨f1, r1, h1⟩ := g_shares hσ h hn hb
      have hS : W_X9_rounds_1 [.ref 60, .int x, .int (nI k)] (mp σ M) = some (.inr ([.ref 60, .int x, .int (nI (k + 1))], mp σ (mS M f1))) := by
        simp (disch := omega) only [x_k, x_i, x_r, x_nil, x_add, x_sub, x_mul, x_div, x_rem, x_get, x_getR, x_ald, x_aldR, x_len, x_lenR, x_if, xa_nil, xa_ci, xa_cr, x_callI, x_callR, x_new, x_newa, x_newq, x_max, x_min, xc_cmp, xc_cmp0, xc_null, xc_nn, xc_not, xc_and, xc_or, xc_if, xs_skip, xs_seq, xs_decI, xs_decR, xs_setI, xs_inc, xs_if, xs_blk, xs_retI, xs_retB, xs_retR, xs_retD, xs_ret0, xs_putI, xs_putZ, xs_putR, xs_putop, xs_ast, xs_astop, xs_astR, xs_callV, xs_callP, xs_super, xs_sw, s_go_inl, s_go_inr, s_cut_inl, s_cut_inr, o_void_n, v_i_int, v_i_none, v_r_ref, v_r_null, v_r_rf, h_set_some, o_some_s, zB_ne0, zB_ite, zB_ite2, g_Vn, g_Pi, nI_add, Option.bind_some, Option.map_some, Option.bind_none, Option.map_none, List.getElem?_cons_zero, List.getElem?_cons_succ, List.set_cons_zero, List.set_cons_succ, List.cons_append, List.nil_append, List.take_succ_cons, List.take_zero, List.length_cons, List.length_nil, Nat.zero_add, Nat.reduceAdd, Nat.reduceLT, if_true, if_false, Bool.false_eq_true, Bool.true_eq_false, decide_eq_true_eq, decide_true, decide_false, Bool.not_true, Bool.not_false, Option.isNone_none, Option.isNone_some, Option.isSome_none, Option.isSome_some, ite_true, ite_false, reduceIte, reduceCtorEq, and_true, true_and, eq_self, Option.some.injEq, Sum.inr.injEq, Sum.inl.injEq, Prod.mk.injEq, Bool.decide_eq_true, n0_ne, n1_ne, xz_ret, zb_if, n1_if, n0_if, v_rf, h_ix_nI, nI_clamp, zB_t, zB_f, uN_uN, uN_ap, Nat.reduceEqDiff, Nat.reduceMul, Nat.reduceSub, mp_o hσ, mF_len, mp_a1 hσ, mp_a2 hσ, mp_a3 hσ, mp_a4 hσ, mp_a5 hσ, mp_a6 hσ, mp_a7 hσ, mp_a8 hσ, mp_a9 hσ, mp_a10 hσ, mp_a11 hσ, mp_s0 hσ, mp_s1 hσ, mp_s2 hσ, mp_s3 hσ, mp_s4 hσ, mp_s5 hσ, mp_s6 hσ, mp_s7 hσ, mp_s8 hσ, mp_s9 hσ, mp_s10 hσ, mp_s11 hσ, mg0, mg1, mg2, mg3, mg4, mg5, mg6, mg7, mg8, mg9, mg10, mg11, mg12, mg13, mg14, mg15, mg16, mg17, ms5, ms6, ms7, ms9, ms10, ms13, ms14, w, show i_lt (nI 0) 0 = false by decide, r1, j_lt, show ¬ Nat.gcd (sN S k) (sN S (k + 1)) < 1 by omega]
      obtain ⟨f2, a1, a2⟩ := ih (k + 1) (mS M f1) (shr S k) h1 (by rw [shr_len]; omega) F (by omega)
      have e : rndF (d + 1) k S = rndF d (k + 1) (shr S k) := if_pos hb
      rw [mS_mS] at a1 a2
      refine ⟨f2, fun T hT => ?_, fun hT => ?_⟩
      · rw [e] at hT
        obtain ⟨w1, w2⟩ := a1 T hT
        refine ⟨(wh_T hC hS).trans (w1.trans ?_), w2⟩
        rw [show k + 1 + d = k + (d + 1) by omega]
      · rw [e] at hT
        exact (wh_T hC hS).trans (a2 hT)
    · rw [if_pos (by omega)] at w
      have hS : W_X9_rounds_1 [.ref 60, .int x, .int (nI k)] (mp σ M) = some (.inl (some (.int (-3)), mp σ M)) := by
        simp (disch := omega) only [x_k, x_i, x_r, x_nil, x_add, x_sub, x_mul, x_div, x_rem, x_get, x_getR, x_ald, x_aldR, x_len, x_lenR, x_if, xa_nil, xa_ci, xa_cr, x_callI, x_callR, x_new, x_newa, x_newq, x_max, x_min, xc_cmp, xc_cmp0, xc_null, xc_nn, xc_not, xc_and, xc_or, xc_if, xs_skip, xs_seq, xs_decI, xs_decR, xs_setI, xs_inc, xs_if, xs_blk, xs_retI, xs_retB, xs_retR, xs_retD, xs_ret0, xs_putI, xs_putZ, xs_putR, xs_putop, xs_ast, xs_astop, xs_astR, xs_callV, xs_callP, xs_super, xs_sw, s_go_inl, s_go_inr, s_cut_inl, s_cut_inr, o_void_n, v_i_int, v_i_none, v_r_ref, v_r_null, v_r_rf, h_set_some, o_some_s, zB_ne0, zB_ite, zB_ite2, g_Vn, g_Pi, nI_add, Option.bind_some, Option.map_some, Option.bind_none, Option.map_none, List.getElem?_cons_zero, List.getElem?_cons_succ, List.set_cons_zero, List.set_cons_succ, List.cons_append, List.nil_append, List.take_succ_cons, List.take_zero, List.length_cons, List.length_nil, Nat.zero_add, Nat.reduceAdd, Nat.reduceLT, if_true, if_false, Bool.false_eq_true, Bool.true_eq_false, decide_eq_true_eq, decide_true, decide_false, Bool.not_true, Bool.not_false, Option.isNone_none, Option.isNone_some, Option.isSome_none, Option.isSome_some, ite_true, ite_false, reduceIte, reduceCtorEq, and_true, true_and, eq_self, Option.some.injEq, Sum.inr.injEq, Sum.inl.injEq, Prod.mk.injEq, Bool.decide_eq_true, n0_ne, n1_ne, xz_ret, zb_if, n1_if, n0_if, v_rf, h_ix_nI, nI_clamp, zB_t, zB_f, uN_uN, uN_ap, Nat.reduceEqDiff, Nat.reduceMul, Nat.reduceSub, mp_o hσ, mF_len, mp_a1 hσ, mp_a2 hσ, mp_a3 hσ, mp_a4 hσ, mp_a5 hσ, mp_a6 hσ, mp_a7 hσ, mp_a8 hσ, mp_a9 hσ, mp_a10 hσ, mp_a11 hσ, mp_s0 hσ, mp_s1 hσ, mp_s2 hσ, mp_s3 hσ, mp_s4 hσ, mp_s5 hσ, mp_s6 hσ, mp_s7 hσ, mp_s8 hσ, mp_s9 hσ, mp_s10 hσ, mp_s11 hσ, mg0, mg1, mg2, mg3, mg4, mg5, mg6, mg7, mg8, mg9, mg10, mg11, mg12, mg13, mg14, mg15, mg16, mg17, ms5, ms6, ms7, ms9, ms10, ms13, ms14, w, show i_lt (-3) 0 = true by decide]
      have e : rndF (d + 1) k S = none := if_neg hb
      refine ⟨M.2 1, fun T hT => (by rw [e] at hT; cases hT), fun _ => ?_⟩
      rw [mS_self]
      exact wh_R hC hS
theorem g_roundsF (hσ : 72 ≤ σ.1.length) : ∀ (d k n : Nat) (M : tM) (S : tS), SRow (M.2 1) S → LastP S k → 13 ≤ k + d → 1 ≤ d → ∀ F, d < F → ∃ f',
    (∀ r, sirF d S = some r → s_wh C_X9_rounds_2 W_X9_rounds_2 F [.ref 60, .int (nI n)] (mp σ M) = some (.inr ([.ref 60, .int (nI (n + r.1))], mp σ (mS M f'))) ∧ SRow f' r.2) ∧
    (sirF d S = none → s_wh C_X9_rounds_2 W_X9_rounds_2 F [.ref 60, .int (nI n)] (mp σ M) = some (.inl (some (.int (-3)), mp σ (mS M f')))) := by
  intro d
  induction d with
  | zero =>
    intro k n M S h hL hk hd
    omega
  | succ d ih =>
    intro k n M S h hL hk hd F hF
    obtain ⟨F, rfl⟩ : ∃ F', F = F' + 1 := ⟨F - 1, by omega⟩
    have hl := h.1.1
    by_cases hs : stl S = true
    · have e : sirF (d + 1) S = some (0, S) := if_pos hs
      refine ⟨M.2 1, fun r hr => ?_, fun hr => (by rw [e] at hr; cases hr)⟩
      rw [e] at hr
      cases hr
      rw [mS_self]
      refine ⟨wh_F ?_, h⟩
      simp (disch := omega) only [x_k, x_i, x_r, x_nil, x_add, x_sub, x_mul, x_div, x_rem, x_get, x_getR, x_ald, x_aldR, x_len, x_lenR, x_if, xa_nil, xa_ci, xa_cr, x_callI, x_callR, x_new, x_newa, x_newq, x_max, x_min, xc_cmp, xc_cmp0, xc_null, xc_nn, xc_not, xc_and, xc_or, xc_if, xs_skip, xs_seq, xs_decI, xs_decR, xs_setI, xs_inc, xs_if, xs_blk, xs_retI, xs_retB, xs_retR, xs_retD, xs_ret0, xs_putI, xs_putZ, xs_putR, xs_putop, xs_ast, xs_astop, xs_astR, xs_callV, xs_callP, xs_super, xs_sw, s_go_inl, s_go_inr, s_cut_inl, s_cut_inr, o_void_n, v_i_int, v_i_none, v_r_ref, v_r_null, v_r_rf, h_set_some, o_some_s, zB_ne0, zB_ite, zB_ite2, g_Vn, g_Pi, nI_add, Option.bind_some, Option.map_some, Option.bind_none, Option.map_none, List.getElem?_cons_zero, List.getElem?_cons_succ, List.set_cons_zero, List.set_cons_succ, List.cons_append, List.nil_append, List.take_succ_cons, List.take_zero, List.length_cons, List.length_nil, Nat.zero_add, Nat.reduceAdd, Nat.reduceLT, if_true, if_false, Bool.false_eq_true, Bool.true_eq_false, decide_eq_true_eq, decide_true, decide_false, Bool.not_true, Bool.not_false, Option.isNone_none, Option.isNone_some, Option.isSome_none, Option.isSome_some, ite_true, ite_false, reduceIte, reduceCtorEq, and_true, true_and, eq_self, Option.some.injEq, Sum.inr.injEq, Sum.inl.injEq, Prod.mk.injEq, Bool.decide_eq_true, n0_ne, n1_ne, xz_ret, zb_if, n1_if, n0_if, v_rf, h_ix_nI, nI_clamp, zB_t, zB_f, uN_uN, uN_ap, Nat.reduceEqDiff, Nat.reduceMul, Nat.reduceSub, mp_o hσ, mF_len, mp_a1 hσ, mp_a2 hσ, mp_a3 hσ, mp_a4 hσ, mp_a5 hσ, mp_a6 hσ, mp_a7 hσ, mp_a8 hσ, mp_a9 hσ, mp_a10 hσ, mp_a11 hσ, mp_s0 hσ, mp_s1 hσ, mp_s2 hσ, mp_s3 hσ, mp_s4 hσ, mp_s5 hσ, mp_s6 hσ, mp_s7 hσ, mp_s8 hσ, mp_s9 hσ, mp_s10 hσ, mp_s11 hσ, mg0, mg1, mg2, mg3, mg4, mg5, mg6, mg7, mg8, mg9, mg10, mg11, mg12, mg13, mg14, mg15, mg16, mg17, ms5, ms6, ms7, ms9, ms10, ms13, ms14, g_isSettled hσ h, hs]
    · have h2 := stl_len hs
      have hk12 : k < 12 := by
        rcases Nat.lt_or_ge k 12 with q | q
        · exact q
        · exact absurd (last_stl hL (by omega)) hs
      have hs' : stl S = false := by cases c : stl S with | false => rfl | true => exact absurd c hs
      have hC : C_X9_rounds_2 [.ref 60, .int (nI n)] (mp σ M) = some (true, mp σ M) := by
        simp (disch := omega) only [x_k, x_i, x_r, x_nil, x_add, x_sub, x_mul, x_div, x_rem, x_get, x_getR, x_ald, x_aldR, x_len, x_lenR, x_if, xa_nil, xa_ci, xa_cr, x_callI, x_callR, x_new, x_newa, x_newq, x_max, x_min, xc_cmp, xc_cmp0, xc_null, xc_nn, xc_not, xc_and, xc_or, xc_if, xs_skip, xs_seq, xs_decI, xs_decR, xs_setI, xs_inc, xs_if, xs_blk, xs_retI, xs_retB, xs_retR, xs_retD, xs_ret0, xs_putI, xs_putZ, xs_putR, xs_putop, xs_ast, xs_astop, xs_astR, xs_callV, xs_callP, xs_super, xs_sw, s_go_inl, s_go_inr, s_cut_inl, s_cut_inr, o_void_n, v_i_int, v_i_none, v_r_ref, v_r_null, v_r_rf, h_set_some, o_some_s, zB_ne0, zB_ite, zB_ite2, g_Vn, g_Pi, nI_add, Option.bind_some, Option.map_some, Option.bind_none, Option.map_none, List.getElem?_cons_zero, List.getElem?_cons_succ, List.set_cons_zero, List.set_cons_succ, List.cons_append, List.nil_append, List.take_succ_cons, List.take_zero, List.length_cons, List.length_nil, Nat.zero_add, Nat.reduceAdd, Nat.reduceLT, if_true, if_false, Bool.false_eq_true, Bool.true_eq_false, decide_eq_true_eq, decide_true, decide_false, Bool.not_true, Bool.not_false, Option.isNone_none, Option.isNone_some, Option.isSome_none, Option.isSome_some, ite_true, ite_false, reduceIte, reduceCtorEq, and_true, true_and, eq_self, Option.some.injEq, Sum.inr.injEq, Sum.inl.injEq, Prod.mk.injEq, Bool.decide_eq_true, n0_ne, n1_ne, xz_ret, zb_if, n1_if, n0_if, v_rf, h_ix_nI, nI_clamp, zB_t, zB_f, uN_uN, uN_ap, Nat.reduceEqDiff, Nat.reduceMul, Nat.reduceSub, mp_o hσ, mF_len, mp_a1 hσ, mp_a2 hσ, mp_a3 hσ, mp_a4 hσ, mp_a5 hσ, mp_a6 hσ, mp_a7 hσ, mp_a8 hσ, mp_a9 hσ, mp_a10 hσ, mp_a11 hσ, mp_s0 hσ, mp_s1 hσ, mp_s2 hσ, mp_s3 hσ, mp_s4 hσ, mp_s5 hσ, mp_s6 hσ, mp_s7 hσ, mp_s8 hσ, mp_s9 hσ, mp_s10 hσ, mp_s11 hσ, mg0, mg1, mg2, mg3, mg4, mg5, mg6, mg7, mg8, mg9, mg10, mg11, mg12, mg13, mg14, mg15, mg16, mg17, ms5, ms6, ms7, ms9, ms10, ms13, ms14, g_isSettled hσ h, hs']
      obtain ⟨f1, a1, a2⟩ := g_round1 hσ (nI n) (S.1.length - 1) 0 M S h (by omega) s_FUEL (by unfold s_FUEL; omega)
      have e : sirF (d + 1) S = (rndF (S.1.length - 1) 0 S).bind fun T => (sirF d T).map fun r => (r.1 + 1, r.2) := if_neg hs
      cases hr : rndF (S.1.length - 1) 0 S with
      | none =>
        rw [hr] at e
        have e : sirF (d + 1) S = none := e
        have w : s_while C_X9_rounds_1 W_X9_rounds_1 [.ref 60, .int (nI n), .int (nI 0)] (mp σ M) = _ := a2 hr
        have hS : W_X9_rounds_2 [.ref 60, .int (nI n)] (mp σ M) = some (.inl (some (.int (-3)), mp σ (mS M f1))) := by
          simp only [x_k, x_i, x_r, x_nil, x_add, x_sub, x_mul, x_div, x_rem, x_get, x_getR, x_ald, x_aldR, x_len, x_lenR, x_if, xa_nil, xa_ci, xa_cr, x_callI, x_callR, x_new, x_newa, x_newq, x_max, x_min, xc_cmp, xc_cmp0, xc_null, xc_nn, xc_not, xc_and, xc_or, xc_if, xs_skip, xs_seq, xs_decI, xs_decR, xs_setI, xs_inc, xs_if, xs_blk, xs_retI, xs_retB, xs_retR, xs_retD, xs_ret0, xs_putI, xs_putZ, xs_putR, xs_putop, xs_ast, xs_astop, xs_astR, xs_callV, xs_callP, xs_super, xs_sw, s_go_inl, s_go_inr, s_cut_inl, s_cut_inr, o_void_n, v_i_int, v_i_none, v_r_ref, v_r_null, v_r_rf, h_set_some, o_some_s, zB_ne0, zB_ite, zB_ite2, g_Vn, g_Pi, nI_add, Option.bind_some, Option.map_some, Option.bind_none, Option.map_none, List.getElem?_cons_zero, List.getElem?_cons_succ, List.set_cons_zero, List.set_cons_succ, List.cons_append, List.nil_append, List.take_succ_cons, List.take_zero, List.length_cons, List.length_nil, Nat.zero_add, Nat.reduceAdd, Nat.reduceLT, if_true, if_false, Bool.false_eq_true, Bool.true_eq_false, decide_eq_true_eq, decide_true, decide_false, Bool.not_true, Bool.not_false, Option.isNone_none, Option.isNone_some, Option.isSome_none, Option.isSome_some, ite_true, ite_false, reduceIte, reduceCtorEq, and_true, true_and, eq_self, Option.some.injEq, Sum.inr.injEq, Sum.inl.injEq, Prod.mk.injEq, w]
        exact ⟨f1, fun T hT => (by rw [e] at hT; cases hT), fun _ => wh_R hC hS⟩
      | some T =>
        rw [hr] at e
        have e : sirF (d + 1) S = (sirF d T).map fun r => (r.1 + 1, r.2) := e
        obtain ⟨w, hT⟩ := a1 T hr
        obtain ⟨lT, pT⟩ := last_round hr (by omega) hL
        have w : s_while C_X9_rounds_1 W_X9_rounds_1 [.ref 60, .int (nI n), .int (nI 0)] (mp σ M) = _ := w
        have hS : W_X9_rounds_2 [.ref 60, .int (nI n)] (mp σ M) = some (.inr ([.ref 60, .int (nI (n + 1))], mp σ (mS M f1))) := by
          simp only [x_k, x_i, x_r, x_nil, x_add, x_sub, x_mul, x_div, x_rem, x_get, x_getR, x_ald, x_aldR, x_len, x_lenR, x_if, xa_nil, xa_ci, xa_cr, x_callI, x_callR, x_new, x_newa, x_newq, x_max, x_min, xc_cmp, xc_cmp0, xc_null, xc_nn, xc_not, xc_and, xc_or, xc_if, xs_skip, xs_seq, xs_decI, xs_decR, xs_setI, xs_inc, xs_if, xs_blk, xs_retI, xs_retB, xs_retR, xs_retD, xs_ret0, xs_putI, xs_putZ, xs_putR, xs_putop, xs_ast, xs_astop, xs_astR, xs_callV, xs_callP, xs_super, xs_sw, s_go_inl, s_go_inr, s_cut_inl, s_cut_inr, o_void_n, v_i_int, v_i_none, v_r_ref, v_r_null, v_r_rf, h_set_some, o_some_s, zB_ne0, zB_ite, zB_ite2, g_Vn, g_Pi, nI_add, Option.bind_some, Option.map_some, Option.bind_none, Option.map_none, List.getElem?_cons_zero, List.getElem?_cons_succ, List.set_cons_zero, List.set_cons_succ, List.cons_append, List.nil_append, List.take_succ_cons, List.take_zero, List.length_cons, List.length_nil, Nat.zero_add, Nat.reduceAdd, Nat.reduceLT, if_true, if_false, Bool.false_eq_true, Bool.true_eq_false, decide_eq_true_eq, decide_true, decide_false, Bool.not_true, Bool.not_false, Option.isNone_none, Option.isNone_some, Option.isSome_none, Option.isSome_some, ite_true, ite_false, reduceIte, reduceCtorEq, and_true, true_and, eq_self, Option.some.injEq, Sum.inr.injEq, Sum.inl.injEq, Prod.mk.injEq, w]
        obtain ⟨f2, b1, b2⟩ := ih (k + 1) (n + 1) (mS M f1) T hT pT (by omega) (by omega) F (by omega)
        rw [mS_mS] at b1 b2
        refine ⟨f2, fun r hr2 => ?_, fun hr2 => ?_⟩
        · rw [e] at hr2
          cases hq : sirF d T with
          | none => rw [hq] at hr2; cases hr2
          | some q =>
            rw [hq] at hr2
            cases hr2
            obtain ⟨c1, c2⟩ := b1 q hq
            refine ⟨(wh_T hC hS).trans (c1.trans ?_), c2⟩
            rw [show n + 1 + q.1 = n + (q.1 + 1) by omega]
        · rw [e] at hr2
          cases hq : sirF d T with
          | none => exact (wh_T hC hS).trans (b2 hq)
          | some q => rw [hq] at hr2; cases hr2
theorem sir_le : ∀ (d : Nat) (S : tS) (r : Nat × tS), sirF d S = some r → r.1 ≤ d := by
  intro d
  induction d with
  | zero => intro S r h; cases h
  | succ d ih =>
    intro S r h
    unfold sirF at h
    split at h
    · cases h; exact Nat.zero_le _
    · cases hr : rndF (S.1.length - 1) 0 S with
      | none => rw [hr] at h; cases h
      | some T =>
        rw [hr] at h
        have h : (sirF d T).map (fun r => (r.1 + 1, r.2)) = some r := h
        cases hq : sirF d T with
        | none => rw [hq] at h; cases h
        | some q =>
          rw [hq] at h
          cases h
          have := ih T q hq
          show q.1 + 1 ≤ d + 1
          omega
theorem g_rounds (hσ : 72 ≤ σ.1.length) (h : SRow (M.2 1) S) : ∃ f', M_X9_rounds [.ref 60] (mp σ M) = some (some (.int (dSettle S).1), mp σ (mS M f')) ∧ (i_lt (dSettle S).1 0 = false → SRow f' (dSettle S).2) := by
  obtain ⟨f', a1, a2⟩ := g_roundsF hσ 13 0 0 M S h (fun j h1 h2 => by omega) (by omega) (by omega) s_FUEL (by unfold s_FUEL; omega)
  unfold dSettle
  cases hr : sirF 13 S with
  | none =>
    have w : s_while C_X9_rounds_2 W_X9_rounds_2 [.ref 60, .int (nI 0)] (mp σ M) = _ := a2 hr
    refine ⟨f', mV_eq (mp_at (k := 0) hσ rfl) rfl rfl ?_, fun z => (by cases z)⟩
    unfold B_X9_rounds
    simp only [x_k, x_i, x_r, x_nil, x_add, x_sub, x_mul, x_div, x_rem, x_get, x_getR, x_ald, x_aldR, x_len, x_lenR, x_if, xa_nil, xa_ci, xa_cr, x_callI, x_callR, x_new, x_newa, x_newq, x_max, x_min, xc_cmp, xc_cmp0, xc_null, xc_nn, xc_not, xc_and, xc_or, xc_if, xs_skip, xs_seq, xs_decI, xs_decR, xs_setI, xs_inc, xs_if, xs_blk, xs_retI, xs_retB, xs_retR, xs_retD, xs_ret0, xs_putI, xs_putZ, xs_putR, xs_putop, xs_ast, xs_astop, xs_astR, xs_callV, xs_callP, xs_super, xs_sw, s_go_inl, s_go_inr, s_cut_inl, s_cut_inr, o_void_n, v_i_int, v_i_none, v_r_ref, v_r_null, v_r_rf, h_set_some, o_some_s, zB_ne0, zB_ite, zB_ite2, g_Vn, g_Pi, nI_add, Option.bind_some, Option.map_some, Option.bind_none, Option.map_none, List.getElem?_cons_zero, List.getElem?_cons_succ, List.set_cons_zero, List.set_cons_succ, List.cons_append, List.nil_append, List.take_succ_cons, List.take_zero, List.length_cons, List.length_nil, Nat.zero_add, Nat.reduceAdd, Nat.reduceLT, if_true, if_false, Bool.false_eq_true, Bool.true_eq_false, decide_eq_true_eq, decide_true, decide_false, Bool.not_true, Bool.not_false, Option.isNone_none, Option.isNone_some, Option.isSome_none, Option.isSome_some, ite_true, ite_false, reduceIte, reduceCtorEq, and_true, true_and, eq_self, Option.some.injEq, Sum.inr.injEq, Sum.inl.injEq, Prod.mk.injEq, w]
  | some r =>
    obtain ⟨w, hf⟩ := a1 r hr
    rw [Nat.zero_add] at w
    have w : s_while C_X9_rounds_2 W_X9_rounds_2 [.ref 60, .int (nI 0)] (mp σ M) = _ := w
    refine ⟨f', mV_eq (mp_at (k := 0) hσ rfl) rfl rfl ?_, fun _ => hf⟩
    unfold B_X9_rounds
    simp only [x_k, x_i, x_r, x_nil, x_add, x_sub, x_mul, x_div, x_rem, x_get, x_getR, x_ald, x_aldR, x_len, x_lenR, x_if, xa_nil, xa_ci, xa_cr, x_callI, x_callR, x_new, x_newa, x_newq, x_max, x_min, xc_cmp, xc_cmp0, xc_null, xc_nn, xc_not, xc_and, xc_or, xc_if, xs_skip, xs_seq, xs_decI, xs_decR, xs_setI, xs_inc, xs_if, xs_blk, xs_retI, xs_retB, xs_retR, xs_retD, xs_ret0, xs_putI, xs_putZ, xs_putR, xs_putop, xs_ast, xs_astop, xs_astR, xs_callV, xs_callP, xs_super, xs_sw, s_go_inl, s_go_inr, s_cut_inl, s_cut_inr, o_void_n, v_i_int, v_i_none, v_r_ref, v_r_null, v_r_rf, h_set_some, o_some_s, zB_ne0, zB_ite, zB_ite2, g_Vn, g_Pi, nI_add, Option.bind_some, Option.map_some, Option.bind_none, Option.map_none, List.getElem?_cons_zero, List.getElem?_cons_succ, List.set_cons_zero, List.set_cons_succ, List.cons_append, List.nil_append, List.take_succ_cons, List.take_zero, List.length_cons, List.length_nil, Nat.zero_add, Nat.reduceAdd, Nat.reduceLT, if_true, if_false, Bool.false_eq_true, Bool.true_eq_false, decide_eq_true_eq, decide_true, decide_false, Bool.not_true, Bool.not_false, Option.isNone_none, Option.isNone_some, Option.isSome_none, Option.isSome_some, ite_true, ite_false, reduceIte, reduceCtorEq, and_true, true_and, eq_self, Option.some.injEq, Sum.inr.injEq, Sum.inl.injEq, Prod.mk.injEq, w]
theorem g_settle {V : tV} (hσ : 72 ≤ σ.1.length) (h : MV M V) : ∃ M', M_X9_settle [.ref 60] (mp σ M) = some (some (.int (wrap V (dSettle V.1)).1), mp σ M') ∧ MV M' (wrap V (dSettle V.1)).2 := by
  have pA := g_putsAside (M := M) hσ
  obtain ⟨M1, hM1⟩ : ∃ M1 : tM, M1 = (M.1, uN M.2 4 (fun z => if z < 1245 then M.2 1 z else M.2 4 z)) := ⟨_, rfl⟩
  rw [← hM1] at pA
  have h1 : MV M1 V := by rw [hM1]; exact h
  obtain ⟨f1, r1, hf1⟩ := g_rounds hσ h1.2.2.1
  have pB := g_putsBack (M := mS M1 f1) hσ
  rw [mS_mS] at pB
  obtain ⟨f2, hf2⟩ : ∃ f2, f2 = (fun z => if z < 1245 then (mS M1 f1).2 4 z else (mS M1 f1).2 1 z) := ⟨_, rfl⟩
  rw [← hf2] at pB
  have s2 : SRow f2 V.1 := h.2.2.1.congr (fun z hz => by
    rw [hf2, hM1]
    show (if z < 1245 then (if z < 1245 then M.2 1 z else _) else _) = _
    rw [if_pos hz, if_pos hz])
  have h2 : MV (mS M1 f2) V := h1.mS s2
  rw [wrap_1]
  unfold wrap
  cases c : i_lt (dSettle V.1).1 0 with
  | true =>
    refine ⟨mS M1 f2, mV_eq (mp_at (k := 0) hσ rfl) rfl rfl ?_, h2⟩
    unfold B_X9_settle
    simp only [x_k, x_i, x_r, x_nil, x_add, x_sub, x_mul, x_div, x_rem, x_get, x_getR, x_ald, x_aldR, x_len, x_lenR, x_if, xa_nil, xa_ci, xa_cr, x_callI, x_callR, x_new, x_newa, x_newq, x_max, x_min, xc_cmp, xc_cmp0, xc_null, xc_nn, xc_not, xc_and, xc_or, xc_if, xs_skip, xs_seq, xs_decI, xs_decR, xs_setI, xs_inc, xs_if, xs_blk, xs_retI, xs_retB, xs_retR, xs_retD, xs_ret0, xs_putI, xs_putZ, xs_putR, xs_putop, xs_ast, xs_astop, xs_astR, xs_callV, xs_callP, xs_super, xs_sw, s_go_inl, s_go_inr, s_cut_inl, s_cut_inr, o_void_n, v_i_int, v_i_none, v_r_ref, v_r_null, v_r_rf, h_set_some, o_some_s, zB_ne0, zB_ite, zB_ite2, g_Vn, g_Pi, nI_add, Option.bind_some, Option.map_some, Option.bind_none, Option.map_none, List.getElem?_cons_zero, List.getElem?_cons_succ, List.set_cons_zero, List.set_cons_succ, List.cons_append, List.nil_append, List.take_succ_cons, List.take_zero, List.length_cons, List.length_nil, Nat.zero_add, Nat.reduceAdd, Nat.reduceLT, if_true, if_false, Bool.false_eq_true, Bool.true_eq_false, decide_eq_true_eq, decide_true, decide_false, Bool.not_true, Bool.not_false, Option.isNone_none, Option.isNone_some, Option.isSome_none, Option.isSome_some, ite_true, ite_false, reduceIte, reduceCtorEq, and_true, true_and, eq_self, Option.some.injEq, Sum.inr.injEq, Sum.inl.injEq, Prod.mk.injEq, Bool.decide_eq_true, n0_ne, n1_ne, xz_ret, zb_if, n1_if, n0_if, v_rf, h_ix_nI, nI_clamp, zB_t, zB_f, uN_uN, uN_ap, Nat.reduceEqDiff, Nat.reduceMul, Nat.reduceSub, mp_o hσ, mF_len, mp_a1 hσ, mp_a2 hσ, mp_a3 hσ, mp_a4 hσ, mp_a5 hσ, mp_a6 hσ, mp_a7 hσ, mp_a8 hσ, mp_a9 hσ, mp_a10 hσ, mp_a11 hσ, mp_s0 hσ, mp_s1 hσ, mp_s2 hσ, mp_s3 hσ, mp_s4 hσ, mp_s5 hσ, mp_s6 hσ, mp_s7 hσ, mp_s8 hσ, mp_s9 hσ, mp_s10 hσ, mp_s11 hσ, mg0, mg1, mg2, mg3, mg4, mg5, mg6, mg7, mg8, mg9, mg10, mg11, mg12, mg13, mg14, mg15, mg16, mg17, ms5, ms6, ms7, ms9, ms10, ms13, ms14, pA, r1, pB, c]
  | false =>
    obtain ⟨M3, r3, h3, e3⟩ := g_change hσ h2
    obtain ⟨f4, r4, hf4⟩ := g_rounds hσ h3.2.2.1
    have e : (chg V V.1).1 = V.1 := rfl
    rw [e] at r4 hf4
    refine ⟨mS M3 f4, mV_eq (mp_at (k := 0) hσ rfl) rfl rfl ?_, h3.mS (hf4 c)⟩
    unfold B_X9_settle
    simp only [x_k, x_i, x_r, x_nil, x_add, x_sub, x_mul, x_div, x_rem, x_get, x_getR, x_ald, x_aldR, x_len, x_lenR, x_if, xa_nil, xa_ci, xa_cr, x_callI, x_callR, x_new, x_newa, x_newq, x_max, x_min, xc_cmp, xc_cmp0, xc_null, xc_nn, xc_not, xc_and, xc_or, xc_if, xs_skip, xs_seq, xs_decI, xs_decR, xs_setI, xs_inc, xs_if, xs_blk, xs_retI, xs_retB, xs_retR, xs_retD, xs_ret0, xs_putI, xs_putZ, xs_putR, xs_putop, xs_ast, xs_astop, xs_astR, xs_callV, xs_callP, xs_super, xs_sw, s_go_inl, s_go_inr, s_cut_inl, s_cut_inr, o_void_n, v_i_int, v_i_none, v_r_ref, v_r_null, v_r_rf, h_set_some, o_some_s, zB_ne0, zB_ite, zB_ite2, g_Vn, g_Pi, nI_add, Option.bind_some, Option.map_some, Option.bind_none, Option.map_none, List.getElem?_cons_zero, List.getElem?_cons_succ, List.set_cons_zero, List.set_cons_succ, List.cons_append, List.nil_append, List.take_succ_cons, List.take_zero, List.length_cons, List.length_nil, Nat.zero_add, Nat.reduceAdd, Nat.reduceLT, if_true, if_false, Bool.false_eq_true, Bool.true_eq_false, decide_eq_true_eq, decide_true, decide_false, Bool.not_true, Bool.not_false, Option.isNone_none, Option.isNone_some, Option.isSome_none, Option.isSome_some, ite_true, ite_false, reduceIte, reduceCtorEq, and_true, true_and, eq_self, Option.some.injEq, Sum.inr.injEq, Sum.inl.injEq, Prod.mk.injEq, Bool.decide_eq_true, n0_ne, n1_ne, xz_ret, zb_if, n1_if, n0_if, v_rf, h_ix_nI, nI_clamp, zB_t, zB_f, uN_uN, uN_ap, Nat.reduceEqDiff, Nat.reduceMul, Nat.reduceSub, mp_o hσ, mF_len, mp_a1 hσ, mp_a2 hσ, mp_a3 hσ, mp_a4 hσ, mp_a5 hσ, mp_a6 hσ, mp_a7 hσ, mp_a8 hσ, mp_a9 hσ, mp_a10 hσ, mp_a11 hσ, mp_s0 hσ, mp_s1 hσ, mp_s2 hσ, mp_s3 hσ, mp_s4 hσ, mp_s5 hσ, mp_s6 hσ, mp_s7 hσ, mp_s8 hσ, mp_s9 hσ, mp_s10 hσ, mp_s11 hσ, mg0, mg1, mg2, mg3, mg4, mg5, mg6, mg7, mg8, mg9, mg10, mg11, mg12, mg13, mg14, mg15, mg16, mg17, ms5, ms6, ms7, ms9, ms10, ms13, ms14, pA, r1, pB, c, r3, r4]
end
