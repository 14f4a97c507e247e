/-! areAccounts (own work) -/
theorem prI_91 : prI (nI 91) = false := by decide +kernel
theorem prI_1 : prI (nI 1) = false := by decide +kernel
theorem rPrime_no {S : tS} {x y : Int32} (h : prI x = false ∨ inB y (nI 0) (nI 4) = false) : rPrime S x y = -1 := by
  unfold rPrime
  rcases h with h | h
  · rw [h, Bool.false_and, if_neg Bool.false_ne_true]
  · rw [h, Bool.and_false, if_neg Bool.false_ne_true]
theorem rPrime_b {q y : Nat} (hq : isPr q) (h9 : q ≤ 9999) (hy : y ≤ 4) : (prI (nI q) && inB (nI y) (nI 0) (nI 4)) = true := by
  rw [prI_n hq h9, inB_n (by omega) (by omega) (by omega), decide_eq_true (Nat.zero_le y), decide_eq_true hy]
  rfl
theorem rPrime_0 {S : tS} {q : Nat} (hq : isPr q) (h9 : q ≤ 9999) : rPrime S (nI q) (nI 0) = sCh S q := by
  unfold rPrime
  rw [if_pos (rPrime_b hq h9 (by omega)), if_pos rfl, nN_n (by omega)]
theorem rPrime_1 {S : tS} {q : Nat} (hq : isPr q) (h9 : q ≤ 9999) : rPrime S (nI q) (nI 1) = came S q := by
  unfold rPrime
  rw [if_pos (rPrime_b hq h9 (by omega)), if_neg (by decide), if_pos rfl, nN_n (by omega)]
theorem rPrime_2 {S : tS} {q : Nat} (hq : isPr q) (h9 : q ≤ 9999) : rPrime S (nI q) (nI 2) = nI (sumN (fun k => ex q (sN S k)) S.1.length) := by
  unfold rPrime
  rw [if_pos (rPrime_b hq h9 (by omega)), if_neg (by decide), if_neg (by decide), if_pos rfl, nN_n (by omega)]
theorem rPrime_3 {S : tS} {q : Nat} (hq : isPr q) (h9 : q ≤ 9999) : rPrime S (nI q) (nI 3) = nI (maxN (fun k => ex q (sN S k)) S.1.length) := by
  unfold rPrime
  rw [if_pos (rPrime_b hq h9 (by omega)), if_neg (by decide), if_neg (by decide), if_neg (by decide), if_pos rfl, nN_n (by omega)]
theorem rPrime_4 {S : tS} {q : Nat} (hq : isPr q) (h9 : q ≤ 9999) : rPrime S (nI q) (nI 4) = nI (cnt (fun k => decide (sN S k % q = 0)) S.1.length) := by
  unfold rPrime
  rw [if_pos (rPrime_b hq h9 (by omega)), if_neg (by decide), if_neg (by decide), if_neg (by decide), if_neg (by decide), nN_n (by omega)]
/-- over the first f of the 25 -/
def acC (S : tS) (f : Nat) : Int32 := sumF (sCh S) (P25.take f)
def acK (S : tS) (f : Nat) : Nat := (P25.take f).countP (fun q => isPos (sCh S q))
def acD (S : tS) (f : Nat) : Nat := (P25.take f).countP (fun q => below S S.1.length q)
theorem P25_at {f : Nat} (h : f < 25) : P25[f]? = some (p25 f) := by
  have hl : f < P25.length := h
  unfold p25
  rw [List.getD_eq_getElem?_getD, List.getElem?_eq_getElem hl]
  rfl
theorem acC_s (S : tS) {f : Nat} (h : f < 25) : acC S (f + 1) = acC S f + sCh S (p25 f) := sumF_take (P25_at h)
theorem cntP_s (P : Nat → Bool) {f : Nat} (h : f < 25) : (P25.take (f + 1)).countP P = (P25.take f).countP P + if P (p25 f) = true then 1 else 0 := by
  rw [List.take_add_one, List.countP_append, P25_at h]
  show _ + List.countP P [p25 f] = _
  rw [List.countP_singleton]
theorem P25_PRS : ∀ q ∈ P25, q ∈ PRS := fun q hq => by
  obtain ⟨k, hk, rfl⟩ := p25_of hq
  have := p25_ok k hk
  exact mem_PRS.mpr ⟨p25_pr hk, by omega⟩
theorem ac_all {S : tS} (ok : okS S) (h : L25 S) : acC S 25 = rChips S ∧ acK S 25 = rKinds S ∧ acD S 25 = dpN S := by
  refine ⟨?_, ?_, ?_⟩
  · exact sumF_sub P25 PRS P25_nodup PRS_nodup P25_PRS (fun q hq hn => h.2 q (mem_PRS.mp hq).1 hn)
  · exact countP_sub P25 PRS P25_nodup PRS_nodup P25_PRS (fun q hq hn => by rw [h.2 q (mem_PRS.mp hq).1 hn]; decide)
  · have e : dpN S = PRS.countP (fun p => below S S.1.length p) := dpN_count ok S.1.length
    rw [e]
    refine countP_sub P25 PRS P25_nodup PRS_nodup P25_PRS (fun q hq hn => decide_eq_false (fun ⟨k, hk, z⟩ => hn ?_))
    exact h.nu k q (mem_PRS.mp hq).1 (Nat.dvd_of_mod_eq_zero z)
/-- how many are divided, and if any -/
theorem below_cnt (S : tS) {q : Nat} : (0 < cnt (fun k => decide (0 < ex q (sN S k))) S.1.length ↔ ∃ k, k < S.1.length ∧ 0 < ex q (sN S k)) := by
  rw [cnt_pos]
  constructor
  · exact fun ⟨k, hk, z⟩ => ⟨k, hk, of_decide_eq_true z⟩
  · exact fun ⟨k, hk, z⟩ => ⟨k, hk, decide_eq_true z⟩
theorem cnt_dv {S : tS} (ok : okS S) {q : Nat} (h2 : 2 ≤ q) : cnt (fun k => decide (0 < ex q (sN S k))) S.1.length = cnt (fun k => decide (sN S k % q = 0)) S.1.length := cnt_congr _ (fun k _ => decide_eq_decide.mpr ((ex_dvd h2 (sN_ok ok k).1).trans ⟨Nat.mod_eq_zero_of_dvd, Nat.dvd_of_mod_eq_zero⟩))
theorem below_is {S : tS} (ok : okS S) {q : Nat} (h2 : 2 ≤ q) : below S S.1.length q = decide (0 < cnt (fun k => decide (sN S k % q = 0)) S.1.length) := by
  unfold below
  refine decide_eq_decide.mpr ?_
  rw [cnt_pos]
  constructor
  · exact fun ⟨k, hk, z⟩ => ⟨k, hk, decide_eq_true z⟩
  · exact fun ⟨k, hk, z⟩ => ⟨k, hk, of_decide_eq_true z⟩
section
variable {σ : sSt} {M : tM} {V : tV}
theorem la1 (w : LW σ M) (hr : ∀ j, j < 25 → M 4 j = nI (p25 j)) (hn : LN V.1 M) {k : Nat} (hk : k < 25) (p6 p7 p8 p9 : Int32) : s_while C_L_areAccounts_1 W_L_areAccounts_1 [.ref 0, .ref 60, .ref 61, .ref 62, .ref 63, .ref 64, .int p6, .int p7, .int p8, .int p9, .int (nI k), .int (nI 0), .int (nI 0), .int (nI 0), .int (nI 0)] σ = some (.inr ([.ref 0, .ref 60, .ref 61, .ref 62, .ref 63, .ref 64, .int p6, .int p7, .int p8, .int p9, .int (nI k), .int (nI (sumN (fun j => ex (p25 k) (sN V.1 j)) V.1.1.length)), .int (nI (maxN (fun j => ex (p25 k) (sN V.1 j)) V.1.1.length)), .int (nI (cnt (fun j => decide (0 < ex (p25 k) (sN V.1 j))) V.1.1.length)), .int (nI V.1.1.length)], σ)) := by
  have ok := hn.1
  have hl := ok.1
  have hz := hn.z
  have pk := p25_ok k hk
  have rk := hr k hk
  refine wh_up (fun j => ([.ref 0, .ref 60, .ref 61, .ref 62, .ref 63, .ref 64, .int p6, .int p7, .int p8, .int p9, .int (nI k), .int (nI (sumN (fun j => ex (p25 k) (sN V.1 j)) j)), .int (nI (maxN (fun j => ex (p25 k) (sN V.1 j)) j)), .int (nI (cnt (fun j => decide (0 < ex (p25 k) (sN V.1 j))) j)), .int (nI j)], σ)) 0 V.1.1.length rfl (Nat.zero_le _) (by omega) (fun j h1 h2 => ⟨?_, ?_⟩) ?_
  · show C_L_areAccounts_1 [.ref 0, .ref 60, .ref 61, .ref 62, .ref 63, .ref 64, .int p6, .int p7, .int p8, .int p9, .int (nI k), .int (nI (sumN (fun j => ex (p25 k) (sN V.1 j)) j)), .int (nI (maxN (fun j => ex (p25 k) (sN V.1 j)) j)), .int (nI (cnt (fun j => decide (0 < ex (p25 k) (sN V.1 j))) j)), .int (nI j)] σ = some (true, σ)
    simp (disch := omega) only [x_and, x_or, x_shl, x_shr, x_k, x_i, x_r, x_nil, x_add, x_sub, x_mul, x_div, x_rem, x_get, x_getR, x_ald, x_aldR, x_len, x_lenR, x_if, xa_nil, xa_ci, xa_cr, x_callI, x_callR, x_new, x_newa, x_newq, x_max, x_min, xc_cmp, xc_cmp0, xc_null, xc_nn, xc_not, xc_and, xc_or, xc_if, xs_skip, xs_seq, xs_decI, xs_decR, xs_setI, xs_inc, xs_if, xs_blk, xs_retI, xs_retB, xs_retR, xs_retD, xs_ret0, xs_putI, xs_putZ, xs_putR, xs_putop, xs_ast, xs_astop, xs_astR, xs_callV, xs_callP, xs_super, xs_sw, s_go_inl, s_go_inr, s_cut_inl, s_cut_inr, o_void_n, v_i_int, v_i_none, v_r_ref, v_r_null, v_r_rf, h_set_some, o_some_s, zB_ne0, zB_ite, zB_ite2, g_Vn, g_Pi, nI_add, Option.bind_some, Option.map_some, Option.bind_none, Option.map_none, List.getElem?_cons_zero, List.getElem?_cons_succ, List.set_cons_zero, List.set_cons_succ, List.cons_append, List.nil_append, List.take_succ_cons, List.take_zero, List.length_cons, List.length_nil, Nat.zero_add, Nat.reduceAdd, Nat.reduceLT, if_true, if_false, Bool.false_eq_true, Bool.true_eq_false, decide_eq_true_eq, decide_true, decide_false, Bool.not_true, Bool.not_false, Option.isNone_none, Option.isNone_some, Option.isSome_none, Option.isSome_some, ite_true, ite_false, reduceIte, reduceCtorEq, and_true, true_and, eq_self, Option.some.injEq, Sum.inr.injEq, Sum.inl.injEq, Prod.mk.injEq, not_true_eq_false, not_false_eq_true, Bool.decide_eq_true, n0_ne, n1_ne, xz_ret, zb_if, n1_if, n0_if, v_rf, h_ix_nI, nI_clamp, zB_t, zB_f, uN_uN, uN_ap, Nat.reduceEqDiff, Nat.reduceMul, Nat.reduceSub, w.1, w.2.1, w.2.2.1, w.2.2.2.1, w.2.2.2.2, hz, j_lt, h2]
  · show W_L_areAccounts_1 [.ref 0, .ref 60, .ref 61, .ref 62, .ref 63, .ref 64, .int p6, .int p7, .int p8, .int p9, .int (nI k), .int (nI (sumN (fun j => ex (p25 k) (sN V.1 j)) j)), .int (nI (maxN (fun j => ex (p25 k) (sN V.1 j)) j)), .int (nI (cnt (fun j => decide (0 < ex (p25 k) (sN V.1 j))) j)), .int (nI j)] σ = some (.inr ([.ref 0, .ref 60, .ref 61, .ref 62, .ref 63, .ref 64, .int p6, .int p7, .int p8, .int p9, .int (nI k), .int (nI (sumN (fun j => ex (p25 k) (sN V.1 j)) j + ex (p25 k) (sN V.1 j))), .int (nI (max (maxN (fun j => ex (p25 k) (sN V.1 j)) j) (ex (p25 k) (sN V.1 j)))), .int (nI (cnt (fun j => decide (0 < ex (p25 k) (sN V.1 j))) (j + 1))), .int (nI (j + 1))], σ))
    have b1 := sN_ok ok j
    have nj := hn.nu h2
    have le := l_exponent (σ := σ) b1.1 b1.2 pk.1 (show p25 k < 2 ^ 31 by omega)
    have x13 := ex_le13 (p := p25 k) b1.2
    have m13 : maxN (fun j => ex (p25 k) (sN V.1 j)) j ≤ 13 := maxN_le j (fun i _ => ex_le13 (sN_ok ok i).2)
    rw [cnt_succ]
    simp (disch := omega) only [x_and, x_or, x_shl, x_shr, x_k, x_i, x_r, x_nil, x_add, x_sub, x_mul, x_div, x_rem, x_get, x_getR, x_ald, x_aldR, x_len, x_lenR, x_if, xa_nil, xa_ci, xa_cr, x_callI, x_callR, x_new, x_newa, x_newq, x_max, x_min, xc_cmp, xc_cmp0, xc_null, xc_nn, xc_not, xc_and, xc_or, xc_if, xs_skip, xs_seq, xs_decI, xs_decR, xs_setI, xs_inc, xs_if, xs_blk, xs_retI, xs_retB, xs_retR, xs_retD, xs_ret0, xs_putI, xs_putZ, xs_putR, xs_putop, xs_ast, xs_astop, xs_astR, xs_callV, xs_callP, xs_super, xs_sw, s_go_inl, s_go_inr, s_cut_inl, s_cut_inr, o_void_n, v_i_int, v_i_none, v_r_ref, v_r_null, v_r_rf, h_set_some, o_some_s, zB_ne0, zB_ite, zB_ite2, g_Vn, g_Pi, nI_add, Option.bind_some, Option.map_some, Option.bind_none, Option.map_none, List.getElem?_cons_zero, List.getElem?_cons_succ, List.set_cons_zero, List.set_cons_succ, List.cons_append, List.nil_append, List.take_succ_cons, List.take_zero, List.length_cons, List.length_nil, Nat.zero_add, Nat.reduceAdd, Nat.reduceLT, if_true, if_false, Bool.false_eq_true, Bool.true_eq_false, decide_eq_true_eq, decide_true, decide_false, Bool.not_true, Bool.not_false, Option.isNone_none, Option.isNone_some, Option.isSome_none, Option.isSome_some, ite_true, ite_false, reduceIte, reduceCtorEq, and_true, true_and, eq_self, Option.some.injEq, Sum.inr.injEq, Sum.inl.injEq, Prod.mk.injEq, not_true_eq_false, not_false_eq_true, Bool.decide_eq_true, n0_ne, n1_ne, xz_ret, zb_if, n1_if, n0_if, v_rf, h_ix_nI, nI_clamp, zB_t, zB_f, uN_uN, uN_ap, Nat.reduceEqDiff, Nat.reduceMul, Nat.reduceSub, w.1, w.2.1, w.2.2.1, w.2.2.2.1, w.2.2.2.2, nj, rk, le, j_gt, j_gt0, ite_max, zB_addD]
  · show C_L_areAccounts_1 [.ref 0, .ref 60, .ref 61, .ref 62, .ref 63, .ref 64, .int p6, .int p7, .int p8, .int p9, .int (nI k), .int (nI (sumN (fun j => ex (p25 k) (sN V.1 j)) V.1.1.length)), .int (nI (maxN (fun j => ex (p25 k) (sN V.1 j)) V.1.1.length)), .int (nI (cnt (fun j => decide (0 < ex (p25 k) (sN V.1 j))) V.1.1.length)), .int (nI V.1.1.length)] σ = some (false, σ)
    simp (disch := omega) only [x_and, x_or, x_shl, x_shr, x_k, x_i, x_r, x_nil, x_add, x_sub, x_mul, x_div, x_rem, x_get, x_getR, x_ald, x_aldR, x_len, x_lenR, x_if, xa_nil, xa_ci, xa_cr, x_callI, x_callR, x_new, x_newa, x_newq, x_max, x_min, xc_cmp, xc_cmp0, xc_null, xc_nn, xc_not, xc_and, xc_or, xc_if, xs_skip, xs_seq, xs_decI, xs_decR, xs_setI, xs_inc, xs_if, xs_blk, xs_retI, xs_retB, xs_retR, xs_retD, xs_ret0, xs_putI, xs_putZ, xs_putR, xs_putop, xs_ast, xs_astop, xs_astR, xs_callV, xs_callP, xs_super, xs_sw, s_go_inl, s_go_inr, s_cut_inl, s_cut_inr, o_void_n, v_i_int, v_i_none, v_r_ref, v_r_null, v_r_rf, h_set_some, o_some_s, zB_ne0, zB_ite, zB_ite2, g_Vn, g_Pi, nI_add, Option.bind_some, Option.map_some, Option.bind_none, Option.map_none, List.getElem?_cons_zero, List.getElem?_cons_succ, List.set_cons_zero, List.set_cons_succ, List.cons_append, List.nil_append, List.take_succ_cons, List.take_zero, List.length_cons, List.length_nil, Nat.zero_add, Nat.reduceAdd, Nat.reduceLT, if_true, if_false, Bool.false_eq_true, Bool.true_eq_false, decide_eq_true_eq, decide_true, decide_false, Bool.not_true, Bool.not_false, Option.isNone_none, Option.isNone_some, Option.isSome_none, Option.isSome_some, ite_true, ite_false, reduceIte, reduceCtorEq, and_true, true_and, eq_self, Option.some.injEq, Sum.inr.injEq, Sum.inl.injEq, Prod.mk.injEq, not_true_eq_false, not_false_eq_true, Bool.decide_eq_true, n0_ne, n1_ne, xz_ret, zb_if, n1_if, n0_if, v_rf, h_ix_nI, nI_clamp, zB_t, zB_f, uN_uN, uN_ap, Nat.reduceEqDiff, Nat.reduceMul, Nat.reduceSub, w.1, w.2.1, w.2.2.1, w.2.2.2.1, w.2.2.2.2, hz, j_lt, Nat.lt_irrefl]
theorem la2 (hc : LC V.1 M) (hn : LN V.1 M) (h25 : L25 V.1) : ∀ (d k : Nat) (σ : sSt), WV σ M V → k + d = 25 → ∀ F, d < F → ∃ σ', s_wh C_L_areAccounts_2 W_L_areAccounts_2 F [.ref 0, .ref 60, .ref 61, .ref 62, .ref 63, .ref 64, .int (acC V.1 k), .int (nI (acK V.1 k)), .int (nI (acD V.1 k)), .int (nI 1), .int (nI k)] σ = some (.inr ([.ref 0, .ref 60, .ref 61, .ref 62, .ref 63, .ref 64, .int (acC V.1 25), .int (nI (acK V.1 25)), .int (nI (acD V.1 25)), .int (nI 1), .int (nI 25)], σ')) ∧ WV σ' M V := by
  have ok := hn.1
  have hl := ok.1
  have hz := hn.z
  intro d
  induction d with
  | zero =>
    intro k σ hv hk' F hF
    obtain ⟨F, rfl⟩ : ∃ F', F = F' + 1 := ⟨F - 1, by omega⟩
    rw [Nat.add_zero] at hk'
    subst hk'
    refine ⟨σ, wh_F ?_, hv⟩
    simp (disch := omega) only [x_and, x_or, x_shl, x_shr, x_k, x_i, x_r, x_nil, x_add, x_sub, x_mul, x_div, x_rem, x_get, x_getR, x_ald, x_aldR, x_len, x_lenR, x_if, xa_nil, xa_ci, xa_cr, x_callI, x_callR, x_new, x_newa, x_newq, x_max, x_min, xc_cmp, xc_cmp0, xc_null, xc_nn, xc_not, xc_and, xc_or, xc_if, xs_skip, xs_seq, xs_decI, xs_decR, xs_setI, xs_inc, xs_if, xs_blk, xs_retI, xs_retB, xs_retR, xs_retD, xs_ret0, xs_putI, xs_putZ, xs_putR, xs_putop, xs_ast, xs_astop, xs_astR, xs_callV, xs_callP, xs_super, xs_sw, s_go_inl, s_go_inr, s_cut_inl, s_cut_inr, o_void_n, v_i_int, v_i_none, v_r_ref, v_r_null, v_r_rf, h_set_some, o_some_s, zB_ne0, zB_ite, zB_ite2, g_Vn, g_Pi, nI_add, Option.bind_some, Option.map_some, Option.bind_none, Option.map_none, List.getElem?_cons_zero, List.getElem?_cons_succ, List.set_cons_zero, List.set_cons_succ, List.cons_append, List.nil_append, List.take_succ_cons, List.take_zero, List.length_cons, List.length_nil, Nat.zero_add, Nat.reduceAdd, Nat.reduceLT, if_true, if_false, Bool.false_eq_true, Bool.true_eq_false, decide_eq_true_eq, decide_true, decide_false, Bool.not_true, Bool.not_false, Option.isNone_none, Option.isNone_some, Option.isSome_none, Option.isSome_some, ite_true, ite_false, reduceIte, reduceCtorEq, and_true, true_and, eq_self, Option.some.injEq, Sum.inr.injEq, Sum.inl.injEq, Prod.mk.injEq, j_lt, Nat.lt_irrefl]
  | succ d ih =>
    intro k σ hv hk' F hF
    obtain ⟨F, rfl⟩ : ∃ F', F = F' + 1 := ⟨F - 1, by omega⟩
    have w := hv.lw
    have hk : k < 25 := by omega
    have pk := p25_ok k hk
    have pp := p25_pr hk
    have e1 := fun p6 p7 p8 p9 => la1 w hc.2.2 hn hk p6 p7 p8 p9
    rw [cnt_dv ok pk.1] at e1
    have cl := cnt_le (fun j => decide (sN V.1 j % p25 k = 0)) V.1.1.length
    obtain ⟨σ1, r1, v1⟩ := k_prime hv (nI (p25 k)) (nI 0)
    rw [rPrime_0 pp (by omega)] at r1
    obtain ⟨σ2, r2, v2⟩ := k_prime v1 (nI (p25 k)) (nI 1)
    rw [rPrime_1 pp (by omega)] at r2
    obtain ⟨σ3, r3, v3⟩ := k_prime v2 (nI (p25 k)) (nI 2)
    rw [rPrime_2 pp (by omega)] at r3
    obtain ⟨σ4, r4, v4⟩ := k_prime v3 (nI (p25 k)) (nI 3)
    rw [rPrime_3 pp (by omega)] at r4
    obtain ⟨σ5, r5, v5⟩ := k_prime v4 (nI (p25 k)) (nI 4)
    rw [rPrime_4 pp (by omega)] at r5
    have w1 := v1.lw
    have w2 := v2.lw
    have w3 := v3.lw
    have w4 := v4.lw
    have w5 := v5.lw
    have rk := hc.2.2 k hk
    have ck := hc.1 k hk
    have mk := hc.2.1 k hk
    have cs := came_sum V.1 (p25 k)
    obtain ⟨σ6, r6, v6⟩ := ih (k + 1) σ5 v5 (by omega) F (by omega)
    have eK : acK V.1 (k + 1) = acK V.1 k + if isPos (sCh V.1 (p25 k)) = true then 1 else 0 := cntP_s _ hk
    have eD : acD V.1 (k + 1) = acD V.1 k + if 0 < cnt (fun j => decide (sN V.1 j % p25 k = 0)) V.1.1.length then 1 else 0 := by
      have := cntP_s (fun q => below V.1 V.1.1.length q) hk
      rw [below_is ok pk.1] at this
      by_cases c : 0 < cnt (fun j => decide (sN V.1 j % p25 k = 0)) V.1.1.length
      · rw [if_pos c]
        rw [decide_eq_true c, if_pos rfl] at this
        exact this
      · rw [if_neg c]
        rw [decide_eq_false c, if_neg Bool.false_ne_true] at this
        exact this
    refine ⟨σ6, (wh_T (σ1 := σ) (L2 := [.ref 0, .ref 60, .ref 61, .ref 62, .ref 63, .ref 64, .int (acC V.1 (k + 1)), .int (nI (acK V.1 (k + 1))), .int (nI (acD V.1 (k + 1))), .int (nI 1), .int (nI (k + 1))]) (σ2 := σ5) ?_ ?_).trans r6, v6⟩
    · simp (disch := omega) only [x_and, x_or, x_shl, x_shr, x_k, x_i, x_r, x_nil, x_add, x_sub, x_mul, x_div, x_rem, x_get, x_getR, x_ald, x_aldR, x_len, x_lenR, x_if, xa_nil, xa_ci, xa_cr, x_callI, x_callR, x_new, x_newa, x_newq, x_max, x_min, xc_cmp, xc_cmp0, xc_null, xc_nn, xc_not, xc_and, xc_or, xc_if, xs_skip, xs_seq, xs_decI, xs_decR, xs_setI, xs_inc, xs_if, xs_blk, xs_retI, xs_retB, xs_retR, xs_retD, xs_ret0, xs_putI, xs_putZ, xs_putR, xs_putop, xs_ast, xs_astop, xs_astR, xs_callV, xs_callP, xs_super, xs_sw, s_go_inl, s_go_inr, s_cut_inl, s_cut_inr, o_void_n, v_i_int, v_i_none, v_r_ref, v_r_null, v_r_rf, h_set_some, o_some_s, zB_ne0, zB_ite, zB_ite2, g_Vn, g_Pi, nI_add, Option.bind_some, Option.map_some, Option.bind_none, Option.map_none, List.getElem?_cons_zero, List.getElem?_cons_succ, List.set_cons_zero, List.set_cons_succ, List.cons_append, List.nil_append, List.take_succ_cons, List.take_zero, List.length_cons, List.length_nil, Nat.zero_add, Nat.reduceAdd, Nat.reduceLT, if_true, if_false, Bool.false_eq_true, Bool.true_eq_false, decide_eq_true_eq, decide_true, decide_false, Bool.not_true, Bool.not_false, Option.isNone_none, Option.isNone_some, Option.isSome_none, Option.isSome_some, ite_true, ite_false, reduceIte, reduceCtorEq, and_true, true_and, eq_self, Option.some.injEq, Sum.inr.injEq, Sum.inl.injEq, Prod.mk.injEq, not_true_eq_false, not_false_eq_true, Bool.decide_eq_true, n0_ne, n1_ne, xz_ret, zb_if, n1_if, n0_if, v_rf, h_ix_nI, nI_clamp, zB_t, zB_f, uN_uN, uN_ap, Nat.reduceEqDiff, Nat.reduceMul, Nat.reduceSub, j_lt, hk]
    · rw [acC_s V.1 hk, eK, eD]
      have ip : i_gt (sCh V.1 (p25 k)) 0 = isPos (sCh V.1 (p25 k)) := rfl
      cases q : isPos (sCh V.1 (p25 k)) with
      | true =>
        rw [q] at ip
        simp (disch := omega) only [x_and, x_or, x_shl, x_shr, x_k, x_i, x_r, x_nil, x_add, x_sub, x_mul, x_div, x_rem, x_get, x_getR, x_ald, x_aldR, x_len, x_lenR, x_if, xa_nil, xa_ci, xa_cr, x_callI, x_callR, x_new, x_newa, x_newq, x_max, x_min, xc_cmp, xc_cmp0, xc_null, xc_nn, xc_not, xc_and, xc_or, xc_if, xs_skip, xs_seq, xs_decI, xs_decR, xs_setI, xs_inc, xs_if, xs_blk, xs_retI, xs_retB, xs_retR, xs_retD, xs_ret0, xs_putI, xs_putZ, xs_putR, xs_putop, xs_ast, xs_astop, xs_astR, xs_callV, xs_callP, xs_super, xs_sw, s_go_inl, s_go_inr, s_cut_inl, s_cut_inr, o_void_n, v_i_int, v_i_none, v_r_ref, v_r_null, v_r_rf, h_set_some, o_some_s, zB_ne0, zB_ite, zB_ite2, g_Vn, g_Pi, nI_add, Option.bind_some, Option.map_some, Option.bind_none, Option.map_none, List.getElem?_cons_zero, List.getElem?_cons_succ, List.set_cons_zero, List.set_cons_succ, List.cons_append, List.nil_append, List.take_succ_cons, List.take_zero, List.length_cons, List.length_nil, Nat.zero_add, Nat.reduceAdd, Nat.reduceLT, if_true, if_false, Bool.false_eq_true, Bool.true_eq_false, decide_eq_true_eq, decide_true, decide_false, Bool.not_true, Bool.not_false, Option.isNone_none, Option.isNone_some, Option.isSome_none, Option.isSome_some, ite_true, ite_false, reduceIte, reduceCtorEq, and_true, true_and, eq_self, Option.some.injEq, Sum.inr.injEq, Sum.inl.injEq, Prod.mk.injEq, not_true_eq_false, not_false_eq_true, Bool.decide_eq_true, n0_ne, n1_ne, xz_ret, zb_if, n1_if, n0_if, v_rf, h_ix_nI, nI_clamp, zB_t, zB_f, uN_uN, uN_ap, Nat.reduceEqDiff, Nat.reduceMul, Nat.reduceSub, w.1, w.2.1, w.2.2.1, w.2.2.2.1, w.2.2.2.2, e1, ck, mk, rk, ip, j_gt0, zB_addD, ← cs, r1, r2, r3, r4, r5, w1.2.2.1, w1.2.2.2.2, w2.2.2.2.1, w2.2.2.2.2, w3.2.2.2.2, w4.2.2.2.2, i_eqS]
      | false =>
        rw [q] at ip
        simp (disch := omega) only [x_and, x_or, x_shl, x_shr, x_k, x_i, x_r, x_nil, x_add, x_sub, x_mul, x_div, x_rem, x_get, x_getR, x_ald, x_aldR, x_len, x_lenR, x_if, xa_nil, xa_ci, xa_cr, x_callI, x_callR, x_new, x_newa, x_newq, x_max, x_min, xc_cmp, xc_cmp0, xc_null, xc_nn, xc_not, xc_and, xc_or, xc_if, xs_skip, xs_seq, xs_decI, xs_decR, xs_setI, xs_inc, xs_if, xs_blk, xs_retI, xs_retB, xs_retR, xs_retD, xs_ret0, xs_putI, xs_putZ, xs_putR, xs_putop, xs_ast, xs_astop, xs_astR, xs_callV, xs_callP, xs_super, xs_sw, s_go_inl, s_go_inr, s_cut_inl, s_cut_inr, o_void_n, v_i_int, v_i_none, v_r_ref, v_r_null, v_r_rf, h_set_some, o_some_s, zB_ne0, zB_ite, zB_ite2, g_Vn, g_Pi, nI_add, Option.bind_some, Option.map_some, Option.bind_none, Option.map_none, List.getElem?_cons_zero, List.getElem?_cons_succ, List.set_cons_zero, List.set_cons_succ, List.cons_append, List.nil_append, List.take_succ_cons, List.take_zero, List.length_cons, List.length_nil, Nat.zero_add, Nat.reduceAdd, Nat.reduceLT, if_true, if_false, Bool.false_eq_true, Bool.true_eq_false, decide_eq_true_eq, decide_true, decide_false, Bool.not_true, Bool.not_false, Option.isNone_none, Option.isNone_some, Option.isSome_none, Option.isSome_some, ite_true, ite_false, reduceIte, reduceCtorEq, and_true, true_and, eq_self, Option.some.injEq, Sum.inr.injEq, Sum.inl.injEq, Prod.mk.injEq, not_true_eq_false, not_false_eq_true, Bool.decide_eq_true, n0_ne, n1_ne, xz_ret, zb_if, n1_if, n0_if, v_rf, h_ix_nI, nI_clamp, zB_t, zB_f, uN_uN, uN_ap, Nat.reduceEqDiff, Nat.reduceMul, Nat.reduceSub, w.1, w.2.1, w.2.2.1, w.2.2.2.1, w.2.2.2.2, e1, ck, mk, rk, ip, j_gt0, zB_addD, ← cs, r1, r2, r3, r4, r5, w1.2.2.1, w1.2.2.2.2, w2.2.2.2.1, w2.2.2.2.2, w3.2.2.2.2, w4.2.2.2.2, i_eqS, Nat.add_zero, nI_z]
theorem l_areAccounts (hv : WV σ M V) (hc : LC V.1 M) (hn : LN V.1 M) (h25 : L25 V.1) : ∃ σ', M_L_areAccounts [.ref 0, .ref 60, .ref 61, .ref 62, .ref 63, .ref 64] σ = some (some (.int (nI 1)), σ') ∧ WV σ' M V := by
  obtain ⟨s1, r1, v1⟩ := k_prime hv (nI 1) (nI 0)
  rw [rPrime_no (Or.inl prI_1)] at r1
  obtain ⟨s2, r2, v2⟩ := k_prime v1 (nI 91) (nI 0)
  rw [rPrime_no (Or.inl prI_91)] at r2
  obtain ⟨s3, r3, v3⟩ := k_prime v2 (nI 101) (nI 5)
  rw [rPrime_no (Or.inr (by decide))] at r3
  obtain ⟨s4, r4, v4⟩ := la2 hc hn h25 25 0 s3 v3 (by omega) s_FUEL (by unfold s_FUEL; omega)
  have r4 : s_while C_L_areAccounts_2 W_L_areAccounts_2 [.ref 0, .ref 60, .ref 61, .ref 62, .ref 63, .ref 64, .int (nI 0), .int (nI 0), .int (nI 0), .int (nI 1), .int (nI 0)] s3 = _ := r4
  obtain ⟨g1, g2, g3⟩ := ac_all hn.1 h25
  rw [g1, g2, g3] at r4
  obtain ⟨s5, r5, v5⟩ := k_count v4 (nI 5)
  rw [rCount_5] at r5
  obtain ⟨s6, r6, v6⟩ := k_count v5 (nI 6)
  rw [rCount_6] at r6
  obtain ⟨s7, r7, v7⟩ := k_count v6 (nI 8)
  rw [rCount_8] at r7
  refine ⟨s7, m_eq rfl rfl ?_, v7⟩
  unfold B_L_areAccounts
  simp (disch := omega) only [x_and, x_or, x_shl, x_shr, x_k, x_i, x_r, x_nil, x_add, x_sub, x_mul, x_div, x_rem, x_get, x_getR, x_ald, x_aldR, x_len, x_lenR, x_if, xa_nil, xa_ci, xa_cr, x_callI, x_callR, x_new, x_newa, x_newq, x_max, x_min, xc_cmp, xc_cmp0, xc_null, xc_nn, xc_not, xc_and, xc_or, xc_if, xs_skip, xs_seq, xs_decI, xs_decR, xs_setI, xs_inc, xs_if, xs_blk, xs_retI, xs_retB, xs_retR, xs_retD, xs_ret0, xs_putI, xs_putZ, xs_putR, xs_putop, xs_ast, xs_astop, xs_astR, xs_callV, xs_callP, xs_super, xs_sw, s_go_inl, s_go_inr, s_cut_inl, s_cut_inr, o_void_n, v_i_int, v_i_none, v_r_ref, v_r_null, v_r_rf, h_set_some, o_some_s, zB_ne0, zB_ite, zB_ite2, g_Vn, g_Pi, nI_add, Option.bind_some, Option.map_some, Option.bind_none, Option.map_none, List.getElem?_cons_zero, List.getElem?_cons_succ, List.set_cons_zero, List.set_cons_succ, List.cons_append, List.nil_append, List.take_succ_cons, List.take_zero, List.length_cons, List.length_nil, Nat.zero_add, Nat.reduceAdd, Nat.reduceLT, if_true, if_false, Bool.false_eq_true, Bool.true_eq_false, decide_eq_true_eq, decide_true, decide_false, Bool.not_true, Bool.not_false, Option.isNone_none, Option.isNone_some, Option.isSome_none, Option.isSome_some, ite_true, ite_false, reduceIte, reduceCtorEq, and_true, true_and, eq_self, Option.some.injEq, Sum.inr.injEq, Sum.inl.injEq, Prod.mk.injEq, not_true_eq_false, not_false_eq_true, Bool.decide_eq_true, n0_ne, n1_ne, xz_ret, zb_if, n1_if, n0_if, v_rf, h_ix_nI, nI_clamp, zB_t, zB_f, uN_uN, uN_ap, Nat.reduceEqDiff, Nat.reduceMul, Nat.reduceSub, r1, r2, r3, r4, r5, r6, r7, i_eqS]
end
