/-! areSteps (own work) -/
theorem rStep_b {S : tS} (ok : okS S) {k v : Nat} (hk : k < S.1.length) (hv : v ≤ 7) : (stB S (nI k) && inB (nI v) (nI 0) (nI 7)) = true := by
  have := ok.1
  rw [stB_n ok (by omega), decide_eq_true hk, inB_n (by omega) (by omega) (by omega), decide_eq_true (Nat.zero_le v), decide_eq_true hv]
  rfl
theorem rStep_0 {S : tS} (ok : okS S) {k : Nat} (hk : k < S.1.length) : rStep S (nI k) (nI 0) = nI (sN S k) := by
  have := ok.1
  unfold rStep
  rw [if_pos (rStep_b ok hk (by omega)), if_pos rfl, nN_n (by omega)]
theorem rStep_1 {S : tS} (ok : okS S) {k : Nat} (hk : k < S.1.length) : rStep S (nI k) (nI 1) = nI (kinN S k) := by
  have := ok.1
  unfold rStep
  rw [if_pos (rStep_b ok hk (by omega)), if_neg (by decide), if_pos rfl, nN_n (by omega)]
theorem rStep_2 {S : tS} (ok : okS S) {k : Nat} (hk : k < S.1.length) : rStep S (nI k) (nI 2) = nI (findF S k) := by
  have := ok.1
  unfold rStep
  rw [if_pos (rStep_b ok hk (by omega)), if_neg (by decide), if_neg (by decide), if_pos rfl, nN_n (by omega)]
theorem rStep_3 {S : tS} (ok : okS S) {k : Nat} (hk : k < S.1.length) : rStep S (nI k) (nI 3) = nI (rSize S (findF S k)) := by
  have := ok.1
  unfold rStep
  rw [if_pos (rStep_b ok hk (by omega)), if_neg (by decide), if_neg (by decide), if_neg (by decide), if_pos rfl, nN_n (by omega)]
theorem rStep_4 {S : tS} (ok : okS S) {k : Nat} (hk : k < S.1.length) : rStep S (nI k) (nI 4) = nI (fac (sN S k)).length := by
  have := ok.1
  unfold rStep
  rw [if_pos (rStep_b ok hk (by omega)), if_neg (by decide), if_neg (by decide), if_neg (by decide), if_neg (by decide), if_pos rfl, nN_n (by omega)]
theorem rStep_5 {S : tS} (ok : okS S) {k : Nat} (hk : k < S.1.length) : rStep S (nI k) (nI 5) = nI (dfac (sN S k)).length := by
  have := ok.1
  unfold rStep
  rw [if_pos (rStep_b ok hk (by omega)), if_neg (by decide), if_neg (by decide), if_neg (by decide), if_neg (by decide), if_neg (by decide), if_pos rfl, nN_n (by omega)]
theorem rStep_6 {S : tS} (ok : okS S) {k : Nat} (hk : k < S.1.length) : rStep S (nI k) (nI 6) = (if sN S k = 1 then -4 else nI (gpr (sN S k) 1)) := by
  have := ok.1
  unfold rStep
  rw [if_pos (rStep_b ok hk (by omega)), if_neg (by decide), if_neg (by decide), if_neg (by decide), if_neg (by decide), if_neg (by decide), if_neg (by decide), if_pos rfl, nN_n (by omega)]
theorem rStep_7 {S : tS} (ok : okS S) {k : Nat} (hk : k < S.1.length) : rStep S (nI k) (nI 7) = nI (cnt (ld S k) S.1.length) := by
  have := ok.1
  unfold rStep
  rw [if_pos (rStep_b ok hk (by omega)), if_neg (by decide), if_neg (by decide), if_neg (by decide), if_neg (by decide), if_neg (by decide), if_neg (by decide), if_neg (by decide), nN_n (by omega)]
theorem rStep_no {S : tS} (ok : okS S) (v : Int32) : rStep S (nI S.1.length) v = -1 ∧ rStep S (-1) v = -1 := by
  have := ok.1
  unfold rStep
  rw [stB_n ok (by omega), decide_eq_false (Nat.lt_irrefl _), Bool.false_and, if_neg Bool.false_ne_true]
  refine ⟨rfl, ?_⟩
  have e : stB S (-1) = false := by
    unfold stB
    rw [show i_ge (-1) (nI 0) = false by decide, Bool.false_and]
  rw [e, Bool.false_and, if_neg Bool.false_ne_true]
theorem rCount_0 (V : tV) : rCount V (nI 0) = nI V.1.1.length := by
  unfold rCount
  rw [if_pos rfl]
theorem rCount_1 (V : tV) : rCount V (nI 1) = nI (pairsN V.1) := by
  unfold rCount
  rw [if_neg (by decide), if_pos rfl]
theorem rCount_2 (V : tV) : rCount V (nI 2) = nI (rFam V.1) := by
  unfold rCount
  rw [if_neg (by decide), if_neg (by decide), if_pos rfl]
theorem rCount_3 (V : tV) : rCount V (nI 3) = nI (rGreat V.1) := by
  unfold rCount
  rw [if_neg (by decide), if_neg (by decide), if_neg (by decide), if_pos rfl]
theorem rCount_4 (V : tV) : rCount V (nI 4) = zB (stl V.1) := by
  unfold rCount
  rw [if_neg (by decide), if_neg (by decide), if_neg (by decide), if_neg (by decide), if_pos rfl]
theorem rCount_5 (V : tV) : rCount V (nI 5) = rChips V.1 := by
  unfold rCount
  rw [if_neg (by decide), if_neg (by decide), if_neg (by decide), if_neg (by decide), if_neg (by decide), if_pos rfl]
theorem rCount_6 (V : tV) : rCount V (nI 6) = nI (rKinds V.1) := by
  unfold rCount
  rw [if_neg (by decide), if_neg (by decide), if_neg (by decide), if_neg (by decide), if_neg (by decide), if_neg (by decide), if_pos rfl]
theorem rCount_7 (V : tV) : rCount V (nI 7) = V.1.2.2.2.1 := by
  unfold rCount
  rw [if_neg (by decide), if_neg (by decide), if_neg (by decide), if_neg (by decide), if_neg (by decide), if_neg (by decide), if_neg (by decide), if_pos rfl]
theorem rCount_8 (V : tV) : rCount V (nI 8) = nI (dpN V.1) := by
  unfold rCount
  rw [if_neg (by decide), if_neg (by decide), if_neg (by decide), if_neg (by decide), if_neg (by decide), if_neg (by decide), if_neg (by decide), if_neg (by decide), if_pos rfl]
theorem rCount_9 (V : tV) : rCount V (nI 9) = nI (cnt (fun k => decide (sN V.1 k = 1)) V.1.1.length) := by
  unfold rCount
  rw [if_neg (by decide), if_neg (by decide), if_neg (by decide), if_neg (by decide), if_neg (by decide), if_neg (by decide), if_neg (by decide), if_neg (by decide), if_neg (by decide), if_pos rfl]
theorem rCount_10 (V : tV) : rCount V (nI 10) = nI V.1.2.1 := by
  unfold rCount
  rw [if_neg (by decide), if_neg (by decide), if_neg (by decide), if_neg (by decide), if_neg (by decide), if_neg (by decide), if_neg (by decide), if_neg (by decide), if_neg (by decide), if_neg (by decide), if_pos rfl]
theorem rCount_11 (V : tV) : rCount V (nI 11) = nI V.1.2.2.1 := by
  unfold rCount
  rw [if_neg (by decide), if_neg (by decide), if_neg (by decide), if_neg (by decide), if_neg (by decide), if_neg (by decide), if_neg (by decide), if_neg (by decide), if_neg (by decide), if_neg (by decide), if_neg (by decide), if_pos rfl]
theorem maxN_get {f : Nat → Nat} {k : Nat} : ∀ n, k < n → f k ≤ maxN f n
  | n + 1, h => by
    show f k ≤ max (maxN f n) (f n)
    by_cases e : k = n
    · rw [e]; exact Nat.le_max_right _ _
    · exact Nat.le_trans (maxN_get n (by omega)) (Nat.le_max_left _ _)
theorem fam_max (S : tS) : maxN (fun k => rSize S (findF S k)) S.1.length = maxN (rSize S) S.1.length := by
  refine Nat.le_antisymm (maxN_le _ (fun k hk => ?_)) (maxN_le _ (fun v hv => ?_))
  · have := (find_good S).1.1 k
    exact maxN_get (f := rSize S) _ (show findF S k < S.1.length by omega)
  · rcases Nat.eq_zero_or_pos (rSize S v) with e | e
    · rw [e]; exact Nat.zero_le _
    · obtain ⟨k, hk, q⟩ := (cnt_pos S.1.length).mp e
      have q := of_decide_eq_true q
      have := maxN_get (f := fun k => rSize S (findF S k)) _ hk
      rw [← q]
      exact this
theorem zB_addD {A : Nat} (p : Prop) [Decidable p] : nI A + zB (decide p) = nI (A + if p then 1 else 0) := by
  by_cases c : p
  · rw [decide_eq_true c, if_pos c, zB_t, nI_add]
  · rw [decide_eq_false c, if_neg c, zB_f, nI_z, Nat.add_zero]
theorem ite_max {a b : Nat} {σ : sSt} : (if a < b then some (nI b, σ) else some (nI a, σ)) = some (nI (max a b), σ) := by
  by_cases c : a < b
  · rw [if_pos c, Nat.max_eq_right (Nat.le_of_lt c)]
  · rw [if_neg c, Nat.max_eq_left (by omega)]
def crW (S : tS) (j : Nat) : Nat := match crB S j with | none => 0 | some b => kinN S b
theorem crW_n {S : tS} {j : Nat} (h : crB S j = none) : crW S j = 0 := by unfold crW; rw [h]
theorem crW_s {S : tS} {j b : Nat} (h : crB S j = some b) : crW S j = kinN S b := by unfold crW; rw [h]
set_option maxRecDepth 100000 in
theorem dd_eq : ∀ b, b < 13 → 1 ≤ b → ∀ a, a < 145 → Op.cmpValue (FP.dcmp (FP.ddiv (FP.i2d (nI (2 * a))) (FP.i2d (nI b))) (FP.ddiv (FP.i2d (nI (2 * a))) (FP.i2d (nI b)))) .l = 0 := by decide +kernel
theorem rMean_eq {S : tS} (h : okS S) : Op.cmpValue (FP.dcmp (rMean S) (rMean S)) .l = 0 := by
  have := h.1
  have p := pairsN_le h.1
  unfold rMean
  by_cases c : S.1.length = 0
  · rw [if_pos c]; decide +kernel
  · rw [if_neg c]
    exact dd_eq _ (by omega) (by omega) _ (by omega)
section
variable {σ : sSt} {M : tM} {V : tV}
theorem as4 (hv : WV σ M V) (hn : LN V.1 M) {k : Nat} (hk : k < V.1.1.length) : ∃ σ', W_L_areSteps_4 [.ref 0, .ref 60, .ref 61, .int (nI (sumN (kinN V.1) k)), .int (nI (cnt (fun k => decide (findF V.1 k = k)) k)), .int (nI (maxN (fun k => rSize V.1 (findF V.1 k)) k)), .int (oN (crB V.1 k)), .int (nI (cnt (fun k => decide (sN V.1 k = 1)) k)), .int (nI (crW V.1 k)), .int (nI 1), .int (nI k)] σ = some (.inr ([.ref 0, .ref 60, .ref 61, .int (nI (sumN (kinN V.1) (k + 1))), .int (nI (cnt (fun k => decide (findF V.1 k = k)) (k + 1))), .int (nI (maxN (fun k => rSize V.1 (findF V.1 k)) (k + 1))), .int (oN (crB V.1 (k + 1))), .int (nI (cnt (fun k => decide (sN V.1 k = 1)) (k + 1))), .int (nI (crW V.1 (k + 1))), .int (nI 1), .int (nI (k + 1))], σ')) ∧ WV σ' M V := by
  have w := hv.lw
  have ok := hn.1
  have hl := ok.1
  have hz := hn.z
  obtain ⟨σ1, r1, v1⟩ := k_step hv (nI k) (nI 0)
  obtain ⟨σ2, r2, v2⟩ := k_step v1 (nI k) (nI 1)
  obtain ⟨σ3, r3, v3⟩ := k_step v2 (nI k) (nI 2)
  obtain ⟨σ4, r4, v4⟩ := k_step v3 (nI k) (nI 3)
  obtain ⟨σ5, r5, v5⟩ := k_step v4 (nI k) (nI 7)
  rw [rStep_0 ok hk] at r1
  rw [rStep_1 ok hk] at r2
  rw [rStep_2 ok hk] at r3
  rw [rStep_3 ok hk] at r4
  rw [rStep_7 ok hk] at r5
  refine ⟨σ5, ?_, v5⟩
  have w1 := v1.lw
  obtain ⟨S, hS⟩ : ∃ S, S = V.1 := ⟨_, rfl⟩
  rw [← hS] at ok hl hz r1 r2 r3 r4 r5 hn hk ⊢
  have b0 : 2 ^ k < 4096 := by
    have : (4096 : Nat) = 2 ^ 12 := rfl
    rw [this]
    exact Nat.pow_lt_pow_right (by omega) (by omega)
  have sl := nx_shl k (by omega)
  have fam := cB_fam (S := S) hk
  have bl := cB_lt (S := S) hl b0 S.1.length
  obtain ⟨b, eb⟩ : ∃ b, b = cB S (2 ^ k) S.1.length := ⟨_, rfl⟩
  rw [← eb] at fam bl
  have fl := (find_good S).1.1 k
  have ff : findF S (findF S k) = findF S k := (find_good S).1.2 _ (find_good S).2 k hk
  have lo : loR (fun i => b.testBit i) S.1.length S.1.length = findF S k := by
    refine loR_is (by omega) ?_ (fun j hj => ?_) _ (Nat.le_refl _) (by omega)
    · show b.testBit (findF S k) = true
      rw [fam _ (by omega), decide_eq_true ff]
    · show b.testBit j = false
      rw [fam _ (by omega)]
      refine decide_eq_false (fun e => ?_)
      have := (find_good S).1.1 j
      omega
  have sz : cnt (fun i => b.testBit i) S.1.length = rSize S (findF S k) := cnt_congr _ (fun j hj => fam j hj)
  have kl : kinN S k ≤ 12 := Nat.le_trans (cnt_le _ _) hl
  have rl := rSize_le hl (findF S k)
  have ml : maxN (fun k => rSize S (findF S k)) k ≤ 12 := maxN_le k (fun j _ => rSize_le hl _)
  have e2 := fun p3 p4 p5 p6 p7 p8 p9 p10 p11 p12 => ls2 w hn p3 p4 p5 p6 p7 p8 p9 p10 p11 p12 b0
  rw [← eb] at e2
  have e3 := fun p3 p4 p5 p6 p7 p8 p9 => ls3 w hn p3 p4 p5 p6 p7 p8 p9 bl hk
  rw [lo, sz] at e3
  have g3 : sumN (kinN S) (k + 1) = sumN (kinN S) k + kinN S k := rfl
  have g5 : maxN (fun k => rSize S (findF S k)) (k + 1) = max (maxN (fun k => rSize S (findF S k)) k) (rSize S (findF S k)) := rfl
  have c1 := hn.nu hk
  have b1 := sN_ok ok k
  rw [g3, g5, cnt_succ, cnt_succ]
  cases q : crB S k with
  | none =>
    rw [crB_0n q, crW_n q, crW_s (crB_0n q)]
    have m4 : i_lt (-4) 0 = true := by decide
    simp (disch := omega) only [x_and, x_or, x_shl, x_shr, x_k, x_i, x_r, x_nil, x_add, x_sub, x_mul, x_div, x_rem, x_get, x_getR, x_ald, x_aldR, x_len, x_lenR, x_if, xa_nil, xa_ci, xa_cr, x_callI, x_callR, x_new, x_newa, x_newq, x_max, x_min, xc_cmp, xc_cmp0, xc_null, xc_nn, xc_not, xc_and, xc_or, xc_if, xs_skip, xs_seq, xs_decI, xs_decR, xs_setI, xs_inc, xs_if, xs_blk, xs_retI, xs_retB, xs_retR, xs_retD, xs_ret0, xs_putI, xs_putZ, xs_putR, xs_putop, xs_ast, xs_astop, xs_astR, xs_callV, xs_callP, xs_super, xs_sw, s_go_inl, s_go_inr, s_cut_inl, s_cut_inr, o_void_n, v_i_int, v_i_none, v_r_ref, v_r_null, v_r_rf, h_set_some, o_some_s, zB_ne0, zB_ite, zB_ite2, g_Vn, g_Pi, nI_add, Option.bind_some, Option.map_some, Option.bind_none, Option.map_none, List.getElem?_cons_zero, List.getElem?_cons_succ, List.set_cons_zero, List.set_cons_succ, List.cons_append, List.nil_append, List.take_succ_cons, List.take_zero, List.length_cons, List.length_nil, Nat.zero_add, Nat.reduceAdd, Nat.reduceLT, if_true, if_false, Bool.false_eq_true, Bool.true_eq_false, decide_eq_true_eq, decide_true, decide_false, Bool.not_true, Bool.not_false, Option.isNone_none, Option.isNone_some, Option.isSome_none, Option.isSome_some, ite_true, ite_false, reduceIte, reduceCtorEq, and_true, true_and, eq_self, Option.some.injEq, Sum.inr.injEq, Sum.inl.injEq, Prod.mk.injEq, not_true_eq_false, not_false_eq_true, Bool.decide_eq_true, n0_ne, n1_ne, xz_ret, zb_if, n1_if, n0_if, v_rf, h_ix_nI, nI_clamp, zB_t, zB_f, uN_uN, uN_ap, Nat.reduceEqDiff, Nat.reduceMul, Nat.reduceSub, w.1, w.2.1, w.2.2.1, w.2.2.2.1, w.2.2.2.2, hz, sl, e2, e3, pk_sub, oN, m4, j_eq, j_gt, zB_addD, ite_max, c1, r1, r2, r3, r4, r5, w1.1, i_eqS]
  | some d =>
    have hd := crB_lt q
    have c2 := hn.nu (i := d) (by omega)
    have b2 := sN_ok ok d
    have kd : kinN S d ≤ 12 := Nat.le_trans (cnt_le _ _) hl
    rw [crB_s q, crW_s q]
    by_cases p1 : kinN S d < kinN S k
    · have pp : kinN S d < kinN S k ∨ (kinN S k = kinN S d ∧ sN S d < sN S k) := Or.inl p1
      have q2 := crB_s q
      rw [if_pos pp] at q2
      rw [if_pos pp, crW_s q2]
      simp (disch := omega) only [x_and, x_or, x_shl, x_shr, x_k, x_i, x_r, x_nil, x_add, x_sub, x_mul, x_div, x_rem, x_get, x_getR, x_ald, x_aldR, x_len, x_lenR, x_if, xa_nil, xa_ci, xa_cr, x_callI, x_callR, x_new, x_newa, x_newq, x_max, x_min, xc_cmp, xc_cmp0, xc_null, xc_nn, xc_not, xc_and, xc_or, xc_if, xs_skip, xs_seq, xs_decI, xs_decR, xs_setI, xs_inc, xs_if, xs_blk, xs_retI, xs_retB, xs_retR, xs_retD, xs_ret0, xs_putI, xs_putZ, xs_putR, xs_putop, xs_ast, xs_astop, xs_astR, xs_callV, xs_callP, xs_super, xs_sw, s_go_inl, s_go_inr, s_cut_inl, s_cut_inr, o_void_n, v_i_int, v_i_none, v_r_ref, v_r_null, v_r_rf, h_set_some, o_some_s, zB_ne0, zB_ite, zB_ite2, g_Vn, g_Pi, nI_add, Option.bind_some, Option.map_some, Option.bind_none, Option.map_none, List.getElem?_cons_zero, List.getElem?_cons_succ, List.set_cons_zero, List.set_cons_succ, List.cons_append, List.nil_append, List.take_succ_cons, List.take_zero, List.length_cons, List.length_nil, Nat.zero_add, Nat.reduceAdd, Nat.reduceLT, if_true, if_false, Bool.false_eq_true, Bool.true_eq_false, decide_eq_true_eq, decide_true, decide_false, Bool.not_true, Bool.not_false, Option.isNone_none, Option.isNone_some, Option.isSome_none, Option.isSome_some, ite_true, ite_false, reduceIte, reduceCtorEq, and_true, true_and, eq_self, Option.some.injEq, Sum.inr.injEq, Sum.inl.injEq, Prod.mk.injEq, not_true_eq_false, not_false_eq_true, Bool.decide_eq_true, n0_ne, n1_ne, xz_ret, zb_if, n1_if, n0_if, v_rf, h_ix_nI, nI_clamp, zB_t, zB_f, uN_uN, uN_ap, Nat.reduceEqDiff, Nat.reduceMul, Nat.reduceSub, w.1, w.2.1, w.2.2.1, w.2.2.2.1, w.2.2.2.2, hz, sl, e2, e3, pk_sub, oN, j_lt0, p1, j_eq, j_gt, zB_addD, ite_max, c1, c2, r1, r2, r3, r4, r5, w1.1, i_eqS]
    · by_cases p2 : kinN S k = kinN S d
      · by_cases p3 : sN S d < sN S k
        · have pp : kinN S d < kinN S k ∨ (kinN S k = kinN S d ∧ sN S d < sN S k) := Or.inr ⟨p2, p3⟩
          have q2 := crB_s q
          rw [if_pos pp] at q2
          rw [if_pos pp, crW_s q2]
          simp (disch := omega) only [x_and, x_or, x_shl, x_shr, x_k, x_i, x_r, x_nil, x_add, x_sub, x_mul, x_div, x_rem, x_get, x_getR, x_ald, x_aldR, x_len, x_lenR, x_if, xa_nil, xa_ci, xa_cr, x_callI, x_callR, x_new, x_newa, x_newq, x_max, x_min, xc_cmp, xc_cmp0, xc_null, xc_nn, xc_not, xc_and, xc_or, xc_if, xs_skip, xs_seq, xs_decI, xs_decR, xs_setI, xs_inc, xs_if, xs_blk, xs_retI, xs_retB, xs_retR, xs_retD, xs_ret0, xs_putI, xs_putZ, xs_putR, xs_putop, xs_ast, xs_astop, xs_astR, xs_callV, xs_callP, xs_super, xs_sw, s_go_inl, s_go_inr, s_cut_inl, s_cut_inr, o_void_n, v_i_int, v_i_none, v_r_ref, v_r_null, v_r_rf, h_set_some, o_some_s, zB_ne0, zB_ite, zB_ite2, g_Vn, g_Pi, nI_add, Option.bind_some, Option.map_some, Option.bind_none, Option.map_none, List.getElem?_cons_zero, List.getElem?_cons_succ, List.set_cons_zero, List.set_cons_succ, List.cons_append, List.nil_append, List.take_succ_cons, List.take_zero, List.length_cons, List.length_nil, Nat.zero_add, Nat.reduceAdd, Nat.reduceLT, if_true, if_false, Bool.false_eq_true, Bool.true_eq_false, decide_eq_true_eq, decide_true, decide_false, Bool.not_true, Bool.not_false, Option.isNone_none, Option.isNone_some, Option.isSome_none, Option.isSome_some, ite_true, ite_false, reduceIte, reduceCtorEq, and_true, true_and, eq_self, Option.some.injEq, Sum.inr.injEq, Sum.inl.injEq, Prod.mk.injEq, not_true_eq_false, not_false_eq_true, Bool.decide_eq_true, n0_ne, n1_ne, xz_ret, zb_if, n1_if, n0_if, v_rf, h_ix_nI, nI_clamp, zB_t, zB_f, uN_uN, uN_ap, Nat.reduceEqDiff, Nat.reduceMul, Nat.reduceSub, w.1, w.2.1, w.2.2.1, w.2.2.2.1, w.2.2.2.2, hz, sl, e2, e3, pk_sub, oN, j_lt0, p1, decide_eq_true p2, p3, j_eq, j_gt, zB_addD, ite_max, c1, c2, r1, r2, r3, r4, r5, w1.1, i_eqS]
        · have pp : ¬ (kinN S d < kinN S k ∨ (kinN S k = kinN S d ∧ sN S d < sN S k)) := fun z => z.elim p1 (fun y => p3 y.2)
          have q2 := crB_s q
          rw [if_neg pp] at q2
          rw [if_neg pp, crW_s q2]
          simp (disch := omega) only [x_and, x_or, x_shl, x_shr, x_k, x_i, x_r, x_nil, x_add, x_sub, x_mul, x_div, x_rem, x_get, x_getR, x_ald, x_aldR, x_len, x_lenR, x_if, xa_nil, xa_ci, xa_cr, x_callI, x_callR, x_new, x_newa, x_newq, x_max, x_min, xc_cmp, xc_cmp0, xc_null, xc_nn, xc_not, xc_and, xc_or, xc_if, xs_skip, xs_seq, xs_decI, xs_decR, xs_setI, xs_inc, xs_if, xs_blk, xs_retI, xs_retB, xs_retR, xs_retD, xs_ret0, xs_putI, xs_putZ, xs_putR, xs_putop, xs_ast, xs_astop, xs_astR, xs_callV, xs_callP, xs_super, xs_sw, s_go_inl, s_go_inr, s_cut_inl, s_cut_inr, o_void_n, v_i_int, v_i_none, v_r_ref, v_r_null, v_r_rf, h_set_some, o_some_s, zB_ne0, zB_ite, zB_ite2, g_Vn, g_Pi, nI_add, Option.bind_some, Option.map_some, Option.bind_none, Option.map_none, List.getElem?_cons_zero, List.getElem?_cons_succ, List.set_cons_zero, List.set_cons_succ, List.cons_append, List.nil_append, List.take_succ_cons, List.take_zero, List.length_cons, List.length_nil, Nat.zero_add, Nat.reduceAdd, Nat.reduceLT, if_true, if_false, Bool.false_eq_true, Bool.true_eq_false, decide_eq_true_eq, decide_true, decide_false, Bool.not_true, Bool.not_false, Option.isNone_none, Option.isNone_some, Option.isSome_none, Option.isSome_some, ite_true, ite_false, reduceIte, reduceCtorEq, and_true, true_and, eq_self, Option.some.injEq, Sum.inr.injEq, Sum.inl.injEq, Prod.mk.injEq, not_true_eq_false, not_false_eq_true, Bool.decide_eq_true, n0_ne, n1_ne, xz_ret, zb_if, n1_if, n0_if, v_rf, h_ix_nI, nI_clamp, zB_t, zB_f, uN_uN, uN_ap, Nat.reduceEqDiff, Nat.reduceMul, Nat.reduceSub, w.1, w.2.1, w.2.2.1, w.2.2.2.1, w.2.2.2.2, hz, sl, e2, e3, pk_sub, oN, j_lt0, p1, decide_eq_true p2, p3, j_eq, j_gt, zB_addD, ite_max, c1, c2, r1, r2, r3, r4, r5, w1.1, i_eqS]
      · have pp : ¬ (kinN S d < kinN S k ∨ (kinN S k = kinN S d ∧ sN S d < sN S k)) := fun z => z.elim p1 (fun y => p2 y.1)
        have q2 := crB_s q
        rw [if_neg pp] at q2
        rw [if_neg pp, crW_s q2]
        simp (disch := omega) only [x_and, x_or, x_shl, x_shr, x_k, x_i, x_r, x_nil, x_add, x_sub, x_mul, x_div, x_rem, x_get, x_getR, x_ald, x_aldR, x_len, x_lenR, x_if, xa_nil, xa_ci, xa_cr, x_callI, x_callR, x_new, x_newa, x_newq, x_max, x_min, xc_cmp, xc_cmp0, xc_null, xc_nn, xc_not, xc_and, xc_or, xc_if, xs_skip, xs_seq, xs_decI, xs_decR, xs_setI, xs_inc, xs_if, xs_blk, xs_retI, xs_retB, xs_retR, xs_retD, xs_ret0, xs_putI, xs_putZ, xs_putR, xs_putop, xs_ast, xs_astop, xs_astR, xs_callV, xs_callP, xs_super, xs_sw, s_go_inl, s_go_inr, s_cut_inl, s_cut_inr, o_void_n, v_i_int, v_i_none, v_r_ref, v_r_null, v_r_rf, h_set_some, o_some_s, zB_ne0, zB_ite, zB_ite2, g_Vn, g_Pi, nI_add, Option.bind_some, Option.map_some, Option.bind_none, Option.map_none, List.getElem?_cons_zero, List.getElem?_cons_succ, List.set_cons_zero, List.set_cons_succ, List.cons_append, List.nil_append, List.take_succ_cons, List.take_zero, List.length_cons, List.length_nil, Nat.zero_add, Nat.reduceAdd, Nat.reduceLT, if_true, if_false, Bool.false_eq_true, Bool.true_eq_false, decide_eq_true_eq, decide_true, decide_false, Bool.not_true, Bool.not_false, Option.isNone_none, Option.isNone_some, Option.isSome_none, Option.isSome_some, ite_true, ite_false, reduceIte, reduceCtorEq, and_true, true_and, eq_self, Option.some.injEq, Sum.inr.injEq, Sum.inl.injEq, Prod.mk.injEq, not_true_eq_false, not_false_eq_true, Bool.decide_eq_true, n0_ne, n1_ne, xz_ret, zb_if, n1_if, n0_if, v_rf, h_ix_nI, nI_clamp, zB_t, zB_f, uN_uN, uN_ap, Nat.reduceEqDiff, Nat.reduceMul, Nat.reduceSub, w.1, w.2.1, w.2.2.1, w.2.2.2.1, w.2.2.2.2, hz, sl, e2, e3, pk_sub, oN, j_lt0, p1, decide_eq_false p2, j_eq, j_gt, zB_addD, ite_max, c1, c2, r1, r2, r3, r4, r5, w1.1, i_eqS]
theorem as5 (hn : LN V.1 M) : ∀ (d k : Nat) (σ : sSt), WV σ M V → k + d = V.1.1.length → ∀ F, d < F → ∃ σ', s_wh C_L_areSteps_4 W_L_areSteps_4 F [.ref 0, .ref 60, .ref 61, .int (nI (sumN (kinN V.1) k)), .int (nI (cnt (fun k => decide (findF V.1 k = k)) k)), .int (nI (maxN (fun k => rSize V.1 (findF V.1 k)) k)), .int (oN (crB V.1 k)), .int (nI (cnt (fun k => decide (sN V.1 k = 1)) k)), .int (nI (crW V.1 k)), .int (nI 1), .int (nI k)] σ = some (.inr ([.ref 0, .ref 60, .ref 61, .int (nI (sumN (kinN V.1) V.1.1.length)), .int (nI (cnt (fun k => decide (findF V.1 k = k)) V.1.1.length)), .int (nI (maxN (fun k => rSize V.1 (findF V.1 k)) V.1.1.length)), .int (oN (crB V.1 V.1.1.length)), .int (nI (cnt (fun k => decide (sN V.1 k = 1)) V.1.1.length)), .int (nI (crW V.1 V.1.1.length)), .int (nI 1), .int (nI V.1.1.length)], σ')) ∧ WV σ' M V := by
  intro d
  have hl := hn.1.1
  have hz := hn.z
  induction d with
  | zero =>
    intro k σ hv hk F hF
    obtain ⟨F, rfl⟩ : ∃ F', F = F' + 1 := ⟨F - 1, by omega⟩
    have w := hv.lw
    rw [Nat.add_zero] at hk
    subst hk
    refine ⟨σ, wh_F ?_, hv⟩
    simp (disch := omega) only [x_and, x_or, x_shl, x_shr, x_k, x_i, x_r, x_nil, x_add, x_sub, x_mul, x_div, x_rem, x_get, x_getR, x_ald, x_aldR, x_len, x_lenR, x_if, xa_nil, xa_ci, xa_cr, x_callI, x_callR, x_new, x_newa, x_newq, x_max, x_min, xc_cmp, xc_cmp0, xc_null, xc_nn, xc_not, xc_and, xc_or, xc_if, xs_skip, xs_seq, xs_decI, xs_decR, xs_setI, xs_inc, xs_if, xs_blk, xs_retI, xs_retB, xs_retR, xs_retD, xs_ret0, xs_putI, xs_putZ, xs_putR, xs_putop, xs_ast, xs_astop, xs_astR, xs_callV, xs_callP, xs_super, xs_sw, s_go_inl, s_go_inr, s_cut_inl, s_cut_inr, o_void_n, v_i_int, v_i_none, v_r_ref, v_r_null, v_r_rf, h_set_some, o_some_s, zB_ne0, zB_ite, zB_ite2, g_Vn, g_Pi, nI_add, Option.bind_some, Option.map_some, Option.bind_none, Option.map_none, List.getElem?_cons_zero, List.getElem?_cons_succ, List.set_cons_zero, List.set_cons_succ, List.cons_append, List.nil_append, List.take_succ_cons, List.take_zero, List.length_cons, List.length_nil, Nat.zero_add, Nat.reduceAdd, Nat.reduceLT, if_true, if_false, Bool.false_eq_true, Bool.true_eq_false, decide_eq_true_eq, decide_true, decide_false, Bool.not_true, Bool.not_false, Option.isNone_none, Option.isNone_some, Option.isSome_none, Option.isSome_some, ite_true, ite_false, reduceIte, reduceCtorEq, and_true, true_and, eq_self, Option.some.injEq, Sum.inr.injEq, Sum.inl.injEq, Prod.mk.injEq, not_true_eq_false, not_false_eq_true, Bool.decide_eq_true, n0_ne, n1_ne, xz_ret, zb_if, n1_if, n0_if, v_rf, h_ix_nI, nI_clamp, zB_t, zB_f, uN_uN, uN_ap, Nat.reduceEqDiff, Nat.reduceMul, Nat.reduceSub, w.1, w.2.1, w.2.2.1, w.2.2.2.1, w.2.2.2.2, hz, j_lt, Nat.lt_irrefl]
  | succ d ih =>
    intro k σ hv hk F hF
    obtain ⟨F, rfl⟩ : ∃ F', F = F' + 1 := ⟨F - 1, by omega⟩
    have w := hv.lw
    obtain ⟨σ1, r1, v1⟩ := as4 hv hn (k := k) (by omega)
    obtain ⟨σ2, r2, v2⟩ := ih (k + 1) σ1 v1 (by omega) F (by omega)
    refine ⟨σ2, (wh_T ?_ r1).trans r2, v2⟩
    simp (disch := omega) only [x_and, x_or, x_shl, x_shr, x_k, x_i, x_r, x_nil, x_add, x_sub, x_mul, x_div, x_rem, x_get, x_getR, x_ald, x_aldR, x_len, x_lenR, x_if, xa_nil, xa_ci, xa_cr, x_callI, x_callR, x_new, x_newa, x_newq, x_max, x_min, xc_cmp, xc_cmp0, xc_null, xc_nn, xc_not, xc_and, xc_or, xc_if, xs_skip, xs_seq, xs_decI, xs_decR, xs_setI, xs_inc, xs_if, xs_blk, xs_retI, xs_retB, xs_retR, xs_retD, xs_ret0, xs_putI, xs_putZ, xs_putR, xs_putop, xs_ast, xs_astop, xs_astR, xs_callV, xs_callP, xs_super, xs_sw, s_go_inl, s_go_inr, s_cut_inl, s_cut_inr, o_void_n, v_i_int, v_i_none, v_r_ref, v_r_null, v_r_rf, h_set_some, o_some_s, zB_ne0, zB_ite, zB_ite2, g_Vn, g_Pi, nI_add, Option.bind_some, Option.map_some, Option.bind_none, Option.map_none, List.getElem?_cons_zero, List.getElem?_cons_succ, List.set_cons_zero, List.set_cons_succ, List.cons_append, List.nil_append, List.take_succ_cons, List.take_zero, List.length_cons, List.length_nil, Nat.zero_add, Nat.reduceAdd, Nat.reduceLT, if_true, if_false, Bool.false_eq_true, Bool.true_eq_false, decide_eq_true_eq, decide_true, decide_false, Bool.not_true, Bool.not_false, Option.isNone_none, Option.isNone_some, Option.isSome_none, Option.isSome_some, ite_true, ite_false, reduceIte, reduceCtorEq, and_true, true_and, eq_self, Option.some.injEq, Sum.inr.injEq, Sum.inl.injEq, Prod.mk.injEq, not_true_eq_false, not_false_eq_true, Bool.decide_eq_true, n0_ne, n1_ne, xz_ret, zb_if, n1_if, n0_if, v_rf, h_ix_nI, nI_clamp, zB_t, zB_f, uN_uN, uN_ap, Nat.reduceEqDiff, Nat.reduceMul, Nat.reduceSub, w.1, w.2.1, w.2.2.1, w.2.2.2.1, w.2.2.2.2, hz, j_lt, show k < V.1.1.length by omega]
theorem l_areSteps (hv : WV σ M V) (hn : LN V.1 M) : ∃ σ', M_L_areSteps [.ref 0, .ref 60, .ref 61] σ = some (some (.int (nI 1)), σ') ∧ WV σ' M V := by
  have w := hv.lw
  have ok := hn.1
  have hl := ok.1
  have hz := hn.z
  obtain ⟨sa, ra, va⟩ := k_step hv (nI V.1.1.length) (nI 0)
  rw [(rStep_no ok _).1] at ra
  obtain ⟨sb, rb, vb⟩ := k_step va (-1) (nI 0)
  rw [(rStep_no ok _).2] at rb
  obtain ⟨s0, r0, v0⟩ := as5 hn V.1.1.length 0 sb vb (by omega) s_FUEL (by unfold s_FUEL; omega)
  have r0 : s_while C_L_areSteps_4 W_L_areSteps_4 [.ref 0, .ref 60, .ref 61, .int (nI 0), .int (nI 0), .int (nI 0), .int (-4), .int (nI 0), .int (nI 0), .int (nI 1), .int (nI 0)] sb = _ := r0
  rw [sumN_kin, fam_max] at r0
  obtain ⟨s1, r1, v1⟩ := k_count v0 (nI 0)
  rw [rCount_0] at r1
  obtain ⟨s2, r2, v2⟩ := k_count v1 (nI 1)
  rw [rCount_1] at r2
  obtain ⟨s3, r3, v3⟩ := k_count v2 (nI 2)
  rw [rCount_2] at r3
  obtain ⟨s4, r4, v4⟩ := k_count v3 (nI 3)
  rw [rCount_3] at r4
  obtain ⟨s5, r5, v5⟩ := k_crown v4
  obtain ⟨s6, r6, v6⟩ := k_count v5 (nI 9)
  rw [rCount_9] at r6
  obtain ⟨s7, r7, v7⟩ := k_count v6 (nI 4)
  rw [rCount_4] at r7
  have rs := l_isSettled v7.lw hn
  obtain ⟨s8, r8, v8⟩ := k_count v7 (nI 7)
  rw [rCount_7] at r8
  obtain ⟨s9, r9, v9⟩ := k_count v8 (nI 10)
  rw [rCount_10] at r9
  obtain ⟨s10, r10, v10⟩ := k_count v9 (nI 11)
  rw [rCount_11] at r10
  obtain ⟨s11, r11, v11⟩ := k_mean v10
  have w1 := v1.lw
  have w8 := v8.lw
  have w9 := v9.lw
  have w10 := v10.lw
  have w11 := v11.lw
  have pl := pairsN_le hl
  have hp : 2 * pairsN V.1 / 2 = pairsN V.1 := Nat.mul_div_cancel_left _ (by omega)
  have e1 : rCrown V.1 = oN (crB V.1 V.1.1.length) := rfl
  have e2 : cnt (fun k => decide (findF V.1 k = k)) V.1.1.length = rFam V.1 := rfl
  have e3 : maxN (rSize V.1) V.1.1.length = rGreat V.1 := rfl
  have mq := rMean_eq ok
  rw [e1] at r5
  rw [e2, e3] at r0
  refine ⟨s11, m_eq rfl rfl ?_, v11⟩
  unfold B_L_areSteps
  by_cases c : V.1.1.length = 0
  · have m0 : rMean V.1 = 0 := if_pos c
    rw [m0] at r11 mq
    have c0 : i_eq (nI V.1.1.length) 0 = true := by rw [c]; decide
    simp (disch := omega) only [x_and, x_or, x_shl, x_shr, x_k, x_i, x_r, x_nil, x_add, x_sub, x_mul, x_div, x_rem, x_get, x_getR, x_ald, x_aldR, x_len, x_lenR, x_if, xa_nil, xa_ci, xa_cr, x_callI, x_callR, x_new, x_newa, x_newq, x_max, x_min, xc_cmp, xc_cmp0, xc_null, xc_nn, xc_not, xc_and, xc_or, xc_if, xs_skip, xs_seq, xs_decI, xs_decR, xs_setI, xs_inc, xs_if, xs_blk, xs_retI, xs_retB, xs_retR, xs_retD, xs_ret0, xs_putI, xs_putZ, xs_putR, xs_putop, xs_ast, xs_astop, xs_astR, xs_callV, xs_callP, xs_super, xs_sw, s_go_inl, s_go_inr, s_cut_inl, s_cut_inr, o_void_n, v_i_int, v_i_none, v_r_ref, v_r_null, v_r_rf, h_set_some, o_some_s, zB_ne0, zB_ite, zB_ite2, g_Vn, g_Pi, nI_add, Option.bind_some, Option.map_some, Option.bind_none, Option.map_none, List.getElem?_cons_zero, List.getElem?_cons_succ, List.set_cons_zero, List.set_cons_succ, List.cons_append, List.nil_append, List.take_succ_cons, List.take_zero, List.length_cons, List.length_nil, Nat.zero_add, Nat.reduceAdd, Nat.reduceLT, if_true, if_false, Bool.false_eq_true, Bool.true_eq_false, decide_eq_true_eq, decide_true, decide_false, Bool.not_true, Bool.not_false, Option.isNone_none, Option.isNone_some, Option.isSome_none, Option.isSome_some, ite_true, ite_false, reduceIte, reduceCtorEq, and_true, true_and, eq_self, Option.some.injEq, Sum.inr.injEq, Sum.inl.injEq, Prod.mk.injEq, not_true_eq_false, not_false_eq_true, Bool.decide_eq_true, n0_ne, n1_ne, xz_ret, zb_if, n1_if, n0_if, v_rf, h_ix_nI, nI_clamp, zB_t, zB_f, uN_uN, uN_ap, Nat.reduceEqDiff, Nat.reduceMul, Nat.reduceSub, w.1, w.2.1, w.2.2.1, w.2.2.2.1, w.2.2.2.2, hz, ra, rb, i_eqS, r0, r1, r2, r3, r4, r5, r6, r7, r8, r9, r10, r11, w1.2.1, w8.2.1, w9.2.1, w10.2.1, w11.2.1, j_div, hp, rs, hn.2.2.1, hn.2.2.2.1, hn.2.2.2.2.1, x_callD, xc_deq, x_d0, v_d_d, c0, mq]
  · have mo := rMean_ok ok c
    have c0 : i_eq (nI V.1.1.length) 0 = false := by rw [j_eq0 (by omega)]; exact decide_eq_false c
    simp (disch := omega) only [x_and, x_or, x_shl, x_shr, x_k, x_i, x_r, x_nil, x_add, x_sub, x_mul, x_div, x_rem, x_get, x_getR, x_ald, x_aldR, x_len, x_lenR, x_if, xa_nil, xa_ci, xa_cr, x_callI, x_callR, x_new, x_newa, x_newq, x_max, x_min, xc_cmp, xc_cmp0, xc_null, xc_nn, xc_not, xc_and, xc_or, xc_if, xs_skip, xs_seq, xs_decI, xs_decR, xs_setI, xs_inc, xs_if, xs_blk, xs_retI, xs_retB, xs_retR, xs_retD, xs_ret0, xs_putI, xs_putZ, xs_putR, xs_putop, xs_ast, xs_astop, xs_astR, xs_callV, xs_callP, xs_super, xs_sw, s_go_inl, s_go_inr, s_cut_inl, s_cut_inr, o_void_n, v_i_int, v_i_none, v_r_ref, v_r_null, v_r_rf, h_set_some, o_some_s, zB_ne0, zB_ite, zB_ite2, g_Vn, g_Pi, nI_add, Option.bind_some, Option.map_some, Option.bind_none, Option.map_none, List.getElem?_cons_zero, List.getElem?_cons_succ, List.set_cons_zero, List.set_cons_succ, List.cons_append, List.nil_append, List.take_succ_cons, List.take_zero, List.length_cons, List.length_nil, Nat.zero_add, Nat.reduceAdd, Nat.reduceLT, if_true, if_false, Bool.false_eq_true, Bool.true_eq_false, decide_eq_true_eq, decide_true, decide_false, Bool.not_true, Bool.not_false, Option.isNone_none, Option.isNone_some, Option.isSome_none, Option.isSome_some, ite_true, ite_false, reduceIte, reduceCtorEq, and_true, true_and, eq_self, Option.some.injEq, Sum.inr.injEq, Sum.inl.injEq, Prod.mk.injEq, not_true_eq_false, not_false_eq_true, Bool.decide_eq_true, n0_ne, n1_ne, xz_ret, zb_if, n1_if, n0_if, v_rf, h_ix_nI, nI_clamp, zB_t, zB_f, uN_uN, uN_ap, Nat.reduceEqDiff, Nat.reduceMul, Nat.reduceSub, w.1, w.2.1, w.2.2.1, w.2.2.2.1, w.2.2.2.2, hz, ra, rb, i_eqS, r0, r1, r2, r3, r4, r5, r6, r7, r8, r9, r10, r11, w1.2.1, w8.2.1, w9.2.1, w10.2.1, w11.2.1, j_div, hp, rs, hn.2.2.1, hn.2.2.2.1, hn.2.2.2.2.1, x_callD, xc_deq, x_ddiv, x_i2d, mo, v_d_d, c0, mq]
end
