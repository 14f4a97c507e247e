/-! Stairs' writers with its accounts (own work): to share, to set, to take off -/
theorem AccAt.congr {σ : sSt} {b p c : Nat} {ps : List Nat} {ch cm ch' cm' : Nat → Int32} (h : AccAt σ b p c ps ch cm) (hk : okA ps ch cm) (e : ∀ q, isPr q → ch' q = ch q ∧ cm' q = cm q) : AccAt σ b p c ps ch' cm' := by
  obtain ⟨h1, h2, h3, h4, h5, fp, fc, fm, e1, e2, e3, e4⟩ := h
  refine ⟨h1, h2, h3, h4, h5, fp, fc, fm, e1, e2, e3, fun j q hj => ?_⟩
  have hq := e q (hk.2.1 q (List.mem_of_getElem? hj)).1
  have := e4 j q hj
  rw [hq.1, hq.2]
  exact this
theorem okA.congr {ps : List Nat} {ch cm ch' cm' : Nat → Int32} (hk : okA ps ch cm) (e : ∀ q, isPr q → ch' q = ch q ∧ cm' q = cm q) : okA ps ch' cm' := by
  refine ⟨hk.1, hk.2.1, fun q hq hn => ?_⟩
  rw [(e q hq).1, (e q hq).2]
  exact hk.2.2 q hq hn
/-- what a writer of the numbers alone leaves of the accounts -/
theorem StAt.nums {σ σ' : sSt} {a p c : Nat} {S S' : tS} (h : StAt σ a p c S) (k : StO σ' a S') (m : Keep σ σ' (fun k => k = a ∨ k = a + 1)) (e : ∀ q, isPr q → sCh S' q = sCh S q ∧ came S' q = came S q) : StAt σ' a p c S' := by
  obtain ⟨_, ⟨ps, hA, hk⟩, hd⟩ := h
  refine ⟨k, ⟨ps, (hA.keep m ⟨by omega, by omega, by omega, by omega⟩).congr hk e, hk.congr e⟩, hd⟩
theorem shr_came {S : tS} (h : okS S) {i : Nat} (hn : i + 1 < S.1.length) {q : Nat} (hq : isPr q) : came (shr S i) q = came S q := by
  have b1 := sN_ok h i
  have b2 := sN_ok h (i + 1)
  have e1 := exL_set (q := q) (x := Nat.gcd (sN S i) (sN S (i + 1))) S.1 i (sN_in (show i < S.1.length by omega))
  have e2 := exL_set (q := q) (x := lcm2 (sN S i) (sN S (i + 1))) (S.1.set i (Nat.gcd (sN S i) (sN S (i + 1)))) (i + 1) (y := sN S (i + 1)) ((List.getElem?_set_ne (by omega)).trans (sN_in hn))
  have e3 := ex_share (a := sN S i) (b := sN S (i + 1)) hq b1.1 b2.1
  have e4 : nI (ex q (Nat.gcd (sN S i) (sN S (i + 1)))) + nI (ex q (lcm2 (sN S i) (sN S (i + 1)))) = nI (ex q (sN S i)) + nI (ex q (sN S (i + 1))) := by rw [nI_add, nI_add, e3]
  show sCh S q + exL q ((S.1.set i _).set (i + 1) _) = sCh S q + exL q S.1
  rw [e2, e1]
  congr 1
  have ring : ∀ s x y g l : Int32, g + l = x + y → s + -x + g + -y + l = s := by
    intro s x y g l hh
    have : s + -x + g + -y + l = s + (g + l) + (-x + -y) := by
      rw [Int32.add_assoc s (g + l), Int32.add_assoc, Int32.add_assoc, Int32.add_assoc, Int32.add_assoc]
      congr 1
      rw [← Int32.add_assoc (-x), Int32.add_comm (-x) g, Int32.add_comm (-y) l, Int32.add_assoc g, ← Int32.add_assoc (-x) l, Int32.add_comm (-x) l, Int32.add_assoc l]
    rw [this, hh, ← Int32.sub_eq_add_neg (-x), ← Int32.neg_add, Int32.add_assoc, Int32.add_right_neg, Int32.add_zero]
  exact ring _ _ _ _ _ e4
section
variable {σ : sSt} {a p c : Nat} {S : tS}
theorem f_shareAt (h : StAt σ a p c S) {i : Nat} (hn : i + 1 < S.1.length) (hb : lcm2 (sN S i) (sN S (i + 1)) ≤ 9999) : ∃ σ', M_X6_shareAt [.ref a, .int (nI i)] σ = some (some (.int (nI (Nat.gcd (sN S i) (sN S (i + 1))))), σ') ∧ StAt σ' a p c (shr S i) ∧ Keep σ σ' (fun k => k = a + 1) ∧ σ'.1.length = σ.1.length ∧ σ'.2 = σ.2 := by
  obtain ⟨σ', r, k, m, l, n⟩ := f_share h.1 hn hb
  exact ⟨σ', r, h.nums k (m.mono (fun _ _ e => Or.inr e)) (fun q hq => ⟨rfl, shr_came h.1.1 hn hq⟩), m, l, n⟩
theorem f_setRule (h : StAt σ a p c S) {v : Nat} (hv : v ≤ 2) : ∃ σ', M_X6_changeSetting [.ref a, .int (nI 0), .int (nI v)] σ = some (some (.int (nI S.2.1)), σ') ∧ StAt σ' a p c (S.1, v, S.2.2) ∧ Keep σ σ' (fun k => k = a) ∧ σ'.1.length = σ.1.length ∧ σ'.2 = σ.2 := by
  obtain ⟨h0, o1, f, o2, o3⟩ := h.1
  have la : a < σ.1.length := (List.getElem?_eq_some_iff.mp o1).1
  let τ : sSt := (σ.1.set a (.inl (5, [.ref (a + 1), .ref (a + 2), .int (nI S.1.length), .int (nI v), .int (nI S.2.2.1), .int S.2.2.2.1])), σ.2)
  have m : Keep σ τ (fun k => k = a) := Keep.set rfl
  refine ⟨τ, mV_eq o1 rfl rfl ?_, h.nums (S' := (S.1, v, S.2.2)) ⟨⟨h0.1, h0.2.1, hv, h0.2.2.2⟩, List.getElem?_set_self la, f, (List.getElem?_set_ne (by omega)).trans o2, o3⟩ (m.mono (fun _ _ e => Or.inl e)) (fun q hq => ⟨rfl, rfl⟩), m, by show (σ.1.set _ _).length = _; rw [List.length_set], rfl⟩
  unfold B_X6_changeSetting
  simp only [x_and, x_or, x_shl, x_shr, x_k, x_i, x_r, x_nil, x_add, x_sub, x_mul, x_div, x_rem, x_get, x_getR, x_ald, x_aldR, x_len, x_lenR, x_if, xa_nil, xa_ci, xa_cr, x_callI, x_callR, x_new, x_newa, x_newq, x_max, x_min, xc_cmp, xc_cmp0, xc_null, xc_nn, xc_not, xc_and, xc_or, xc_if, xs_skip, xs_seq, xs_decI, xs_decR, xs_setI, xs_inc, xs_if, xs_blk, xs_retI, xs_retB, xs_retR, xs_retD, xs_ret0, xs_putI, xs_putZ, xs_putR, xs_putop, xs_ast, xs_astop, xs_astR, xs_callV, xs_callP, xs_super, xs_sw, s_go_inl, s_go_inr, s_cut_inl, s_cut_inr, o_void_n, v_i_int, v_i_none, v_r_ref, v_r_null, v_r_rf, h_set_some, o_some_s, zB_ne0, zB_ite, zB_ite2, g_Vn, g_Pi, nI_add, Option.bind_some, Option.map_some, Option.bind_none, Option.map_none, List.getElem?_cons_zero, List.getElem?_cons_succ, List.set_cons_zero, List.set_cons_succ, List.cons_append, List.nil_append, List.take_succ_cons, List.take_zero, List.length_cons, List.length_nil, Nat.zero_add, Nat.reduceAdd, Nat.reduceLT, if_true, if_false, Bool.false_eq_true, Bool.true_eq_false, decide_eq_true_eq, decide_true, decide_false, Bool.not_true, Bool.not_false, Option.isNone_none, Option.isNone_some, Option.isSome_none, Option.isSome_some, ite_true, ite_false, reduceIte, reduceCtorEq, and_true, true_and, eq_self, Option.some.injEq, Sum.inr.injEq, Sum.inl.injEq, Prod.mk.injEq, j_eq0 (show 0 < 2 ^ 31 by omega), j_ge0 (show v < 2 ^ 31 by omega), j_le (show v < 2 ^ 31 by omega) (show 2 < 2 ^ 31 by omega), hv, h_obj_eq o1, v_rf]
  rfl
theorem f_setStride (h : StAt σ a p c S) {v : Nat} (hv : 1 ≤ v ∧ v ≤ 4) : ∃ σ', M_X6_changeSetting [.ref a, .int (nI 1), .int (nI v)] σ = some (some (.int (nI S.2.2.1)), σ') ∧ StAt σ' a p c (S.1, S.2.1, v, S.2.2.2) ∧ Keep σ σ' (fun k => k = a) ∧ σ'.1.length = σ.1.length ∧ σ'.2 = σ.2 := by
  obtain ⟨h0, o1, f, o2, o3⟩ := h.1
  have la : a < σ.1.length := (List.getElem?_eq_some_iff.mp o1).1
  let τ : sSt := (σ.1.set a (.inl (5, [.ref (a + 1), .ref (a + 2), .int (nI S.1.length), .int (nI S.2.1), .int (nI v), .int S.2.2.2.1])), σ.2)
  have m : Keep σ τ (fun k => k = a) := Keep.set rfl
  refine ⟨τ, mV_eq o1 rfl rfl ?_, h.nums (S' := (S.1, S.2.1, v, S.2.2.2)) ⟨⟨h0.1, h0.2.1, h0.2.2.1, hv⟩, List.getElem?_set_self la, f, (List.getElem?_set_ne (by omega)).trans o2, o3⟩ (m.mono (fun _ _ e => Or.inl e)) (fun q hq => ⟨rfl, rfl⟩), m, by show (σ.1.set _ _).length = _; rw [List.length_set], rfl⟩
  unfold B_X6_changeSetting
  simp only [x_and, x_or, x_shl, x_shr, x_k, x_i, x_r, x_nil, x_add, x_sub, x_mul, x_div, x_rem, x_get, x_getR, x_ald, x_aldR, x_len, x_lenR, x_if, xa_nil, xa_ci, xa_cr, x_callI, x_callR, x_new, x_newa, x_newq, x_max, x_min, xc_cmp, xc_cmp0, xc_null, xc_nn, xc_not, xc_and, xc_or, xc_if, xs_skip, xs_seq, xs_decI, xs_decR, xs_setI, xs_inc, xs_if, xs_blk, xs_retI, xs_retB, xs_retR, xs_retD, xs_ret0, xs_putI, xs_putZ, xs_putR, xs_putop, xs_ast, xs_astop, xs_astR, xs_callV, xs_callP, xs_super, xs_sw, s_go_inl, s_go_inr, s_cut_inl, s_cut_inr, o_void_n, v_i_int, v_i_none, v_r_ref, v_r_null, v_r_rf, h_set_some, o_some_s, zB_ne0, zB_ite, zB_ite2, g_Vn, g_Pi, nI_add, Option.bind_some, Option.map_some, Option.bind_none, Option.map_none, List.getElem?_cons_zero, List.getElem?_cons_succ, List.set_cons_zero, List.set_cons_succ, List.cons_append, List.nil_append, List.take_succ_cons, List.take_zero, List.length_cons, List.length_nil, Nat.zero_add, Nat.reduceAdd, Nat.reduceLT, if_true, if_false, Bool.false_eq_true, Bool.true_eq_false, decide_eq_true_eq, decide_true, decide_false, Bool.not_true, Bool.not_false, Option.isNone_none, Option.isNone_some, Option.isSome_none, Option.isSome_some, ite_true, ite_false, reduceIte, reduceCtorEq, and_true, true_and, eq_self, Option.some.injEq, Sum.inr.injEq, Sum.inl.injEq, Prod.mk.injEq, j_eq0 (show 1 < 2 ^ 31 by omega), show ¬ 1 = 0 by omega, j_eq (show 1 < 2 ^ 31 by omega) (show 1 < 2 ^ 31 by omega), j_ge (show v < 2 ^ 31 by omega) (show 1 < 2 ^ 31 by omega), j_le (show v < 2 ^ 31 by omega) (show 4 < 2 ^ 31 by omega), hv.1, hv.2, h_obj_eq o1, v_rf]
  rfl
end
