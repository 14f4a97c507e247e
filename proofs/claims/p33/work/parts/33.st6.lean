/-! Stairs' writers that book (own work): to take off, to split -/
/-- what a writer of Stairs at a, its accounts' rows at p, leaves alone and takes -/
def EffS (σ σ' : sSt) (a p c p' c' : Nat) : Prop := Keep σ σ' (fun i => i = a ∨ i = a + 1 ∨ i = a + 2 ∨ (p ≤ i ∧ i < p + 3)) ∧ ((p' = p ∧ c' = c) ∨ σ.1.length ≤ p') ∧ p' + 3 ≤ σ'.1.length ∧ σ'.1.length + 3 * c ≤ σ.1.length + 3 * c' ∧ σ'.2 + 3 * Gam c ≤ σ.2 + 3 * Gam c' ∧ c ≤ c'
theorem EffS.after {σ σ1 σ2 : sSt} {a p c p' c' : Nat} (h : EffS σ σ1 a p c p' c') (m : Keep σ1 σ2 (fun k => k = a ∨ k = a + 1)) (l : σ2.1.length = σ1.1.length) (n : σ2.2 = σ1.2) : EffS σ σ2 a p c p' c' := by
  obtain ⟨h1, h2, h3, h4, h5, h6⟩ := h
  exact ⟨h1.tr m (fun i _ e => e.elim Or.inl (fun z => Or.inr (Or.inl z))), h2, by omega, by omega, by omega, h6⟩
theorem ex_1 {q : Nat} : ex q 1 = 0 := ex_s (fun z => by
  have := Nat.le_of_dvd (Nat.le_refl 1) (Nat.dvd_of_mod_eq_zero z.2.2)
  omega)
section
variable {σ : sSt} {a p c : Nat} {S : tS}
theorem st_book (h : StAt σ a p c S) {n : Nat} (dc dm : Int32) (h1n : 1 ≤ n) (hn : n ≤ 9999) :
    ∃ σ' p' c' ps', M_X0_book [.ref (a + 2), .int (nI n), .int dc, .int dm] σ = some (none, σ') ∧ StO σ' a S ∧ AccAt σ' (a + 2) p' c' ps' (bkL dc (fac n) (sCh S)) (bkL dm (fac n) (came S)) ∧ okA ps' (bkL dc (fac n) (sCh S)) (bkL dm (fac n) (came S)) ∧ EffS σ σ' a p c p' c' ∧ (p' + 3 ≤ a ∨ a + 3 ≤ p') := by
  obtain ⟨ho, ⟨ps, hA, hk⟩, hd⟩ := h
  obtain ⟨σ', p', c', ps', r, hA', hk', he⟩ := f_book hA hk dc dm h1n hn
  obtain ⟨k1, k2, k3, k4, k5, k6⟩ := he
  have hlb : a + 2 < σ.1.length := (List.getElem?_eq_some_iff.mp hA.1).1
  have g : ∀ {i : Nat} {x : sAC}, σ.1[i]? = some x → ¬ (i = a + 2 ∨ (p ≤ i ∧ i < p + 3)) → σ'.1[i]? = some x := fun hi hn => (k1.2 _ (List.getElem?_eq_some_iff.mp hi).1 hn).trans hi
  obtain ⟨h0, o1, f, o2, o3⟩ := ho
  refine ⟨σ', p', c', ps', r, ⟨h0, g o1 (by omega), f, g o2 (by omega), o3⟩, hA', hk', ⟨k1.mono (fun i _ e => e.elim (fun z => Or.inr (Or.inr (Or.inl z))) (fun z => Or.inr (Or.inr (Or.inr z)))), k2, k3, k4, k5, k6⟩, ?_⟩
  rcases k2 with e | e
  · omega
  · omega
theorem st_end {σ2 : sSt} {S' : tS} {p' c' : Nat} {ps' : List Nat} {ch cm : Nat → Int32} {σ' : sSt} (hA : AccAt σ' (a + 2) p' c' ps' ch cm) (hk : okA ps' ch cm) (hd : p' + 3 ≤ a ∨ a + 3 ≤ p') (k : StO σ2 a S') (m : Keep σ' σ2 (fun k => k = a ∨ k = a + 1)) (e : ∀ q, isPr q → sCh S' q = ch q ∧ came S' q = cm q) : StAt σ2 a p' c' S' :=
  ⟨k, ⟨ps', (hA.keep m ⟨by omega, by omega, by omega, by omega⟩).congr hk e, hk.congr e⟩, hd⟩
theorem f_takeOff (h : StAt σ a p c S) {i : Nat} (hi : i < S.1.length) : ∃ σ' p' c', M_X6_takeOff [.ref a, .int (nI i)] σ = some (some (.int (nI (sN S i))), σ') ∧ StAt σ' a p' c' (S.1.eraseIdx i, S.2) ∧ EffS σ σ' a p c p' c' := by
  have hl := h.1.1.1
  have b1 := sN_ok h.1.1 i
  obtain ⟨σ1, p', c', ps', r1, k1, hA, hk, e1, hd⟩ := st_book h (nI 0) (-1) b1.1 b1.2
  obtain ⟨σ2, r2, k2, m2, l2, n2⟩ := f_closeUp k1 hi
  refine ⟨σ2, p', c', mV_eq h.1.2.1 rfl rfl ?_, st_end hA hk hd k2 m2 (fun q hq => ⟨by rw [bkL_0]; rfl, ?_⟩), e1.after m2 l2 n2⟩
  · unfold B_X6_takeOff
    simp only [x_and, x_or, x_shl, x_shr, x_k, x_i, x_r, x_nil, x_add, x_sub, x_mul, x_div, x_rem, x_get, x_getR, x_ald, x_aldR, x_len, x_lenR, x_if, xa_nil, xa_ci, xa_cr, x_callI, x_callR, x_new, x_newa, x_newq, x_max, x_min, xc_cmp, xc_cmp0, xc_null, xc_nn, xc_not, xc_and, xc_or, xc_if, xs_skip, xs_seq, xs_decI, xs_decR, xs_setI, xs_inc, xs_if, xs_blk, xs_retI, xs_retB, xs_retR, xs_retD, xs_ret0, xs_putI, xs_putZ, xs_putR, xs_putop, xs_ast, xs_astop, xs_astR, xs_callV, xs_callP, xs_super, xs_sw, s_go_inl, s_go_inr, s_cut_inl, s_cut_inr, o_void_n, v_i_int, v_i_none, v_r_ref, v_r_null, v_r_rf, h_set_some, o_some_s, zB_ne0, zB_ite, zB_ite2, g_Vn, g_Pi, nI_add, Option.bind_some, Option.map_some, Option.bind_none, Option.map_none, List.getElem?_cons_zero, List.getElem?_cons_succ, List.set_cons_zero, List.set_cons_succ, List.cons_append, List.nil_append, List.take_succ_cons, List.take_zero, List.length_cons, List.length_nil, Nat.zero_add, Nat.reduceAdd, Nat.reduceLT, if_true, if_false, Bool.false_eq_true, Bool.true_eq_false, decide_eq_true_eq, decide_true, decide_false, Bool.not_true, Bool.not_false, Option.isNone_none, Option.isNone_some, Option.isSome_none, Option.isSome_some, ite_true, ite_false, reduceIte, reduceCtorEq, and_true, true_and, eq_self, Option.some.injEq, Sum.inr.injEq, Sum.inl.injEq, Prod.mk.injEq, v_rf, f_has h.1 (show i < 2 ^ 31 by omega), hi, f_numberOf h.1 (show i < 2 ^ 31 by omega), h_obj_eq h.1.2.1, r1, r2]
  · rw [bkL_m, fac_count hq _ _ (Nat.le_refl _) b1.1]
    show sCh S q + exL q (S.1.eraseIdx i) = sCh S q + exL q S.1 - _
    rw [exL_del S.1 i (sN_in hi), Int32.sub_eq_add_neg, Int32.add_assoc]
/-- a step is split by a divisor of it -/
def spl (S : tS) (i d : Nat) : tS := if sN S i / d = 1 then (S.1.eraseIdx i, S.2.1, S.2.2.1, S.2.2.2.1 + nI 1, fun q => sCh S q + nI (ex q d)) else (S.1.set i (sN S i / d), S.2.1, S.2.2.1, S.2.2.2.1, fun q => sCh S q + nI (ex q d))
theorem f_split (h : StAt σ a p c S) {i d : Nat} (hi : i < S.1.length) (hd1 : 1 ≤ d) (hdv : sN S i % d = 0) : ∃ σ' p' c', M_X6_split [.ref a, .int (nI i), .int (nI d)] σ = some (some (.int (nI (sN S i / d))), σ') ∧ StAt σ' a p' c' (spl S i d) ∧ EffS σ σ' a p c p' c' := by
  have hl := h.1.1.1
  have b1 := sN_ok h.1.1 i
  have hdn : d ≤ sN S i := Nat.le_of_dvd b1.1 (Nat.dvd_of_mod_eq_zero hdv)
  have hm : d * (sN S i / d) = sN S i := Nat.mul_div_cancel' (Nat.dvd_of_mod_eq_zero hdv)
  have hq1 : 1 ≤ sN S i / d := Nat.div_pos hdn hd1
  have hq2 : sN S i / d ≤ 9999 := Nat.le_trans (Nat.div_le_self _ _) b1.2
  have hex : ∀ q, isPr q → ex q (sN S i) = ex q d + ex q (sN S i / d) := fun q hq => by
    have := ex_mul hq d d (sN S i / d) (Nat.le_refl _) hd1 hq1
    rw [hm] at this
    exact this
  obtain ⟨σ1, p', c', ps', r1, k1, hA, hk, e1, hd⟩ := st_book h (nI 1) (nI 0) hd1 (show d ≤ 9999 by omega)
  have hch : ∀ q, isPr q → sCh S q + nI (ex q d) = bkL (nI 1) (fac d) (sCh S) q := fun q hq => by
    rw [bkL_1, fac_count hq _ _ (Nat.le_refl _) hd1]
  by_cases c1 : sN S i / d = 1
  · obtain ⟨σ2, r2, k2, m2, l2, n2⟩ := f_closeUp k1 hi
    have la : a < σ2.1.length := (List.getElem?_eq_some_iff.mp k2.2.1).1
    let τ : sSt := (σ2.1.set a (.inl (5, [.ref (a + 1), .ref (a + 2), .int (nI (S.1.eraseIdx i).length), .int (nI S.2.1), .int (nI S.2.2.1), .int (S.2.2.2.1 + nI 1)])), σ2.2)
    have m3 : Keep σ2 τ (fun k => k = a ∨ k = a + 1) := Keep.set (Or.inl rfl)
    have lτ : τ.1.length = σ2.1.length := by show (σ2.1.set _ _).length = _; rw [List.length_set]
    obtain ⟨g0, g1, f, g2, g3⟩ := k2
    have k3 : StO τ a (spl S i d) := by
      unfold spl
      rw [if_pos c1]
      exact ⟨g0, List.getElem?_set_self la, f, (List.getElem?_set_ne (by omega)).trans g2, g3⟩
    refine ⟨τ, p', c', mV_eq h.1.2.1 rfl rfl ?_, st_end hA hk hd k3 (m2.tr m3 (fun _ _ e => e)) (fun q hq => ?_), e1.after (m2.tr m3 (fun _ _ e => e)) (lτ.trans l2) n2⟩
    · unfold B_X6_split
      simp only [x_and, x_or, x_shl, x_shr, x_k, x_i, x_r, x_nil, x_add, x_sub, x_mul, x_div, x_rem, x_get, x_getR, x_ald, x_aldR, x_len, x_lenR, x_if, xa_nil, xa_ci, xa_cr, x_callI, x_callR, x_new, x_newa, x_newq, x_max, x_min, xc_cmp, xc_cmp0, xc_null, xc_nn, xc_not, xc_and, xc_or, xc_if, xs_skip, xs_seq, xs_decI, xs_decR, xs_setI, xs_inc, xs_if, xs_blk, xs_retI, xs_retB, xs_retR, xs_retD, xs_ret0, xs_putI, xs_putZ, xs_putR, xs_putop, xs_ast, xs_astop, xs_astR, xs_callV, xs_callP, xs_super, xs_sw, s_go_inl, s_go_inr, s_cut_inl, s_cut_inr, o_void_n, v_i_int, v_i_none, v_r_ref, v_r_null, v_r_rf, h_set_some, o_some_s, zB_ne0, zB_ite, zB_ite2, g_Vn, g_Pi, nI_add, Option.bind_some, Option.map_some, Option.bind_none, Option.map_none, List.getElem?_cons_zero, List.getElem?_cons_succ, List.set_cons_zero, List.set_cons_succ, List.cons_append, List.nil_append, List.take_succ_cons, List.take_zero, List.length_cons, List.length_nil, Nat.zero_add, Nat.reduceAdd, Nat.reduceLT, if_true, if_false, Bool.false_eq_true, Bool.true_eq_false, decide_eq_true_eq, decide_true, decide_false, Bool.not_true, Bool.not_false, Option.isNone_none, Option.isNone_some, Option.isSome_none, Option.isSome_some, ite_true, ite_false, reduceIte, reduceCtorEq, and_true, true_and, eq_self, Option.some.injEq, Sum.inr.injEq, Sum.inl.injEq, Prod.mk.injEq, v_rf, f_numberOf h.1 (show i < 2 ^ 31 by omega), f_quotient (show sN S i < 2 ^ 31 by omega) (show d < 2 ^ 31 by omega), show 0 < d by omega, h_obj_eq h.1.2.1, r1, c1, j_eq (show 1 < 2 ^ 31 by omega) (show 1 < 2 ^ 31 by omega), r2, h_obj_eq g1]
      rfl
    · unfold spl came
      rw [if_pos c1]
      refine ⟨hch q hq, ?_⟩
      rw [bkL_0]
      show sCh S q + nI (ex q d) + exL q (S.1.eraseIdx i) = sCh S q + exL q S.1
      rw [exL_del S.1 i (sN_in hi), hex q hq, c1, ex_1, Nat.add_zero, Int32.add_assoc]
      congr 1
      rw [← Int32.add_assoc, i_canc]
  · obtain ⟨σ2, r2, k2, m2, l2, n2⟩ := put_num k1 hi hq1 hq2
    have m3 := m2.mono (G := fun k => k = a ∨ k = a + 1) (fun _ _ e => Or.inr e)
    have k3 : StO σ2 a (spl S i d) := by
      unfold spl
      rw [if_neg c1]
      exact k2
    refine ⟨σ2, p', c', mV_eq h.1.2.1 rfl rfl ?_, st_end hA hk hd k3 m3 (fun q hq => ?_), e1.after m3 l2 n2⟩
    · unfold B_X6_split
      simp only [x_and, x_or, x_shl, x_shr, x_k, x_i, x_r, x_nil, x_add, x_sub, x_mul, x_div, x_rem, x_get, x_getR, x_ald, x_aldR, x_len, x_lenR, x_if, xa_nil, xa_ci, xa_cr, x_callI, x_callR, x_new, x_newa, x_newq, x_max, x_min, xc_cmp, xc_cmp0, xc_null, xc_nn, xc_not, xc_and, xc_or, xc_if, xs_skip, xs_seq, xs_decI, xs_decR, xs_setI, xs_inc, xs_if, xs_blk, xs_retI, xs_retB, xs_retR, xs_retD, xs_ret0, xs_putI, xs_putZ, xs_putR, xs_putop, xs_ast, xs_astop, xs_astR, xs_callV, xs_callP, xs_super, xs_sw, s_go_inl, s_go_inr, s_cut_inl, s_cut_inr, o_void_n, v_i_int, v_i_none, v_r_ref, v_r_null, v_r_rf, h_set_some, o_some_s, zB_ne0, zB_ite, zB_ite2, g_Vn, g_Pi, nI_add, Option.bind_some, Option.map_some, Option.bind_none, Option.map_none, List.getElem?_cons_zero, List.getElem?_cons_succ, List.set_cons_zero, List.set_cons_succ, List.cons_append, List.nil_append, List.take_succ_cons, List.take_zero, List.length_cons, List.length_nil, Nat.zero_add, Nat.reduceAdd, Nat.reduceLT, if_true, if_false, Bool.false_eq_true, Bool.true_eq_false, decide_eq_true_eq, decide_true, decide_false, Bool.not_true, Bool.not_false, Option.isNone_none, Option.isNone_some, Option.isSome_none, Option.isSome_some, ite_true, ite_false, reduceIte, reduceCtorEq, and_true, true_and, eq_self, Option.some.injEq, Sum.inr.injEq, Sum.inl.injEq, Prod.mk.injEq, v_rf, f_numberOf h.1 (show i < 2 ^ 31 by omega), f_quotient (show sN S i < 2 ^ 31 by omega) (show d < 2 ^ 31 by omega), show 0 < d by omega, h_obj_eq h.1.2.1, r1, j_eq (show sN S i / d < 2 ^ 31 by omega) (show 1 < 2 ^ 31 by omega), c1, h_obj_eq k1.2.1, r2]
    · unfold spl came
      rw [if_neg c1]
      refine ⟨hch q hq, ?_⟩
      rw [bkL_0]
      show sCh S q + nI (ex q d) + exL q (S.1.set i (sN S i / d)) = sCh S q + exL q S.1
      rw [exL_set S.1 i (sN_in hi), hex q hq, ← nI_add, Int32.add_assoc]
      congr 1
      have ring : ∀ e x f : Int32, e + (x + -(e + f) + f) = x := by
        intro e x f
        rw [Int32.neg_add, Int32.sub_eq_add_neg, Int32.add_assoc x, Int32.add_assoc (-e), Int32.add_left_neg, Int32.add_zero, ← Int32.add_assoc, i_canc]
      exact ring _ _ _
end
