/-! Accounts (own work): rows of primes, of chips, of what came; they may move to new rows when they grow -/
def Gam (c : Nat) : Nat := if c < 1229 then 2 * c else 3687
def Keep (σ σ' : sSt) (F : Nat → Prop) : Prop := σ.1.length ≤ σ'.1.length ∧ ∀ i, i < σ.1.length → ¬ F i → σ'.1[i]? = σ.1[i]?
theorem Keep.rf {σ : sSt} {F : Nat → Prop} : Keep σ σ F := ⟨Nat.le_refl _, fun _ _ _ => rfl⟩
theorem Keep.tr {σ σ1 σ2 : sSt} {F G : Nat → Prop} (h : Keep σ σ1 F) (k : Keep σ1 σ2 G) (hG : ∀ i, i < σ.1.length → G i → F i) : Keep σ σ2 F :=
  ⟨Nat.le_trans h.1 k.1, fun i h1 h2 => (k.2 i (Nat.lt_of_lt_of_le h1 h.1) (fun g => h2 (hG i h1 g))).trans (h.2 i h1 h2)⟩
theorem Keep.mono {σ σ1 : sSt} {F G : Nat → Prop} (h : Keep σ σ1 F) (hG : ∀ i, i < σ.1.length → F i → G i) : Keep σ σ1 G := ⟨h.1, fun i h1 h2 => h.2 i h1 (fun g => h2 (hG i h1 g))⟩
theorem Keep.set {σ : sSt} {b : Nat} {a : sAC} {F : Nat → Prop} (hF : F b) : Keep σ (σ.1.set b a, σ.2) F := ⟨by rw [List.length_set]; exact Nat.le_refl _, fun i h1 h2 => List.getElem?_set_ne (fun e => h2 (by rw [← e]; exact hF))⟩
/-- what happens to the accounts at b with rows at p of c places -/
def EffA (σ σ' : sSt) (b p c p' c' : Nat) : Prop := Keep σ σ' (fun i => i = b ∨ (p ≤ i ∧ i < p + 3)) ∧ ((p' = p ∧ c' = c) ∨ σ.1.length ≤ p') ∧ p' + 3 ≤ σ'.1.length ∧ σ'.1.length + 3 * c ≤ σ.1.length + 3 * c' ∧ σ'.2 + 3 * Gam c ≤ σ.2 + 3 * Gam c' ∧ c ≤ c'
theorem EffA.tr {σ σ1 σ2 : sSt} {b p c p1 c1 p2 c2 : Nat} (h : EffA σ σ1 b p c p1 c1) (k : EffA σ1 σ2 b p1 c1 p2 c2) : EffA σ σ2 b p c p2 c2 := by
  obtain ⟨h1, h2, h3, h4, h5, h6⟩ := h
  obtain ⟨k1, k2, k3, k4, k5, k6⟩ := k
  refine ⟨h1.tr k1 (fun i hi g => ?_), ?_, k3, by omega, by omega, by omega⟩
  · rcases g with g | g
    · exact Or.inl g
    · rcases h2 with ⟨e, -⟩ | e
      · exact Or.inr (by omega)
      · omega
  · have := h1.1
    rcases k2 with ⟨e1, e2⟩ | e
    · rcases h2 with ⟨e3, e4⟩ | e3
      · exact Or.inl ⟨by omega, by omega⟩
      · exact Or.inr (by omega)
    · exact Or.inr (by omega)
def AccAt (σ : sSt) (b p c : Nat) (ps : List Nat) (ch cm : Nat → Int32) : Prop :=
  σ.1[b]? = some (.inl (0, [.ref p, .ref (p + 1), .ref (p + 2), .int (nI ps.length)])) ∧ ps.length ≤ c ∧ 16 ≤ c ∧ c ≤ 1229 ∧ (b < p ∨ p + 3 ≤ b) ∧
  ∃ fp fc fm : Nat → Int32, σ.1[p]? = some (.inr (.inl (c, fp))) ∧ σ.1[p + 1]? = some (.inr (.inl (c, fc))) ∧ σ.1[p + 2]? = some (.inr (.inl (c, fm))) ∧ ∀ (j q : Nat), ps[j]? = some q → fp j = nI q ∧ fc j = ch q ∧ fm j = cm q
theorem AccAt.rf {σ : sSt} {b p c : Nat} {ps : List Nat} {ch cm : Nat → Int32} (h : AccAt σ b p c ps ch cm) : EffA σ σ b p c p c := by
  obtain ⟨-, -, -, -, -, _, _, _, -, -, h2, -⟩ := h
  have := (List.getElem?_eq_some_iff.mp h2).1
  exact ⟨Keep.rf, Or.inl ⟨rfl, rfl⟩, by omega, Nat.le_refl _, Nat.le_refl _, Nat.le_refl _⟩
/-- accounts elsewhere are kept -/
theorem AccAt.keep {σ σ' : sSt} {F : Nat → Prop} {b p c : Nat} {ps : List Nat} {ch cm : Nat → Int32} (h : AccAt σ b p c ps ch cm) (k : Keep σ σ' F) (hF : ¬ F b ∧ ¬ F p ∧ ¬ F (p + 1) ∧ ¬ F (p + 2)) : AccAt σ' b p c ps ch cm := by
  obtain ⟨h1, h2, h3, h4, h5, fp, fc, fm, e1, e2, e3, e4⟩ := h
  have g : ∀ {i : Nat} {a : sAC}, σ.1[i]? = some a → ¬ F i → σ'.1[i]? = some a := fun hi hn => (k.2 _ (List.getElem?_eq_some_iff.mp hi).1 hn).trans hi
  exact ⟨g h1 hF.1, h2, h3, h4, h5, fp, fc, fm, g e1 hF.2.1, g e2 hF.2.2.1, g e3 hF.2.2.2, e4⟩
theorem v_rf (k : Nat) : va_rf (some k) = .ref k := rfl
section
variable {σ : sSt}
theorem f_longer {r n m : Nat} {f : Nat → Int32} (hr : σ.1[r]? = some (.inr (.inl (n, f)))) (hnm : n < m) (hm : m ≤ 100000) :
    M_X5_longer [.ref r, .int (nI m)] σ = some (some (.ref σ.1.length), (σ.1 ++ [.inr (.inl (m, fun i => if i < n then f i else 0))], σ.2 + m)) := by
  refine m_eq rfl rfl ?_
  have hlt : r < σ.1.length := (List.getElem?_eq_some_iff.mp hr).1
  let st : Nat → List Value × sSt := fun j => ([.ref r, .int (nI m), .int (nI n), .ref σ.1.length, .int (nI j)], (σ.1 ++ [.inr (.inl (m, fun i => if i < j then f i else 0))], σ.2 + m))
  have hr' : ∀ j, (st j).2.1[r]? = some (.inr (.inl (n, f))) := fun j => by
    show (σ.1 ++ [_])[r]? = _
    rw [List.getElem?_append_left hlt]; exact hr
  have hn' : ∀ j, (st j).2.1[σ.1.length]? = some (.inr (.inl (m, fun i => if i < j then f i else 0))) := fun j => by
    show (σ.1 ++ [_])[σ.1.length]? = _
    rw [List.getElem?_append_right (Nat.le_refl _), Nat.sub_self]; rfl
  have ht : (nI m).toInt = m := nI_toInt (by omega)
  have e0 : (([.ref r, .int (nI m), .int (nI n), .ref σ.1.length, .int (nI 0)] : List Value), ((σ.1 ++ [.inr (.inl (m, fun _ => 0))], σ.2 + m) : sSt)) = st 0 := by
    show (_, (σ.1 ++ [_], _)) = (_, (σ.1 ++ [_], _))
    have : (fun i => if i < 0 then f i else (0 : Int32)) = fun _ => 0 := funext fun i => if_neg (Nat.not_lt_zero i)
    rw [this]
  have hw := wh_up (C := C_X5_longer_1) (S := W_X5_longer_1) st 0 n e0 (Nat.zero_le _) (by omega) (fun j _ hj => ⟨?_, ?_⟩) ?_
  · unfold B_X5_longer
    have hcl : (nI m).toNatClampNeg = m := nI_clamp (by omega)
    simp only [x_and, x_or, x_shl, x_shr, x_k, x_i, x_r, x_nil, x_add, x_sub, x_mul, x_div, x_rem, x_get, x_getR, x_ald, x_aldR, x_len, x_lenR, x_if, xa_nil, xa_ci, xa_cr, x_callI, x_callR, x_new, x_newa, x_newq, x_max, x_min, xc_cmp, xc_cmp0, xc_null, xc_nn, xc_not, xc_and, xc_or, xc_if, xs_skip, xs_seq, xs_decI, xs_decR, xs_setI, xs_inc, xs_if, xs_blk, xs_retI, xs_retB, xs_retR, xs_retD, xs_ret0, xs_putI, xs_putZ, xs_putR, xs_putop, xs_ast, xs_astop, xs_astR, xs_callV, xs_callP, xs_super, xs_sw, s_go_inl, s_go_inr, s_cut_inl, s_cut_inr, o_void_n, v_i_int, v_i_none, v_r_ref, v_r_null, v_r_rf, h_set_some, o_some_s, zB_ne0, zB_ite, zB_ite2, g_Vn, g_Pi, nI_add, Option.bind_some, Option.map_some, Option.bind_none, Option.map_none, List.getElem?_cons_zero, List.getElem?_cons_succ, List.set_cons_zero, List.set_cons_succ, List.cons_append, List.nil_append, List.take_succ_cons, List.take_zero, List.length_cons, List.length_nil, Nat.zero_add, Nat.reduceAdd, Nat.reduceLT, if_true, if_false, Bool.false_eq_true, Bool.true_eq_false, decide_eq_true_eq, decide_true, decide_false, Bool.not_true, Bool.not_false, Option.isNone_none, Option.isNone_some, Option.isSome_none, Option.isSome_some, ite_true, ite_false, reduceIte, reduceCtorEq, and_true, true_and, eq_self, Option.some.injEq, Sum.inr.injEq, Sum.inl.injEq, Prod.mk.injEq, h_arr_eq hr, j_of, j_gt (show m < 2 ^ 31 by omega) (show n < 2 ^ 31 by omega), hnm, ht, show (0 : Int) ≤ (m : Int) by omega, show (m : Int) ≤ 100000 by omega, hcl, v_rf, hw]
    rfl
  · show C_X5_longer_1 [.ref r, .int (nI m), .int (nI n), .ref σ.1.length, .int (nI j)] (st j).2 = some (true, (st j).2)
    simp only [x_and, x_or, x_shl, x_shr, x_k, x_i, x_r, x_nil, x_add, x_sub, x_mul, x_div, x_rem, x_get, x_getR, x_ald, x_aldR, x_len, x_lenR, x_if, xa_nil, xa_ci, xa_cr, x_callI, x_callR, x_new, x_newa, x_newq, x_max, x_min, xc_cmp, xc_cmp0, xc_null, xc_nn, xc_not, xc_and, xc_or, xc_if, xs_skip, xs_seq, xs_decI, xs_decR, xs_setI, xs_inc, xs_if, xs_blk, xs_retI, xs_retB, xs_retR, xs_retD, xs_ret0, xs_putI, xs_putZ, xs_putR, xs_putop, xs_ast, xs_astop, xs_astR, xs_callV, xs_callP, xs_super, xs_sw, s_go_inl, s_go_inr, s_cut_inl, s_cut_inr, o_void_n, v_i_int, v_i_none, v_r_ref, v_r_null, v_r_rf, h_set_some, o_some_s, zB_ne0, zB_ite, zB_ite2, g_Vn, g_Pi, nI_add, Option.bind_some, Option.map_some, Option.bind_none, Option.map_none, List.getElem?_cons_zero, List.getElem?_cons_succ, List.set_cons_zero, List.set_cons_succ, List.cons_append, List.nil_append, List.take_succ_cons, List.take_zero, List.length_cons, List.length_nil, Nat.zero_add, Nat.reduceAdd, Nat.reduceLT, if_true, if_false, Bool.false_eq_true, Bool.true_eq_false, decide_eq_true_eq, decide_true, decide_false, Bool.not_true, Bool.not_false, Option.isNone_none, Option.isNone_some, Option.isSome_none, Option.isSome_some, ite_true, ite_false, reduceIte, reduceCtorEq, and_true, true_and, eq_self, Option.some.injEq, Sum.inr.injEq, Sum.inl.injEq, Prod.mk.injEq, h_arr_eq (hr' j), h_arr_eq (hn' j), j_of, j_lt (show j < 2 ^ 31 by omega) (show n < 2 ^ 31 by omega), j_lt (show j < 2 ^ 31 by omega) (show m < 2 ^ 31 by omega), hj, show j < m by omega]
  · show W_X5_longer_1 [.ref r, .int (nI m), .int (nI n), .ref σ.1.length, .int (nI j)] (st j).2 = some (.inr (st (j + 1)))
    simp only [x_and, x_or, x_shl, x_shr, x_k, x_i, x_r, x_nil, x_add, x_sub, x_mul, x_div, x_rem, x_get, x_getR, x_ald, x_aldR, x_len, x_lenR, x_if, xa_nil, xa_ci, xa_cr, x_callI, x_callR, x_new, x_newa, x_newq, x_max, x_min, xc_cmp, xc_cmp0, xc_null, xc_nn, xc_not, xc_and, xc_or, xc_if, xs_skip, xs_seq, xs_decI, xs_decR, xs_setI, xs_inc, xs_if, xs_blk, xs_retI, xs_retB, xs_retR, xs_retD, xs_ret0, xs_putI, xs_putZ, xs_putR, xs_putop, xs_ast, xs_astop, xs_astR, xs_callV, xs_callP, xs_super, xs_sw, s_go_inl, s_go_inr, s_cut_inl, s_cut_inr, o_void_n, v_i_int, v_i_none, v_r_ref, v_r_null, v_r_rf, h_set_some, o_some_s, zB_ne0, zB_ite, zB_ite2, g_Vn, g_Pi, nI_add, Option.bind_some, Option.map_some, Option.bind_none, Option.map_none, List.getElem?_cons_zero, List.getElem?_cons_succ, List.set_cons_zero, List.set_cons_succ, List.cons_append, List.nil_append, List.take_succ_cons, List.take_zero, List.length_cons, List.length_nil, Nat.zero_add, Nat.reduceAdd, Nat.reduceLT, if_true, if_false, Bool.false_eq_true, Bool.true_eq_false, decide_eq_true_eq, decide_true, decide_false, Bool.not_true, Bool.not_false, Option.isNone_none, Option.isNone_some, Option.isSome_none, Option.isSome_some, ite_true, ite_false, reduceIte, reduceCtorEq, and_true, true_and, eq_self, Option.some.injEq, Sum.inr.injEq, Sum.inl.injEq, Prod.mk.injEq, h_arr_eq (hr' j), h_arr_eq (hn' j), h_ix_nI hj (by omega), h_ix_nI (show j < m by omega) (by omega), nI_clamp (show j < 2 ^ 31 by omega)]
    show (_, ((σ.1 ++ [_]).set σ.1.length _, σ.2 + m)) = (_, (σ.1 ++ [_], σ.2 + m))
    rw [List.set_append_right _ _ (Nat.le_refl _), Nat.sub_self]
    have : upd (fun i => if i < j then f i else 0) j (f j) = fun i => if i < j + 1 then f i else 0 := by
      funext i
      unfold upd
      by_cases h : i = j
      · subst h; simp
      · by_cases h2 : i < j
        · simp [h, h2, show i < j + 1 by omega]
        · simp [h, h2, show ¬ i < j + 1 by omega]
    rw [this]
    rfl
  · show C_X5_longer_1 [.ref r, .int (nI m), .int (nI n), .ref σ.1.length, .int (nI n)] (st n).2 = some (false, (st n).2)
    simp only [x_and, x_or, x_shl, x_shr, x_k, x_i, x_r, x_nil, x_add, x_sub, x_mul, x_div, x_rem, x_get, x_getR, x_ald, x_aldR, x_len, x_lenR, x_if, xa_nil, xa_ci, xa_cr, x_callI, x_callR, x_new, x_newa, x_newq, x_max, x_min, xc_cmp, xc_cmp0, xc_null, xc_nn, xc_not, xc_and, xc_or, xc_if, xs_skip, xs_seq, xs_decI, xs_decR, xs_setI, xs_inc, xs_if, xs_blk, xs_retI, xs_retB, xs_retR, xs_retD, xs_ret0, xs_putI, xs_putZ, xs_putR, xs_putop, xs_ast, xs_astop, xs_astR, xs_callV, xs_callP, xs_super, xs_sw, s_go_inl, s_go_inr, s_cut_inl, s_cut_inr, o_void_n, v_i_int, v_i_none, v_r_ref, v_r_null, v_r_rf, h_set_some, o_some_s, zB_ne0, zB_ite, zB_ite2, g_Vn, g_Pi, nI_add, Option.bind_some, Option.map_some, Option.bind_none, Option.map_none, List.getElem?_cons_zero, List.getElem?_cons_succ, List.set_cons_zero, List.set_cons_succ, List.cons_append, List.nil_append, List.take_succ_cons, List.take_zero, List.length_cons, List.length_nil, Nat.zero_add, Nat.reduceAdd, Nat.reduceLT, if_true, if_false, Bool.false_eq_true, Bool.true_eq_false, decide_eq_true_eq, decide_true, decide_false, Bool.not_true, Bool.not_false, Option.isNone_none, Option.isNone_some, Option.isSome_none, Option.isSome_some, ite_true, ite_false, reduceIte, reduceCtorEq, and_true, true_and, eq_self, Option.some.injEq, Sum.inr.injEq, Sum.inl.injEq, Prod.mk.injEq, h_arr_eq (hr' n), h_arr_eq (hn' n), j_of, j_lt (show n < 2 ^ 31 by omega) (show n < 2 ^ 31 by omega), Nat.lt_irrefl]
theorem j_max {a b : Nat} (ha : a < 2 ^ 31) (hb : b < 2 ^ 31) : (if nI a < nI b then nI b else nI a) = nI (max a b) := by
  by_cases h : a < b
  · rw [if_pos ((nI_ltI ha hb).mpr h), Nat.max_eq_right (Nat.le_of_lt h)]
  · rw [if_neg (fun q => h ((nI_ltI ha hb).mp q)), Nat.max_eq_left (by omega)]
theorem j_min {a b : Nat} (ha : a < 2 ^ 31) (hb : b < 2 ^ 31) : (if nI b < nI a then nI b else nI a) = nI (min a b) := by
  by_cases h : b < a
  · rw [if_pos ((nI_ltI hb ha).mpr h), Nat.min_eq_right (Nat.le_of_lt h)]
  · rw [if_neg (fun q => h ((nI_ltI hb ha).mp q)), Nat.min_eq_left (by omega)]
abbrev kI (n : Nat) (f : Nat → Int32) : sAC := .inr (.inl (n, f))
abbrev kO (ci : Nat) (fs : List Value) : sAC := .inl (ci, fs)
theorem seq_r {S T : sStm} {L L1 : List Value} {σ σ1 : sSt} (h : S L σ = some (.inr (L1, σ1))) : s_seq S T L σ = T L1 σ1 := by
  rw [xs_seq, h]
  rfl
theorem seq_l {S T : sStm} {L : List Value} {σ : sSt} {v : Option Value × sSt} (h : S L σ = some (.inl v)) : s_seq S T L σ = some (.inl v) := by
  rw [xs_seq, h]
  rfl
/-- two steps known as one, ahead of a third -/
theorem seq_as {S T U : sStm} {L L1 : List Value} {σ σ1 : sSt} (h : s_seq S T L σ = some (.inr (L1, σ1))) : s_seq S (s_seq T U) L σ = U L1 σ1 := by
  rw [xs_seq] at h ⊢
  cases hS : S L σ with
  | none => rw [hS] at h; cases h
  | some r =>
    rw [hS] at h
    cases r with
    | inl v => cases h
    | inr q =>
      show s_seq T U q.1 q.2 = _
      exact seq_r h
abbrev G_mk (k : Nat) : sStm := s_putR 0 k (e_r 0) (e_callR M_X5_longer (a_cr (e_getR 0 k (e_r 0)) (a_ci (e_i 2) a_nil)))
theorem f_grow {τ : sSt} {b r k m c c' : Nat} {fs : List Value} {f : Nat → Int32} (hob : τ.1[b]? = some (.inl (0, fs))) (hk : fs[k]? = some (.ref r)) (hr : τ.1[r]? = some (.inr (.inl (c, f)))) (hc : c < c') (hc' : c' ≤ 100000) :
    G_mk k [.ref b, .int (nI m), .int (nI c')] τ = some (.inr ([.ref b, .int (nI m), .int (nI c')], ((τ.1 ++ [kI c' (fun i => if i < c then f i else 0)]).set b (kO 0 (fs.set k (.ref τ.1.length))), τ.2 + c'))) := by
  have hlt : b < τ.1.length := (List.getElem?_eq_some_iff.mp hob).1
  have hkl : k < fs.length := (List.getElem?_eq_some_iff.mp hk).1
  have q1 : (τ.1 ++ [kI c' (fun i => if i < c then f i else 0)])[b]? = some (.inl (0, fs)) := by rw [List.getElem?_append_left hlt]; exact hob
  simp only [x_and, x_or, x_shl, x_shr, x_k, x_i, x_r, x_nil, x_add, x_sub, x_mul, x_div, x_rem, x_get, x_getR, x_ald, x_aldR, x_len, x_lenR, x_if, xa_nil, xa_ci, xa_cr, x_callI, x_callR, x_new, x_newa, x_newq, x_max, x_min, xc_cmp, xc_cmp0, xc_null, xc_nn, xc_not, xc_and, xc_or, xc_if, xs_skip, xs_seq, xs_decI, xs_decR, xs_setI, xs_inc, xs_if, xs_blk, xs_retI, xs_retB, xs_retR, xs_retD, xs_ret0, xs_putI, xs_putZ, xs_putR, xs_putop, xs_ast, xs_astop, xs_astR, xs_callV, xs_callP, xs_super, xs_sw, s_go_inl, s_go_inr, s_cut_inl, s_cut_inr, o_void_n, v_i_int, v_i_none, v_r_ref, v_r_null, v_r_rf, h_set_some, o_some_s, zB_ne0, zB_ite, zB_ite2, g_Vn, g_Pi, nI_add, Option.bind_some, Option.map_some, Option.bind_none, Option.map_none, List.getElem?_cons_zero, List.getElem?_cons_succ, List.set_cons_zero, List.set_cons_succ, List.cons_append, List.nil_append, List.take_succ_cons, List.take_zero, List.length_cons, List.length_nil, Nat.zero_add, Nat.reduceAdd, Nat.reduceLT, if_true, if_false, Bool.false_eq_true, Bool.true_eq_false, decide_eq_true_eq, decide_true, decide_false, Bool.not_true, Bool.not_false, Option.isNone_none, Option.isNone_some, Option.isSome_none, Option.isSome_some, ite_true, ite_false, reduceIte, reduceCtorEq, and_true, true_and, eq_self, Option.some.injEq, Sum.inr.injEq, Sum.inl.injEq, Prod.mk.injEq, h_obj_eq hob, hk, v_rf, f_longer hr hc hc', h_obj_eq (σ := (τ.1 ++ [kI c' (fun i => if i < c then f i else 0)], τ.2 + c')) q1, hkl]
theorem Gam_up {c c' : Nat} (h : c < 1229) (h1 : c' = 1229 ∨ 2 * c ≤ c') (h2 : c' ≤ 1229) : Gam c + c' ≤ Gam c' := by
  unfold Gam
  rw [if_pos h]
  split
  · omega
  · omega
theorem f_makeRoom {b p c : Nat} {ps : List Nat} {ch cm : Nat → Int32} (hA : AccAt σ b p c ps ch cm) {m : Nat} (hm : m ≤ 100000) :
    ∃ σ' p' c', M_X0_makeRoom [.ref b, .int (nI m)] σ = some (none, σ') ∧ AccAt σ' b p' c' ps ch cm ∧ (m ≤ c' ∨ c' = 1229) ∧ EffA σ σ' b p c p' c' := by
  have hA0 := hA
  obtain ⟨h1, h2, h3, h4, h5, fp, fc, fm, e1, e2, e3, e4⟩ := hA
  by_cases hg : m ≤ c ∨ 1229 ≤ c
  · refine ⟨σ, p, c, mV_eq h1 rfl rfl ?_, hA0, by omega, hA0.rf⟩
    unfold B_X0_makeRoom
    by_cases hg2 : m ≤ c
    · simp only [x_and, x_or, x_shl, x_shr, x_k, x_i, x_r, x_nil, x_add, x_sub, x_mul, x_div, x_rem, x_get, x_getR, x_ald, x_aldR, x_len, x_lenR, x_if, xa_nil, xa_ci, xa_cr, x_callI, x_callR, x_new, x_newa, x_newq, x_max, x_min, xc_cmp, xc_cmp0, xc_null, xc_nn, xc_not, xc_and, xc_or, xc_if, xs_skip, xs_seq, xs_decI, xs_decR, xs_setI, xs_inc, xs_if, xs_blk, xs_retI, xs_retB, xs_retR, xs_retD, xs_ret0, xs_putI, xs_putZ, xs_putR, xs_putop, xs_ast, xs_astop, xs_astR, xs_callV, xs_callP, xs_super, xs_sw, s_go_inl, s_go_inr, s_cut_inl, s_cut_inr, o_void_n, v_i_int, v_i_none, v_r_ref, v_r_null, v_r_rf, h_set_some, o_some_s, zB_ne0, zB_ite, zB_ite2, g_Vn, g_Pi, nI_add, Option.bind_some, Option.map_some, Option.bind_none, Option.map_none, List.getElem?_cons_zero, List.getElem?_cons_succ, List.set_cons_zero, List.set_cons_succ, List.cons_append, List.nil_append, List.take_succ_cons, List.take_zero, List.length_cons, List.length_nil, Nat.zero_add, Nat.reduceAdd, Nat.reduceLT, if_true, if_false, Bool.false_eq_true, Bool.true_eq_false, decide_eq_true_eq, decide_true, decide_false, Bool.not_true, Bool.not_false, Option.isNone_none, Option.isNone_some, Option.isSome_none, Option.isSome_some, ite_true, ite_false, reduceIte, reduceCtorEq, and_true, true_and, eq_self, Option.some.injEq, Sum.inr.injEq, Sum.inl.injEq, Prod.mk.injEq, h_obj_eq h1, h_arr_eq e1, j_of, j_le (show m < 2 ^ 31 by omega) (show c < 2 ^ 31 by omega), hg2]
    · simp only [x_and, x_or, x_shl, x_shr, x_k, x_i, x_r, x_nil, x_add, x_sub, x_mul, x_div, x_rem, x_get, x_getR, x_ald, x_aldR, x_len, x_lenR, x_if, xa_nil, xa_ci, xa_cr, x_callI, x_callR, x_new, x_newa, x_newq, x_max, x_min, xc_cmp, xc_cmp0, xc_null, xc_nn, xc_not, xc_and, xc_or, xc_if, xs_skip, xs_seq, xs_decI, xs_decR, xs_setI, xs_inc, xs_if, xs_blk, xs_retI, xs_retB, xs_retR, xs_retD, xs_ret0, xs_putI, xs_putZ, xs_putR, xs_putop, xs_ast, xs_astop, xs_astR, xs_callV, xs_callP, xs_super, xs_sw, s_go_inl, s_go_inr, s_cut_inl, s_cut_inr, o_void_n, v_i_int, v_i_none, v_r_ref, v_r_null, v_r_rf, h_set_some, o_some_s, zB_ne0, zB_ite, zB_ite2, g_Vn, g_Pi, nI_add, Option.bind_some, Option.map_some, Option.bind_none, Option.map_none, List.getElem?_cons_zero, List.getElem?_cons_succ, List.set_cons_zero, List.set_cons_succ, List.cons_append, List.nil_append, List.take_succ_cons, List.take_zero, List.length_cons, List.length_nil, Nat.zero_add, Nat.reduceAdd, Nat.reduceLT, if_true, if_false, Bool.false_eq_true, Bool.true_eq_false, decide_eq_true_eq, decide_true, decide_false, Bool.not_true, Bool.not_false, Option.isNone_none, Option.isNone_some, Option.isSome_none, Option.isSome_some, ite_true, ite_false, reduceIte, reduceCtorEq, and_true, true_and, eq_self, Option.some.injEq, Sum.inr.injEq, Sum.inl.injEq, Prod.mk.injEq, h_obj_eq h1, h_arr_eq e1, j_of, j_le (show m < 2 ^ 31 by omega) (show c < 2 ^ 31 by omega), hg2, j_ge (show c < 2 ^ 31 by omega) (show 1229 < 2 ^ 31 by omega), show 1229 ≤ c by omega]
  · obtain ⟨c', hc'⟩ : ∃ c', c' = min 1229 (max m (2 * c)) := ⟨_, rfl⟩
    have hc1 : c < c' ∧ c' ≤ 1229 ∧ (m ≤ c' ∨ c' = 1229) ∧ (c' = 1229 ∨ 2 * c ≤ c') := by omega
    have hlb : b < σ.1.length := (List.getElem?_eq_some_iff.mp h1).1
    have hlp : p + 2 < σ.1.length := (List.getElem?_eq_some_iff.mp e3).1
    obtain ⟨N, hN⟩ : ∃ N, N = σ.1.length := ⟨_, rfl⟩
    let A1 : sAC := .inr (.inl (c', fun i => if i < c then fp i else 0))
    let A2 : sAC := .inr (.inl (c', fun i => if i < c then fc i else 0))
    let A3 : sAC := .inr (.inl (c', fun i => if i < c then fm i else 0))
    let O1 : sAC := .inl (0, [.ref N, .ref (p + 1), .ref (p + 2), .int (nI ps.length)])
    let O2 : sAC := .inl (0, [.ref N, .ref (N + 1), .ref (p + 2), .int (nI ps.length)])
    let O3 : sAC := .inl (0, [.ref N, .ref (N + 1), .ref (N + 2), .int (nI ps.length)])
    let τ1 : sSt := ((σ.1 ++ [A1]).set b O1, σ.2 + c')
    have t1l : τ1.1.length = N + 1 := by show ((σ.1 ++ [A1]).set b O1).length = _; rw [List.length_set, List.length_append, hN]; rfl
    have t1o : τ1.1[b]? = some O1 := List.getElem?_set_self (by rw [List.length_append]; omega)
    have t1 : ∀ i, i < N → i ≠ b → τ1.1[i]? = σ.1[i]? := fun i hi hib => by
      show ((σ.1 ++ [A1]).set b O1)[i]? = _
      rw [List.getElem?_set_ne (Ne.symm hib), List.getElem?_append_left (by omega)]
    have t1n : τ1.1[N]? = some A1 := by
      show ((σ.1 ++ [A1]).set b O1)[N]? = _
      rw [List.getElem?_set_ne (by omega), List.getElem?_append_right (by omega), hN, Nat.sub_self]; rfl
    have P1 : G_mk 0 [.ref b, .int (nI m), .int (nI c')] σ = some (.inr ([.ref b, .int (nI m), .int (nI c')], τ1)) := by
      have := f_grow (m := m) (k := 0) h1 rfl e1 hc1.1 (by omega)
      rw [← hN] at this
      exact this
    have P2 := f_grow (m := m) (k := 1) (τ := τ1) (r := p + 1) (f := fc) t1o rfl ((t1 (p + 1) (by omega) (by omega)).trans e2) hc1.1 (by omega)
    rw [t1l] at P2
    let τ2 : sSt := ((τ1.1 ++ [A2]).set b O2, τ1.2 + c')
    have t2l : τ2.1.length = N + 2 := by show ((τ1.1 ++ [A2]).set b O2).length = _; rw [List.length_set, List.length_append, t1l]; rfl
    have t2o : τ2.1[b]? = some O2 := List.getElem?_set_self (by rw [List.length_append]; omega)
    have t2 : ∀ i, i < N + 1 → i ≠ b → τ2.1[i]? = τ1.1[i]? := fun i hi hib => by
      show ((τ1.1 ++ [A2]).set b O2)[i]? = _
      rw [List.getElem?_set_ne (Ne.symm hib), List.getElem?_append_left (by omega)]
    have t2n : τ2.1[N + 1]? = some A2 := by
      show ((τ1.1 ++ [A2]).set b O2)[N + 1]? = _
      rw [List.getElem?_set_ne (by omega), List.getElem?_append_right (by omega), t1l, Nat.sub_self]; rfl
    have P3 := f_grow (m := m) (k := 2) (τ := τ2) (r := p + 2) (f := fm) t2o rfl (((t2 (p + 2) (by omega) (by omega)).trans (t1 (p + 2) (by omega) (by omega))).trans e3) hc1.1 (by omega)
    rw [t2l] at P3
    let τ3 : sSt := ((τ2.1 ++ [A3]).set b O3, τ2.2 + c')
    have t3l : τ3.1.length = N + 3 := by show ((τ2.1 ++ [A3]).set b O3).length = _; rw [List.length_set, List.length_append, t2l]; rfl
    have t3o : τ3.1[b]? = some O3 := List.getElem?_set_self (by rw [List.length_append]; omega)
    have t3 : ∀ i, i < N + 2 → i ≠ b → τ3.1[i]? = τ2.1[i]? := fun i hi hib => by
      show ((τ2.1 ++ [A3]).set b O3)[i]? = _
      rw [List.getElem?_set_ne (Ne.symm hib), List.getElem?_append_left (by omega)]
    have t3n : τ3.1[N + 2]? = some A3 := by
      show ((τ2.1 ++ [A3]).set b O3)[N + 2]? = _
      rw [List.getElem?_set_ne (by omega), List.getElem?_append_right (by omega), t2l, Nat.sub_self]; rfl
    refine ⟨τ3, N, c', mV_eq h1 rfl rfl ?_, ?_, hc1.2.2.1, ?_⟩
    · have I1 : (s_if (c_or (c_cmp i_le (e_i 1) (e_len (e_getR 0 0 (e_r 0)))) (c_cmp i_ge (e_len (e_getR 0 0 (e_r 0))) (e_k (nI 1229)))) s_ret0 s_skip) [.ref b, .int (nI m)] σ = some (.inr ([.ref b, .int (nI m)], σ)) := by
        simp only [x_and, x_or, x_shl, x_shr, x_k, x_i, x_r, x_nil, x_add, x_sub, x_mul, x_div, x_rem, x_get, x_getR, x_ald, x_aldR, x_len, x_lenR, x_if, xa_nil, xa_ci, xa_cr, x_callI, x_callR, x_new, x_newa, x_newq, x_max, x_min, xc_cmp, xc_cmp0, xc_null, xc_nn, xc_not, xc_and, xc_or, xc_if, xs_skip, xs_seq, xs_decI, xs_decR, xs_setI, xs_inc, xs_if, xs_blk, xs_retI, xs_retB, xs_retR, xs_retD, xs_ret0, xs_putI, xs_putZ, xs_putR, xs_putop, xs_ast, xs_astop, xs_astR, xs_callV, xs_callP, xs_super, xs_sw, s_go_inl, s_go_inr, s_cut_inl, s_cut_inr, o_void_n, v_i_int, v_i_none, v_r_ref, v_r_null, v_r_rf, h_set_some, o_some_s, zB_ne0, zB_ite, zB_ite2, g_Vn, g_Pi, nI_add, Option.bind_some, Option.map_some, Option.bind_none, Option.map_none, List.getElem?_cons_zero, List.getElem?_cons_succ, List.set_cons_zero, List.set_cons_succ, List.cons_append, List.nil_append, List.take_succ_cons, List.take_zero, List.length_cons, List.length_nil, Nat.zero_add, Nat.reduceAdd, Nat.reduceLT, if_true, if_false, Bool.false_eq_true, Bool.true_eq_false, decide_eq_true_eq, decide_true, decide_false, Bool.not_true, Bool.not_false, Option.isNone_none, Option.isNone_some, Option.isSome_none, Option.isSome_some, ite_true, ite_false, reduceIte, reduceCtorEq, and_true, true_and, eq_self, Option.some.injEq, Sum.inr.injEq, Sum.inl.injEq, Prod.mk.injEq, h_obj_eq h1, h_arr_eq e1, j_of, j_le (show m < 2 ^ 31 by omega) (show c < 2 ^ 31 by omega), show ¬ m ≤ c by omega, j_ge (show c < 2 ^ 31 by omega) (show 1229 < 2 ^ 31 by omega), show ¬ 1229 ≤ c by omega]
      have D1 : (s_decI 2 (e_min (e_k (nI 1229)) (e_max (e_i 1) (e_mul (e_k (nI 2)) (e_len (e_getR 0 0 (e_r 0))))))) [.ref b, .int (nI m)] σ = some (.inr ([.ref b, .int (nI m), .int (nI c')], σ)) := by
        simp only [x_and, x_or, x_shl, x_shr, x_k, x_i, x_r, x_nil, x_add, x_sub, x_mul, x_div, x_rem, x_get, x_getR, x_ald, x_aldR, x_len, x_lenR, x_if, xa_nil, xa_ci, xa_cr, x_callI, x_callR, x_new, x_newa, x_newq, x_max, x_min, xc_cmp, xc_cmp0, xc_null, xc_nn, xc_not, xc_and, xc_or, xc_if, xs_skip, xs_seq, xs_decI, xs_decR, xs_setI, xs_inc, xs_if, xs_blk, xs_retI, xs_retB, xs_retR, xs_retD, xs_ret0, xs_putI, xs_putZ, xs_putR, xs_putop, xs_ast, xs_astop, xs_astR, xs_callV, xs_callP, xs_super, xs_sw, s_go_inl, s_go_inr, s_cut_inl, s_cut_inr, o_void_n, v_i_int, v_i_none, v_r_ref, v_r_null, v_r_rf, h_set_some, o_some_s, zB_ne0, zB_ite, zB_ite2, g_Vn, g_Pi, nI_add, Option.bind_some, Option.map_some, Option.bind_none, Option.map_none, List.getElem?_cons_zero, List.getElem?_cons_succ, List.set_cons_zero, List.set_cons_succ, List.cons_append, List.nil_append, List.take_succ_cons, List.take_zero, List.length_cons, List.length_nil, Nat.zero_add, Nat.reduceAdd, Nat.reduceLT, if_true, if_false, Bool.false_eq_true, Bool.true_eq_false, decide_eq_true_eq, decide_true, decide_false, Bool.not_true, Bool.not_false, Option.isNone_none, Option.isNone_some, Option.isSome_none, Option.isSome_some, ite_true, ite_false, reduceIte, reduceCtorEq, and_true, true_and, eq_self, Option.some.injEq, Sum.inr.injEq, Sum.inl.injEq, Prod.mk.injEq, h_obj_eq h1, h_arr_eq e1, j_of, pk_mul, j_max (show m < 2 ^ 31 by omega) (show 2 * c < 2 ^ 31 by omega), j_min (show 1229 < 2 ^ 31 by omega) (show max m (2 * c) < 2 ^ 31 by omega), hc']
      exact (seq_r ((seq_r I1).trans ((seq_r D1).trans ((seq_r P1).trans ((seq_r P2).trans P3))))).trans rfl
    · refine ⟨t3o, by omega, by omega, by omega, by omega, _, _, _, ((t3 N (by omega) (by omega)).trans (t2 N (by omega) (by omega))).trans t1n, (t3 (N + 1) (by omega) (by omega)).trans t2n, t3n, fun j q hj => ?_⟩
      have hjl := (List.getElem?_eq_some_iff.mp hj).1
      have := e4 j q hj
      simp only [show j < c by omega, if_true]
      exact this
    · refine ⟨⟨by omega, fun i hi hF => ?_⟩, Or.inr (by omega), by omega, by omega, ?_, by omega⟩
      · have hib : i ≠ b := fun e => hF (Or.inl e)
        exact ((t3 i (by omega) hib).trans (t2 i (by omega) hib)).trans (t1 i (by omega) hib)
      · have := Gam_up (c := c) (c' := c') (by omega) hc1.2.2.2 hc1.2.1
        show σ.2 + c' + c' + c' + 3 * Gam c ≤ σ.2 + 3 * Gam c'
        omega
end
