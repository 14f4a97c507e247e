/-! StairKin (own work): its world; History; changes -/
def kF (sv : Bool) (er nu po : Int32) : List Value := [.ref 1, .ref 7, .ref 13, .int (zB sv), .ref 19, .ref 51, .ref 53, .ref 55, .int er, .int nu, .int po]
def W0 (σ : sSt) (P C : Nat → Nat) (T : Nat → tS) (sv : Bool) (fi he : Nat) (er nu po : Int32) (p : List Nat) (M : tM) : Prop :=
  WS (nN (M 5 0)) σ P C T ∧ σ.1[0]? = some (.inl (6, kF sv er nu po)) ∧ σ.1[19]? = some (.inl (3, [.ref 20, .int (nI fi), .int (nI he)])) ∧ (∃ f, σ.1[20]? = some (.inr (.inr (5, f))) ∧ ∀ k, k < 5 → f k = some (ad (3 + k))) ∧
  (∃ Q, PadQ Q p ∧ ∀ k c, (qC Q)[k]? = some c → σ.1[51 + k]? = some c) ∧ FamO σ 53 ∧ (∃ D, ∀ k c, (cC D)[k]? = some c → σ.1[55 + k]? = some c) ∧ (∀ k c, (mC M)[k]? = some c → σ.1[60 + k]? = some c) ∧ fi < 5 ∧ he ≤ 4
def WStop (er nu po : Int32) (o : Option (Int32 × Nat × Nat)) : Prop := (o = none → er = nI 0) ∧ ∀ e, o = some e → er = e.1 ∧ i_lt e.1 0 = true ∧ nu = nI e.2.1 ∧ po = nI e.2.2
def RV (T : Nat → tS) (fi : Nat) (er nu po : Int32) (V : tV) : Prop := T 0 = V.1 ∧ (∀ k S, V.2.1[k]? = some S → T (3 + (fi + k) % 5) = S) ∧ (∀ S, V.2.2.1 = some S → T 2 = S) ∧ WStop er nu po V.2.2.2.2
/-- the class holds a picture, beside the reference's cells -/
def WV (σ : sSt) (M : tM) (V : tV) : Prop := ∃ P C T fi er nu po, W0 σ P C T V.2.2.1.isSome fi V.2.1.length er nu po V.2.2.2.1 M ∧ RV T fi er nu po V
section
variable {σ σ' : sSt} {P C : Nat → Nat} {T : Nat → tS} {sv : Bool} {fi he : Nat} {er nu po : Int32} {p : List Nat} {M : tM} {V : tV}
/-- stairs have changed -/
theorem W0.st (h : W0 σ P C T sv fi he er nu po p M) {P' C' : Nat → Nat} {T' : Nat → tS} (hs : WS (nN (M 5 0)) σ' P' C' T') (hx : ∀ x, isFx x → σ'.1[x]? = σ.1[x]?) : W0 σ' P' C' T' sv fi he er nu po p M := by
  obtain ⟨h1, h2, h3, ⟨f, h4, h5⟩, ⟨Q, h6, h7⟩, ⟨n0, o1, g, o2⟩, ⟨D, h8⟩, h9, h10⟩ := h
  refine ⟨hs, (hx 0 (Or.inl rfl)).trans h2, (hx 19 (Or.inr (Or.inl rfl))).trans h3, ⟨f, (hx 20 (Or.inr (Or.inr (Or.inl rfl)))).trans h4, h5⟩, ⟨Q, h6, fun k c hc => ?_⟩, ⟨n0, (hx 53 (by unfold isFx; omega)).trans o1, g, (hx 54 (by unfold isFx; omega)).trans o2⟩, ⟨D, fun k c hc => ?_⟩, fun k c hc => ?_, h10⟩
  · have : k < 2 := (List.getElem?_eq_some_iff.mp hc).1
    exact (hx _ (by unfold isFx; omega)).trans (h7 k c hc)
  · have : k < 5 := (List.getElem?_eq_some_iff.mp hc).1
    exact (hx _ (by unfold isFx; omega)).trans (h8 k c hc)
  · have : k < 5 := (List.getElem?_eq_some_iff.mp hc).1
    exact (hx _ (by unfold isFx; omega)).trans (h9 k c hc)
theorem WS.len {g : Nat} (h : WS g σ P C T) : 65 ≤ σ.1.length := h.1
theorem W0.len (h : W0 σ P C T sv fi he er nu po p M) : 65 ≤ σ.1.length := h.1.1
/-- the history's object is written -/
theorem W0.h (h : W0 σ P C T sv fi he er nu po p M) {fi' he' : Nat} (hf : fi' < 5) (hh : he' ≤ 4) : W0 (σ.1.set 19 (.inl (3, [.ref 20, .int (nI fi'), .int (nI he')])), σ.2) P C T sv fi' he' er nu po p M := by
  have hl := h.len
  obtain ⟨h1, h2, h3, ⟨f, h4, h5⟩, ⟨Q, h6, h7⟩, ⟨n0, o1, g, o2⟩, ⟨D, h8⟩, h9, h10⟩ := h
  have g0 : ∀ x, x ≠ 19 → (σ.1.set 19 (.inl (3, [.ref 20, .int (nI fi'), .int (nI he')])))[x]? = σ.1[x]? := fun x hx => List.getElem?_set_ne (fun e => hx e.symm)
  exact ⟨h1.keep (F := fun x => x = 19) (Keep.set rfl) (fun x e => Or.inr (Or.inl e)) (by show (σ.1.set _ _).length = _; rw [List.length_set]) rfl, (g0 _ (by omega)).trans h2, List.getElem?_set_self (by omega), ⟨f, (g0 _ (by omega)).trans h4, h5⟩, ⟨Q, h6, fun k c hc => (g0 _ (by omega)).trans (h7 k c hc)⟩, ⟨n0, (g0 _ (by omega)).trans o1, g, (g0 _ (by omega)).trans o2⟩, ⟨D, fun k c hc => (g0 _ (by omega)).trans (h8 k c hc)⟩, fun k c hc => (g0 _ (by omega)).trans (h9 k c hc), hf, hh⟩
/-- the families have changed -/
theorem W0.f (h : W0 σ P C T sv fi he er nu po p M) (m : Keep σ σ' (fun k => k = 53 ∨ k = 54)) (l : σ'.1.length = σ.1.length) (n : σ'.2 = σ.2) (hF : FamO σ' 53) : W0 σ' P C T sv fi he er nu po p M := by
  have hl := h.len
  obtain ⟨h1, h2, h3, ⟨f, h4, h5⟩, ⟨Q, h6, h7⟩, -, ⟨D, h8⟩, h9, h10⟩ := h
  have g0 : ∀ x, x < 65 → x ≠ 53 → x ≠ 54 → σ'.1[x]? = σ.1[x]? := fun x hx a b => m.2 x (by omega) (by omega)
  refine ⟨h1.keep m (fun x e => by unfold isFx; omega) l n, (g0 _ (by omega) (by omega) (by omega)).trans h2, (g0 _ (by omega) (by omega) (by omega)).trans h3, ⟨f, (g0 _ (by omega) (by omega) (by omega)).trans h4, h5⟩, ⟨Q, h6, fun k c hc => ?_⟩, hF, ⟨D, fun k c hc => ?_⟩, fun k c hc => ?_, h10⟩
  · have : k < 2 := (List.getElem?_eq_some_iff.mp hc).1
    exact (g0 _ (by omega) (by omega) (by omega)).trans (h7 k c hc)
  · have : k < 5 := (List.getElem?_eq_some_iff.mp hc).1
    exact (g0 _ (by omega) (by omega) (by omega)).trans (h8 k c hc)
  · have : k < 5 := (List.getElem?_eq_some_iff.mp hc).1
    exact (g0 _ (by omega) (by omega) (by omega)).trans (h9 k c hc)
/-- the reference has changed -/
theorem W0.m (h : W0 σ P C T sv fi he er nu po p M) (M' : tM) (hm : M' 5 = M 5) : W0 (mp σ M') P C T sv fi he er nu po p M' := by
  have hl := h.len
  obtain ⟨h1, h2, h3, ⟨f, h4, h5⟩, ⟨Q, h6, h7⟩, ⟨n0, o1, g, o2⟩, ⟨D, h8⟩, h9, h10⟩ := h
  have g0 : ∀ x, x < 60 ∨ 65 ≤ x → (mp σ M').1[x]? = σ.1[x]? := fun x hx => mp_out hl hx
  refine ⟨by rw [hm]; exact h1.keep (F := fun k => 60 ≤ k ∧ k < 65) ⟨by rw [mp_len hl]; exact Nat.le_refl _, fun x _ hx => g0 x (by omega)⟩ (fun x e => by unfold isFx; omega) (mp_len hl) rfl, (g0 _ (by omega)).trans h2, (g0 _ (by omega)).trans h3, ⟨f, (g0 _ (by omega)).trans h4, h5⟩, ⟨Q, h6, fun k c hc => ?_⟩, ⟨n0, (g0 _ (by omega)).trans o1, g, (g0 _ (by omega)).trans o2⟩, ⟨D, fun k c hc => ?_⟩, fun k c hc => mp_at hl hc, h10⟩
  · have : k < 2 := (List.getElem?_eq_some_iff.mp hc).1
    exact (g0 _ (by omega)).trans (h7 k c hc)
  · have : k < 5 := (List.getElem?_eq_some_iff.mp hc).1
    exact (g0 _ (by omega)).trans (h8 k c hc)
theorem W0.qp (h : W0 σ P C T sv fi he er nu po p M) : ∃ Q, PadQ Q p ∧ σ = qp σ Q := by
  obtain ⟨Q, h6, h7⟩ := h.2.2.2.2.1
  refine ⟨Q, h6, qp_of h.len (fun k hk => ?_)⟩
  obtain ⟨c, hc⟩ : ∃ c, (qC Q)[k]? = some c := ⟨_, List.getElem?_eq_getElem (show k < 2 from hk)⟩
  rw [hc]
  exact h7 k c hc
theorem W0.mp (h : W0 σ P C T sv fi he er nu po p M) : σ = mp σ M := by
  refine mp_of h.len (fun k hk => ?_)
  obtain ⟨c, hc⟩ : ∃ c, (mC M)[k]? = some c := ⟨_, List.getElem?_eq_getElem (show k < 5 from hk)⟩
  rw [hc]
  exact h.2.2.2.2.2.2.2.1 k c hc
theorem W0.obj (h : W0 σ P C T sv fi he er nu po p M) : h_obj σ (some 0) 6 = some (kF sv er nu po) := h_obj_eq h.2.1
theorem W0.sta (h : W0 σ P C T sv fi he er nu po p M) {k : Nat} (hk : k < 8) : StAt σ (ad k) (P k) (C k) (T k) := h.1.2.1 k hk
theorem W0.now (h : W0 σ P C T sv fi he er nu po p M) : StAt σ 1 (P 0) (C 0) (T 0) := h.sta (k := 0) (by omega)
theorem kg0 : (kF sv er nu po)[0]? = some (.ref 1) := rfl
theorem kg1 : (kF sv er nu po)[1]? = some (.ref 7) := rfl
theorem kg4 : (kF sv er nu po)[4]? = some (.ref 19) := rfl
theorem kg5 : (kF sv er nu po)[5]? = some (.ref 51) := rfl
theorem kg6 : (kF sv er nu po)[6]? = some (.ref 53) := rfl
/-- one of the stairs takes what another has -/
theorem W0.copy (h : W0 σ P C T sv fi he er nu po p M) {i j : Nat} (hi : i < 8) (hj : j < 8) (hij : i ≠ j) : ∃ σ' P' C', M_X6_copyFrom [.ref (ad i), .ref (ad j)] σ = some (none, σ') ∧ W0 σ' P' C' (uN T i (T j)) sv fi he er nu po p M := by
  have a1 := ad_apart hi hj hij
  have a2 := h.1.2.2.1 i hi
  have a3 := h.1.2.2.1 j hj
  have a4 := h.1.2.2.2.1 i j hi hj hij
  have a5 := ad_le hi
  have a6 := ad_le hj
  obtain ⟨σ', p', c', r, t, e⟩ := f_stCopy (h.sta hi) (h.sta hj) (by omega) a4 (by omega) (by omega)
  obtain ⟨w, x⟩ := h.1.eff hi e t
  exact ⟨σ', _, _, r, h.st w x⟩
/-- a deed at one of the stairs -/
theorem W0.deed (h : W0 σ P C T sv fi he er nu po p M) {i : Nat} (hi : i < 8) {p' c' : Nat} {S' : tS} (t : StAt σ' (ad i) p' c' S') (e : EffS σ σ' (ad i) (P i) (C i) p' c') : ∃ P' C', W0 σ' P' C' (uN T i S') sv fi he er nu po p M := by
  obtain ⟨w, x⟩ := h.1.eff hi e t
  exact ⟨_, _, h.st w x⟩
/-! History -/
theorem f_stateAt (h : W0 σ P C T sv fi he er nu po p M) {k : Nat} (hk : k ≤ 4) : M_X3_stateAt [.ref 19, .int (nI k)] σ = some (some (.ref (ad (3 + (fi + k) % 5))), σ) := by
  obtain ⟨-, -, h3, ⟨f, h4, h5⟩, -, -, -, -, h10, -⟩ := h
  have hm := Nat.mod_lt (fi + k) (show 0 < 5 by omega)
  have e := h5 ((fi + k) % 5) hm
  refine mV_eq h3 rfl rfl ?_
  unfold B_X3_stateAt
  simp (disch := omega) only [x_and, x_or, x_shl, x_shr, x_k, x_i, x_r, x_nil, x_add, x_sub, x_mul, x_div, x_rem, x_get, x_getR, x_ald, x_aldR, x_len, x_lenR, x_if, xa_nil, xa_ci, xa_cr, x_callI, x_callR, x_new, x_newa, x_newq, x_max, x_min, xc_cmp, xc_cmp0, xc_null, xc_nn, xc_not, xc_and, xc_or, xc_if, xs_skip, xs_seq, xs_decI, xs_decR, xs_setI, xs_inc, xs_if, xs_blk, xs_retI, xs_retB, xs_retR, xs_retD, xs_ret0, xs_putI, xs_putZ, xs_putR, xs_putop, xs_ast, xs_astop, xs_astR, xs_callV, xs_callP, xs_super, xs_sw, s_go_inl, s_go_inr, s_cut_inl, s_cut_inr, o_void_n, v_i_int, v_i_none, v_r_ref, v_r_null, v_r_rf, h_set_some, o_some_s, zB_ne0, zB_ite, zB_ite2, g_Vn, g_Pi, nI_add, Option.bind_some, Option.map_some, Option.bind_none, Option.map_none, List.getElem?_cons_zero, List.getElem?_cons_succ, List.set_cons_zero, List.set_cons_succ, List.cons_append, List.nil_append, List.take_succ_cons, List.take_zero, List.length_cons, List.length_nil, Nat.zero_add, Nat.reduceAdd, Nat.reduceLT, if_true, if_false, Bool.false_eq_true, Bool.true_eq_false, decide_eq_true_eq, decide_true, decide_false, Bool.not_true, Bool.not_false, Option.isNone_none, Option.isNone_some, Option.isSome_none, Option.isSome_some, ite_true, ite_false, reduceIte, reduceCtorEq, and_true, true_and, eq_self, Option.some.injEq, Sum.inr.injEq, Sum.inl.injEq, Prod.mk.injEq, not_true_eq_false, not_false_eq_true, Bool.decide_eq_true, n0_ne, n1_ne, xz_ret, zb_if, n1_if, n0_if, v_rf, h_ix_nI, nI_clamp, zB_t, zB_f, uN_uN, uN_ap, Nat.reduceEqDiff, Nat.reduceMul, Nat.reduceSub, h_obj_eq h3, h_rar_eq h4, j_rem, j_ge0, j_of, j_lt, hm, e]
theorem f_prepare (h : W0 σ P C T sv fi he er nu po p M) : ∃ σ' P' C', M_X3_prepare [.ref 19, .ref 1] σ = some (none, σ') ∧ W0 σ' P' C' (uN T (3 + (fi + he) % 5) (T 0)) sv fi he er nu po p M := by
  have hm := Nat.mod_lt (fi + he) (show 0 < 5 by omega)
  have hh : he ≤ 4 := h.2.2.2.2.2.2.2.2.2
  have sa := f_stateAt h hh
  obtain ⟨σ', P', C', r, w⟩ := h.copy (i := 3 + (fi + he) % 5) (j := 0) (by omega) (by omega) (by omega)
  have r : M_X6_copyFrom [.ref (ad (3 + (fi + he) % 5)), .ref 1] σ = some (none, σ') := r
  refine ⟨σ', P', C', mV_eq h.2.2.1 rfl rfl ?_, w⟩
  unfold B_X3_prepare
  simp (disch := omega) only [x_and, x_or, x_shl, x_shr, x_k, x_i, x_r, x_nil, x_add, x_sub, x_mul, x_div, x_rem, x_get, x_getR, x_ald, x_aldR, x_len, x_lenR, x_if, xa_nil, xa_ci, xa_cr, x_callI, x_callR, x_new, x_newa, x_newq, x_max, x_min, xc_cmp, xc_cmp0, xc_null, xc_nn, xc_not, xc_and, xc_or, xc_if, xs_skip, xs_seq, xs_decI, xs_decR, xs_setI, xs_inc, xs_if, xs_blk, xs_retI, xs_retB, xs_retR, xs_retD, xs_ret0, xs_putI, xs_putZ, xs_putR, xs_putop, xs_ast, xs_astop, xs_astR, xs_callV, xs_callP, xs_super, xs_sw, s_go_inl, s_go_inr, s_cut_inl, s_cut_inr, o_void_n, v_i_int, v_i_none, v_r_ref, v_r_null, v_r_rf, h_set_some, o_some_s, zB_ne0, zB_ite, zB_ite2, g_Vn, g_Pi, nI_add, Option.bind_some, Option.map_some, Option.bind_none, Option.map_none, List.getElem?_cons_zero, List.getElem?_cons_succ, List.set_cons_zero, List.set_cons_succ, List.cons_append, List.nil_append, List.take_succ_cons, List.take_zero, List.length_cons, List.length_nil, Nat.zero_add, Nat.reduceAdd, Nat.reduceLT, if_true, if_false, Bool.false_eq_true, Bool.true_eq_false, decide_eq_true_eq, decide_true, decide_false, Bool.not_true, Bool.not_false, Option.isNone_none, Option.isNone_some, Option.isSome_none, Option.isSome_some, ite_true, ite_false, reduceIte, reduceCtorEq, and_true, true_and, eq_self, Option.some.injEq, Sum.inr.injEq, Sum.inl.injEq, Prod.mk.injEq, not_true_eq_false, not_false_eq_true, Bool.decide_eq_true, n0_ne, n1_ne, xz_ret, zb_if, n1_if, n0_if, v_rf, h_ix_nI, nI_clamp, zB_t, zB_f, uN_uN, uN_ap, Nat.reduceEqDiff, Nat.reduceMul, Nat.reduceSub, h_obj_eq h.2.2.1, sa, r]
theorem f_keepNo (h : W0 σ P C T sv fi he er nu po p M) {v : Int32} (hv : i_lt v 0 = true) : M_X3_keep [.ref 19, .int v] σ = some (some (.int v), σ) := by
  rw [nlt_ge] at hv
  have hv : i_ge v 0 = false := by cases c : i_ge v 0 with | false => rfl | true => rw [c] at hv; cases hv
  refine mV_eq h.2.2.1 rfl rfl ?_
  unfold B_X3_keep
  simp only [x_and, x_or, x_shl, x_shr, x_k, x_i, x_r, x_nil, x_add, x_sub, x_mul, x_div, x_rem, x_get, x_getR, x_ald, x_aldR, x_len, x_lenR, x_if, xa_nil, xa_ci, xa_cr, x_callI, x_callR, x_new, x_newa, x_newq, x_max, x_min, xc_cmp, xc_cmp0, xc_null, xc_nn, xc_not, xc_and, xc_or, xc_if, xs_skip, xs_seq, xs_decI, xs_decR, xs_setI, xs_inc, xs_if, xs_blk, xs_retI, xs_retB, xs_retR, xs_retD, xs_ret0, xs_putI, xs_putZ, xs_putR, xs_putop, xs_ast, xs_astop, xs_astR, xs_callV, xs_callP, xs_super, xs_sw, s_go_inl, s_go_inr, s_cut_inl, s_cut_inr, o_void_n, v_i_int, v_i_none, v_r_ref, v_r_null, v_r_rf, h_set_some, o_some_s, zB_ne0, zB_ite, zB_ite2, g_Vn, g_Pi, nI_add, Option.bind_some, Option.map_some, Option.bind_none, Option.map_none, List.getElem?_cons_zero, List.getElem?_cons_succ, List.set_cons_zero, List.set_cons_succ, List.cons_append, List.nil_append, List.take_succ_cons, List.take_zero, List.length_cons, List.length_nil, Nat.zero_add, Nat.reduceAdd, Nat.reduceLT, if_true, if_false, Bool.false_eq_true, Bool.true_eq_false, decide_eq_true_eq, decide_true, decide_false, Bool.not_true, Bool.not_false, Option.isNone_none, Option.isNone_some, Option.isSome_none, Option.isSome_some, ite_true, ite_false, reduceIte, reduceCtorEq, and_true, true_and, eq_self, Option.some.injEq, Sum.inr.injEq, Sum.inl.injEq, Prod.mk.injEq, hv]
theorem f_keepYes (h : W0 σ P C T sv fi he er nu po p M) {n : Nat} (hn : n < 2 ^ 31) : ∃ σ', M_X3_keep [.ref 19, .int (nI n)] σ = some (some (.int (nI n)), σ') ∧ W0 σ' P C T sv (if he = 4 then (fi + 1) % 5 else fi) (if he = 4 then 4 else he + 1) er nu po p M := by
  have hh : he ≤ 4 := h.2.2.2.2.2.2.2.2.2
  have hf : fi < 5 := h.2.2.2.2.2.2.2.2.1
  have hl := h.len
  have hm := Nat.mod_lt (fi + 1) (show 0 < 5 by omega)
  obtain ⟨σ1, e1⟩ : ∃ σ1 : sSt, σ1 = (σ.1.set 19 (.inl (3, [.ref 20, .int (nI fi), .int (nI (he + 1))])), σ.2) := ⟨_, rfl⟩
  have l1 : 19 < σ1.1.length := by rw [e1]; show 19 < (σ.1.set _ _).length; rw [List.length_set]; omega
  have c1 : σ1.1[19]? = some (.inl (3, [.ref 20, .int (nI fi), .int (nI (he + 1))])) := by rw [e1]; exact List.getElem?_set_self (by omega)
  by_cases c : he = 4
  · rw [if_pos c, if_pos c]
    refine ⟨_, mV_eq h.2.2.1 rfl rfl ?_, h.h hm (Nat.le_refl 4)⟩
    obtain ⟨σ2, e2⟩ : ∃ σ2 : sSt, σ2 = (σ1.1.set 19 (.inl (3, [.ref 20, .int (nI fi), .int (nI 4)])), σ1.2) := ⟨_, rfl⟩
    have c2 : σ2.1[19]? = some (.inl (3, [.ref 20, .int (nI fi), .int (nI 4)])) := by rw [e2]; exact List.getElem?_set_self l1
    have g : i_gt (nI (he + 1)) (nI 4) = true := by rw [c]; decide
    unfold B_X3_keep
    simp (disch := omega) only [x_and, x_or, x_shl, x_shr, x_k, x_i, x_r, x_nil, x_add, x_sub, x_mul, x_div, x_rem, x_get, x_getR, x_ald, x_aldR, x_len, x_lenR, x_if, xa_nil, xa_ci, xa_cr, x_callI, x_callR, x_new, x_newa, x_newq, x_max, x_min, xc_cmp, xc_cmp0, xc_null, xc_nn, xc_not, xc_and, xc_or, xc_if, xs_skip, xs_seq, xs_decI, xs_decR, xs_setI, xs_inc, xs_if, xs_blk, xs_retI, xs_retB, xs_retR, xs_retD, xs_ret0, xs_putI, xs_putZ, xs_putR, xs_putop, xs_ast, xs_astop, xs_astR, xs_callV, xs_callP, xs_super, xs_sw, s_go_inl, s_go_inr, s_cut_inl, s_cut_inr, o_void_n, v_i_int, v_i_none, v_r_ref, v_r_null, v_r_rf, h_set_some, o_some_s, zB_ne0, zB_ite, zB_ite2, g_Vn, g_Pi, nI_add, Option.bind_some, Option.map_some, Option.bind_none, Option.map_none, List.getElem?_cons_zero, List.getElem?_cons_succ, List.set_cons_zero, List.set_cons_succ, List.cons_append, List.nil_append, List.take_succ_cons, List.take_zero, List.length_cons, List.length_nil, Nat.zero_add, Nat.reduceAdd, Nat.reduceLT, if_true, if_false, Bool.false_eq_true, Bool.true_eq_false, decide_eq_true_eq, decide_true, decide_false, Bool.not_true, Bool.not_false, Option.isNone_none, Option.isNone_some, Option.isSome_none, Option.isSome_some, ite_true, ite_false, reduceIte, reduceCtorEq, and_true, true_and, eq_self, Option.some.injEq, Sum.inr.injEq, Sum.inl.injEq, Prod.mk.injEq, not_true_eq_false, not_false_eq_true, Bool.decide_eq_true, n0_ne, n1_ne, xz_ret, zb_if, n1_if, n0_if, v_rf, h_ix_nI, nI_clamp, zB_t, zB_f, uN_uN, uN_ap, Nat.reduceEqDiff, Nat.reduceMul, Nat.reduceSub, j_ge0, h_obj_eq h.2.2.1, ← e1, h_obj_eq c1, g, ← e2, h_obj_eq c2, j_rem]
    rw [e2, e1]
    refine ⟨?_, rfl⟩
    show ((σ.1.set 19 _).set 19 _).set 19 _ = σ.1.set 19 _
    rw [List.set_set, List.set_set]
  · rw [if_neg c, if_neg c]
    refine ⟨_, mV_eq h.2.2.1 rfl rfl ?_, h.h hf (show he + 1 ≤ 4 by omega)⟩
    unfold B_X3_keep
    simp (disch := omega) only [x_and, x_or, x_shl, x_shr, x_k, x_i, x_r, x_nil, x_add, x_sub, x_mul, x_div, x_rem, x_get, x_getR, x_ald, x_aldR, x_len, x_lenR, x_if, xa_nil, xa_ci, xa_cr, x_callI, x_callR, x_new, x_newa, x_newq, x_max, x_min, xc_cmp, xc_cmp0, xc_null, xc_nn, xc_not, xc_and, xc_or, xc_if, xs_skip, xs_seq, xs_decI, xs_decR, xs_setI, xs_inc, xs_if, xs_blk, xs_retI, xs_retB, xs_retR, xs_retD, xs_ret0, xs_putI, xs_putZ, xs_putR, xs_putop, xs_ast, xs_astop, xs_astR, xs_callV, xs_callP, xs_super, xs_sw, s_go_inl, s_go_inr, s_cut_inl, s_cut_inr, o_void_n, v_i_int, v_i_none, v_r_ref, v_r_null, v_r_rf, h_set_some, o_some_s, zB_ne0, zB_ite, zB_ite2, g_Vn, g_Pi, nI_add, Option.bind_some, Option.map_some, Option.bind_none, Option.map_none, List.getElem?_cons_zero, List.getElem?_cons_succ, List.set_cons_zero, List.set_cons_succ, List.cons_append, List.nil_append, List.take_succ_cons, List.take_zero, List.length_cons, List.length_nil, Nat.zero_add, Nat.reduceAdd, Nat.reduceLT, if_true, if_false, Bool.false_eq_true, Bool.true_eq_false, decide_eq_true_eq, decide_true, decide_false, Bool.not_true, Bool.not_false, Option.isNone_none, Option.isNone_some, Option.isSome_none, Option.isSome_some, ite_true, ite_false, reduceIte, reduceCtorEq, and_true, true_and, eq_self, Option.some.injEq, Sum.inr.injEq, Sum.inl.injEq, Prod.mk.injEq, not_true_eq_false, not_false_eq_true, Bool.decide_eq_true, n0_ne, n1_ne, xz_ret, zb_if, n1_if, n0_if, v_rf, h_ix_nI, nI_clamp, zB_t, zB_f, uN_uN, uN_ap, Nat.reduceEqDiff, Nat.reduceMul, Nat.reduceSub, j_ge0, h_obj_eq h.2.2.1, ← e1, h_obj_eq c1, j_gt, show ¬ 4 < he + 1 by omega]
/-- what the ring tells behind a change -/
theorem RV.push {T1 : Nat → tS} {S' : tS} (h : RV T fi er nu po V) (hf : fi < 5) (hh : V.2.1.length ≤ 4) (h0 : T1 0 = S') (hj : T1 (3 + (fi + V.2.1.length) % 5) = V.1) (h2 : T1 2 = T 2) (ho : ∀ k, k < V.2.1.length → T1 (3 + (fi + k) % 5) = T (3 + (fi + k) % 5)) : RV T1 (if V.2.1.length = 4 then (fi + 1) % 5 else fi) er nu po (chg V S') := by
  obtain ⟨r1, r2, r3, r4⟩ := h
  refine ⟨h0, fun k S hk => ?_, fun S hS => by rw [h2]; exact r3 S hS, r4⟩
  have hk : (pushH V.2.1 V.1)[k]? = some S := hk
  unfold pushH at hk
  by_cases c : V.2.1.length = 4
  · rw [if_pos c] at hk ⊢
    have lt : V.2.1.tail.length = 3 := by rw [List.length_tail, c]
    rcases Nat.lt_trichotomy k 3 with q | q | q
    · rw [List.getElem?_append_left (by omega), List.getElem?_tail] at hk
      have e := ho (k + 1) (by omega)
      rw [r2 _ _ hk] at e
      rw [show ((fi + 1) % 5 + k) % 5 = (fi + (k + 1)) % 5 by omega]
      exact e
    · subst q
      rw [List.getElem?_append_right (by omega), lt] at hk
      cases hk
      rw [show ((fi + 1) % 5 + 3) % 5 = (fi + V.2.1.length) % 5 by omega]
      exact hj
    · rw [List.getElem?_append_right (by omega), lt, List.getElem?_eq_none (by show 1 ≤ _; omega)] at hk
      cases hk
  · rw [if_neg c] at hk ⊢
    rcases Nat.lt_trichotomy k V.2.1.length with q | q | q
    · rw [List.getElem?_append_left q] at hk
      rw [ho k q]
      exact r2 _ _ hk
    · subst q
      rw [List.getElem?_append_right (by omega), Nat.sub_self] at hk
      cases hk
      exact hj
    · rw [List.getElem?_append_right (by omega), List.getElem?_eq_none (by show 1 ≤ _; omega)] at hk
      cases hk
/-- other stairs than those that tell have changed -/
theorem RV.oth {T1 : Nat → tS} (h : RV T fi er nu po V) (h0 : T1 0 = T 0) (h2 : T1 2 = T 2) (ho : ∀ k, k < V.2.1.length → T1 (3 + (fi + k) % 5) = T (3 + (fi + k) % 5)) : RV T1 fi er nu po V := by
  obtain ⟨r1, r2, r3, r4⟩ := h
  exact ⟨h0.trans r1, fun k S hk => (ho k (List.getElem?_eq_some_iff.mp hk).1).trans (r2 k S hk), fun S hS => h2.trans (r3 S hS), r4⟩
theorem ring_ne {fi k n : Nat} (hk : k < n) (hn : n ≤ 4) : 3 + (fi + k) % 5 ≠ 3 + (fi + n) % 5 := by omega
/-- a call that changes: the state is written down, the deed is done, the answer tells if it is kept -/
theorem wrapC (h : WV σ M V) {L : List Value} (hL : L[0]? = some (.ref 0)) {E : sEx Int32} {r : Int32 × tS}
    (hE : ∀ {σ1 : sSt} {P1 C1 : Nat → Nat} {T1 : Nat → tS} {sv1 : Bool} {fi1 he1 : Nat} {er1 nu1 po1 : Int32} {p1 : List Nat}, W0 σ1 P1 C1 T1 sv1 fi1 he1 er1 nu1 po1 p1 M → T1 0 = V.1 → ∃ σ2 P2 C2, E L σ1 = some (r.1, σ2) ∧ W0 σ2 P2 C2 (uN T1 0 r.2) sv1 fi1 he1 er1 nu1 po1 p1 M)
    (hr : i_lt r.1 0 = true → r.2 = V.1) :
    ∃ σ', (s_seq (s_callV M_X3_prepare (a_cr (e_getR 6 4 (e_r 0)) (a_cr (e_getR 6 0 (e_r 0)) a_nil))) (s_retI (e_callI M_X3_keep (a_cr (e_getR 6 4 (e_r 0)) (a_ci E a_nil))))) L σ = some (.inl (some (.int (wrap V r).1), σ')) ∧ WV σ' M (wrap V r).2 := by
  obtain ⟨P, C, T, fi, er, nu, po, w, v⟩ := h
  have hh : V.2.1.length ≤ 4 := w.2.2.2.2.2.2.2.2.2
  have hf : fi < 5 := w.2.2.2.2.2.2.2.2.1
  obtain ⟨σ1, P1, C1, r1, w1⟩ := f_prepare w
  have t0 : uN T (3 + (fi + V.2.1.length) % 5) (T 0) 0 = V.1 := by
    show (if 0 = 3 + (fi + V.2.1.length) % 5 then _ else T 0) = _
    rw [if_neg (by omega)]
    exact v.1
  obtain ⟨σ2, P2, C2, r2, w2⟩ := hE w1 t0
  have step1 : s_callV M_X3_prepare (a_cr (e_getR 6 4 (e_r 0)) (a_cr (e_getR 6 0 (e_r 0)) a_nil)) L σ = some (.inr (L, σ1)) := by
    simp only [x_and, x_or, x_shl, x_shr, x_k, x_i, x_r, x_nil, x_add, x_sub, x_mul, x_div, x_rem, x_get, x_getR, x_ald, x_aldR, x_len, x_lenR, x_if, xa_nil, xa_ci, xa_cr, x_callI, x_callR, x_new, x_newa, x_newq, x_max, x_min, xc_cmp, xc_cmp0, xc_null, xc_nn, xc_not, xc_and, xc_or, xc_if, xs_skip, xs_seq, xs_decI, xs_decR, xs_setI, xs_inc, xs_if, xs_blk, xs_retI, xs_retB, xs_retR, xs_retD, xs_ret0, xs_putI, xs_putZ, xs_putR, xs_putop, xs_ast, xs_astop, xs_astR, xs_callV, xs_callP, xs_super, xs_sw, s_go_inl, s_go_inr, s_cut_inl, s_cut_inr, o_void_n, v_i_int, v_i_none, v_r_ref, v_r_null, v_r_rf, h_set_some, o_some_s, zB_ne0, zB_ite, zB_ite2, g_Vn, g_Pi, nI_add, Option.bind_some, Option.map_some, Option.bind_none, Option.map_none, List.getElem?_cons_zero, List.getElem?_cons_succ, List.set_cons_zero, List.set_cons_succ, List.cons_append, List.nil_append, List.take_succ_cons, List.take_zero, List.length_cons, List.length_nil, Nat.zero_add, Nat.reduceAdd, Nat.reduceLT, if_true, if_false, Bool.false_eq_true, Bool.true_eq_false, decide_eq_true_eq, decide_true, decide_false, Bool.not_true, Bool.not_false, Option.isNone_none, Option.isNone_some, Option.isSome_none, Option.isSome_some, ite_true, ite_false, reduceIte, reduceCtorEq, and_true, true_and, eq_self, Option.some.injEq, Sum.inr.injEq, Sum.inl.injEq, Prod.mk.injEq, hL, w.obj, kg4, kg0, v_rf, r1]
  rw [seq_r step1]
  unfold wrap
  cases c : i_lt r.1 0 with
  | true =>
    have kn := f_keepNo w2 c
    refine ⟨σ2, by simp only [x_and, x_or, x_shl, x_shr, x_k, x_i, x_r, x_nil, x_add, x_sub, x_mul, x_div, x_rem, x_get, x_getR, x_ald, x_aldR, x_len, x_lenR, x_if, xa_nil, xa_ci, xa_cr, x_callI, x_callR, x_new, x_newa, x_newq, x_max, x_min, xc_cmp, xc_cmp0, xc_null, xc_nn, xc_not, xc_and, xc_or, xc_if, xs_skip, xs_seq, xs_decI, xs_decR, xs_setI, xs_inc, xs_if, xs_blk, xs_retI, xs_retB, xs_retR, xs_retD, xs_ret0, xs_putI, xs_putZ, xs_putR, xs_putop, xs_ast, xs_astop, xs_astR, xs_callV, xs_callP, xs_super, xs_sw, s_go_inl, s_go_inr, s_cut_inl, s_cut_inr, o_void_n, v_i_int, v_i_none, v_r_ref, v_r_null, v_r_rf, h_set_some, o_some_s, zB_ne0, zB_ite, zB_ite2, g_Vn, g_Pi, nI_add, Option.bind_some, Option.map_some, Option.bind_none, Option.map_none, List.getElem?_cons_zero, List.getElem?_cons_succ, List.set_cons_zero, List.set_cons_succ, List.cons_append, List.nil_append, List.take_succ_cons, List.take_zero, List.length_cons, List.length_nil, Nat.zero_add, Nat.reduceAdd, Nat.reduceLT, if_true, if_false, Bool.false_eq_true, Bool.true_eq_false, decide_eq_true_eq, decide_true, decide_false, Bool.not_true, Bool.not_false, Option.isNone_none, Option.isNone_some, Option.isSome_none, Option.isSome_some, ite_true, ite_false, reduceIte, reduceCtorEq, and_true, true_and, eq_self, Option.some.injEq, Sum.inr.injEq, Sum.inl.injEq, Prod.mk.injEq, hL, w1.obj, kg4, v_rf, r2, kn], P2, C2, _, fi, er, nu, po, w2, v.oth ?_ ?_ (fun k hk => ?_)⟩
    · show r.2 = T 0
      rw [hr c, v.1]
    · show (if 2 = 0 then _ else if 2 = 3 + (fi + V.2.1.length) % 5 then _ else T 2) = T 2
      rw [if_neg (by omega), if_neg (by omega)]
    · show (if 3 + (fi + k) % 5 = 0 then _ else if 3 + (fi + k) % 5 = 3 + (fi + V.2.1.length) % 5 then _ else T (3 + (fi + k) % 5)) = _
      rw [if_neg (by omega), if_neg (ring_ne hk hh)]
  | false =>
    rcases i_two r.1 with q | ⟨n, hn, e⟩
    · rw [(j_neg q (n := 0) (by omega)).2.1] at c
      cases c
    · rw [e] at r2 ⊢
      obtain ⟨σ3, r3, w3⟩ := f_keepYes w2 hn
      have hp : (pushH V.2.1 V.1).length = if V.2.1.length = 4 then 4 else V.2.1.length + 1 := pushH_len hh
      refine ⟨σ3, by simp only [x_and, x_or, x_shl, x_shr, x_k, x_i, x_r, x_nil, x_add, x_sub, x_mul, x_div, x_rem, x_get, x_getR, x_ald, x_aldR, x_len, x_lenR, x_if, xa_nil, xa_ci, xa_cr, x_callI, x_callR, x_new, x_newa, x_newq, x_max, x_min, xc_cmp, xc_cmp0, xc_null, xc_nn, xc_not, xc_and, xc_or, xc_if, xs_skip, xs_seq, xs_decI, xs_decR, xs_setI, xs_inc, xs_if, xs_blk, xs_retI, xs_retB, xs_retR, xs_retD, xs_ret0, xs_putI, xs_putZ, xs_putR, xs_putop, xs_ast, xs_astop, xs_astR, xs_callV, xs_callP, xs_super, xs_sw, s_go_inl, s_go_inr, s_cut_inl, s_cut_inr, o_void_n, v_i_int, v_i_none, v_r_ref, v_r_null, v_r_rf, h_set_some, o_some_s, zB_ne0, zB_ite, zB_ite2, g_Vn, g_Pi, nI_add, Option.bind_some, Option.map_some, Option.bind_none, Option.map_none, List.getElem?_cons_zero, List.getElem?_cons_succ, List.set_cons_zero, List.set_cons_succ, List.cons_append, List.nil_append, List.take_succ_cons, List.take_zero, List.length_cons, List.length_nil, Nat.zero_add, Nat.reduceAdd, Nat.reduceLT, if_true, if_false, Bool.false_eq_true, Bool.true_eq_false, decide_eq_true_eq, decide_true, decide_false, Bool.not_true, Bool.not_false, Option.isNone_none, Option.isNone_some, Option.isSome_none, Option.isSome_some, ite_true, ite_false, reduceIte, reduceCtorEq, and_true, true_and, eq_self, Option.some.injEq, Sum.inr.injEq, Sum.inl.injEq, Prod.mk.injEq, hL, w1.obj, kg4, v_rf, r2, r3, Bool.false_eq_true, if_false], P2, C2, _, _, er, nu, po, ?_, v.push hf hh (T1 := uN (uN T (3 + (fi + V.2.1.length) % 5) (T 0)) 0 r.2) rfl ?_ ?_ (fun k hk => ?_)⟩
      · show W0 σ3 P2 C2 _ V.2.2.1.isSome _ (pushH V.2.1 V.1).length er nu po V.2.2.2.1 M
        rw [hp]
        exact w3
      · show (if 3 + (fi + V.2.1.length) % 5 = 0 then _ else if 3 + (fi + V.2.1.length) % 5 = 3 + (fi + V.2.1.length) % 5 then T 0 else _) = _
        rw [if_neg (by omega), if_pos rfl]
        exact v.1
      · show (if 2 = 0 then _ else if 2 = 3 + (fi + V.2.1.length) % 5 then _ else T 2) = T 2
        rw [if_neg (by omega), if_neg (by omega)]
      · show (if 3 + (fi + k) % 5 = 0 then _ else if 3 + (fi + k) % 5 = 3 + (fi + V.2.1.length) % 5 then _ else T (3 + (fi + k) % 5)) = _
        rw [if_neg (by omega), if_neg (ring_ne hk hh)]
end
