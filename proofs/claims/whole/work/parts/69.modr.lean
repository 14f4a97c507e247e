/-! THE REFERENCE'S fault, read, carryOut (own work) -/
def wB (x : Int32) : Bool := decide (x = nI 1)
def rFault (V : tV) (x : Int32) : Int32 := if inB x (nI 0) (nI 1) = true then oN (fltP V.2.2.2.1 (wB x) 61 0).1 else -1
def spRead (V : tV) : Int32 × tV := match (fltP V.2.2.2.1 false 61 0).1 with
  | some _ => (-2, V)
  | none => if 12 < V.1.1.length + (fltP V.2.2.2.1 false 61 0).2.length then (-3, V) else (nI (V.1.1.length + (fltP V.2.2.2.1 false 61 0).2.length), (V.1.1 ++ (fltP V.2.2.2.1 false 61 0).2.map (fun t => t.2.1), V.1.2), pushH V.2.1 V.1, V.2.2.1, [], V.2.2.2.2)
def deedT (S : tS) (t : tP) : Int32 × tS := if t.1 = 115 then dShare S (nI t.2.1) else if t.1 = 100 then dDivide S (nI t.2.1) else dStrike S (nI t.2.1) (nI t.2.2.1)
def cryF : List tP → tS → Nat → Nat × tS × Option (Int32 × Nat × Nat)
  | [], S, n => (n, S, none)
  | t :: l, S, n => if i_lt (deedT S t).1 0 = true then (n, S, some ((deedT S t).1, n, t.2.2.2)) else cryF l (deedT S t).2 (n + 1)
def spCarry (V : tV) : Int32 × tV := match (fltP V.2.2.2.1 true 61 0).1 with
  | some _ => (-2, V)
  | none => (nI (cryF (fltP V.2.2.2.1 true 61 0).2 V.1 0).1, (cryF (fltP V.2.2.2.1 true 61 0).2 V.1 0).2.1, pushH V.2.1 V.1, V.2.2.1, [], (cryF (fltP V.2.2.2.1 true 61 0).2 V.1 0).2.2)
theorem fltP_num {p : List Nat} : ∀ (n s : Nat), s ≤ p.length → ∀ t ∈ (fltP p false n s).2, 1 ≤ t.2.1 ∧ t.2.1 ≤ 9999
  | 0, s, _ => fun t ht => absurd ht List.not_mem_nil
  | n + 1, s, hs => fun t ht => by
    obtain ⟨a1, a2, a3, a4⟩ := numP_in (p := p) (least := 1) (most := 9999) (s := s) (by omega) hs
    have e : fltP p false (n + 1) s = if (numP p 1 9999 s).1 = true then (if sgB p 44 (numP p 1 9999 s).2.2 = true then ((fltP p false n ((numP p 1 9999 s).2.2 + 1)).1, (0, (numP p 1 9999 s).2.1, 0, 0) :: (fltP p false n ((numP p 1 9999 s).2.2 + 1)).2) else (if (numP p 1 9999 s).2.2 = p.length then none else some (numP p 1 9999 s).2.2, [(0, (numP p 1 9999 s).2.1, 0, 0)])) else (some (numP p 1 9999 s).2.2, []) := rfl
    rw [e] at ht
    by_cases c : (numP p 1 9999 s).1 = true
    · rw [if_pos c] at ht
      have a4 := a4 c
      by_cases d : sgB p 44 (numP p 1 9999 s).2.2 = true
      · rw [if_pos d] at ht
        unfold sgB at d
        rw [Bool.and_eq_true, decide_eq_true_eq] at d
        rcases List.mem_cons.mp ht with q | q
        · subst q; exact ⟨a4.2, a1⟩
        · exact fltP_num n _ (by omega) t q
      · rw [if_neg d] at ht
        rcases List.mem_cons.mp ht with q | q
        · subst q; exact ⟨a4.2, a1⟩
        · exact absurd q List.not_mem_nil
    · rw [if_neg c] at ht
      exact absurd ht List.not_mem_nil
theorem fltP_deed {p : List Nat} (hl : p.length ≤ 60) : ∀ (n s : Nat), s ≤ p.length → ∀ t ∈ (fltP p true n s).2, letB t.1 = true ∧ t.2.1 ≤ 11 ∧ t.2.2.1 ≤ 9999 ∧ t.2.2.2 ≤ 60
  | 0, s, _ => fun t ht => absurd ht List.not_mem_nil
  | n + 1, s, hs => fun t ht => by
    obtain ⟨a1, a2, a3⟩ := deedP_in (p := p) hs
    have e : fltP p true (n + 1) s = if (deedP p s).1 = true then (if sgB p 59 (deedP p s).2.2 = true then ((fltP p true n ((deedP p s).2.2 + 1)).1, (deedP p s).2.1 :: (fltP p true n ((deedP p s).2.2 + 1)).2) else (if (deedP p s).2.2 = p.length then none else some (deedP p s).2.2, [(deedP p s).2.1])) else (some (deedP p s).2.2, []) := rfl
    rw [e] at ht
    by_cases c : (deedP p s).1 = true
    · rw [if_pos c] at ht
      obtain ⟨b1, b2, b3, b4, b5, b6, b7⟩ := a3 c
      have ok : letB (deedP p s).2.1.1 = true ∧ (deedP p s).2.1.2.1 ≤ 11 ∧ (deedP p s).2.1.2.2.1 ≤ 9999 ∧ (deedP p s).2.1.2.2.2 ≤ 60 := ⟨by rw [b4]; exact b3, b5, b6, by omega⟩
      by_cases d : sgB p 59 (deedP p s).2.2 = true
      · rw [if_pos d] at ht
        unfold sgB at d
        rw [Bool.and_eq_true, decide_eq_true_eq] at d
        rcases List.mem_cons.mp ht with q | q
        · subst q; exact ok
        · exact fltP_deed hl n _ (by omega) t q
      · rw [if_neg d] at ht
        rcases List.mem_cons.mp ht with q | q
        · subst q; exact ok
        · exact absurd q List.not_mem_nil
    · rw [if_neg c] at ht
      exact absurd ht List.not_mem_nil
theorem fltP_le {p : List Nat} {w : Bool} : ∀ (n s : Nat) {e : Nat}, s ≤ p.length → (fltP p w n s).1 = some e → e ≤ p.length
  | 0, s, e, hs, h => by cases h; exact hs
  | n + 1, s, e, hs, h => by
    obtain ⟨q1, q2, q3⟩ := partP_in (p := p) (w := w) hs
    have ef : fltP p w (n + 1) s = if (partP p w s).1 = true then (if sgB p (sepC w) (partP p w s).2.2 = true then ((fltP p w n ((partP p w s).2.2 + 1)).1, (partP p w s).2.1 :: (fltP p w n ((partP p w s).2.2 + 1)).2) else (if (partP p w s).2.2 = p.length then none else some (partP p w s).2.2, [(partP p w s).2.1])) else (some (partP p w s).2.2, []) := rfl
    rw [ef] at h
    by_cases c : (partP p w s).1 = true
    · rw [if_pos c] at h
      by_cases d : sgB p (sepC w) (partP p w s).2.2 = true
      · rw [if_pos d] at h
        unfold sgB at d
        rw [Bool.and_eq_true, decide_eq_true_eq] at d
        exact fltP_le n _ (by omega) h
      · rw [if_neg d] at h
        by_cases g : (partP p w s).2.2 = p.length
        · rw [if_pos g] at h; cases h
        · rw [if_neg g] at h; cases h; exact q2
    · rw [if_neg c] at h
      cases h; exact q2
theorem j_ne4 {a : Nat} (h : a < 2 ^ 31) : i_ne (nI a) (-4) = true := decide_eq_true (fun e => by
  have := congrArg Int32.toInt e
  rw [nI_toInt h] at this
  have e4 : (-4 : Int32).toInt = -4 := by decide
  rw [e4] at this
  omega)
theorem ins_end : ∀ (l : List Nat) (x : Nat), l.insertIdx l.length x = l ++ [x]
  | [], _ => rfl
  | a :: l, x => by
    show a :: l.insertIdx l.length x = a :: (l ++ [x])
    rw [ins_end l x]
section
variable {σ : sSt} {M : tM} {S : tS} {V : tV}
/-- behind a change the reference holds the picture of it, its state as it was -/
theorem g_changeX {V : tV} (hσ : 72 ≤ σ.1.length) (h : MV M V) : ∃ v F, M_X9_changes [.ref 60] (mp σ M) = some (none, mp σ (uN M.1 6 v, uN M.2 2 F)) ∧ MV (uN M.1 6 v, uN M.2 2 F) (chg V V.1) := by
  obtain ⟨h1, h2, h3, ⟨a1, a2, a3⟩, h5, h6, h7⟩ := h
  obtain ⟨F, r, f1, f2⟩ := g_changes hσ h2 a1 a2
  refine ⟨_, F, r, h1, h2, h3, ⟨by rw [show (chg V V.1).2.1 = pushH V.2.1 V.1 from rfl, pushH_len a1]; split <;> omega, by rw [show (chg V V.1).2.1 = pushH V.2.1 V.1 from rfl, pushH_len a1]; rfl, ?_⟩, h5, h6, h7⟩
  intro k T hk
  have hk : (pushH V.2.1 V.1)[k]? = some T := hk
  show SRow (fun z => F (1245 * k + z)) T
  unfold pushH at hk
  by_cases h4 : V.2.1.length = 4
  · rw [if_pos h4] at hk
    simp only [if_pos h4] at f1 f2
    have lt : V.2.1.tail.length = 3 := by rw [List.length_tail, h4]
    rcases Nat.lt_trichotomy k 3 with q | q | q
    · rw [List.getElem?_append_left (by omega), List.getElem?_tail] at hk
      refine (a3 _ _ hk).congr (fun z hz => ?_)
      show F _ = _
      rw [f2 _ (by omega)]
      refine congrArg _ ?_
      omega
    · subst q
      rw [List.getElem?_append_right (by omega), lt] at hk
      cases hk
      exact h3.congr (fun z hz => f1 z hz)
    · rw [List.getElem?_append_right (by omega), lt, List.getElem?_eq_none (by show 1 ≤ _; omega)] at hk
      cases hk
  · rw [if_neg h4] at hk
    simp only [if_neg h4] at f1 f2
    rcases Nat.lt_trichotomy k V.2.1.length with q | q | q
    · rw [List.getElem?_append_left q] at hk
      refine (a3 _ _ hk).congr (fun z hz => ?_)
      show F _ = _
      rw [f2 _ (by have := Nat.mul_le_mul_left 1245 (show k + 1 ≤ V.2.1.length from q); omega)]
    · subst q
      rw [List.getElem?_append_right (by omega), Nat.sub_self] at hk
      cases hk
      exact h3.congr (fun z hz => f1 z hz)
    · rw [List.getElem?_append_right (by omega), List.getElem?_eq_none (by show 1 ≤ _; omega)] at hk
      cases hk
theorem g_fault (hσ : 72 ≤ σ.1.length) (h : MV M V) (x : Int32) : ∃ M', M_X9_fault [.ref 60, .int x] (mp σ M) = some (some (.int (rFault V x)), mp σ M') ∧ MV M' V := by
  unfold rFault
  cases c : inB x (nI 0) (nI 1) with
  | false =>
    refine ⟨M, mV_eq (mp_at (k := 0) hσ rfl) rfl rfl ?_, h⟩
    unfold B_X9_fault
    simp only [x_k, x_i, x_r, x_nil, x_add, x_sub, x_mul, x_div, x_rem, x_get, x_getR, x_ald, x_aldR, x_len, x_lenR, x_if, xa_nil, xa_ci, xa_cr, x_callI, x_callR, x_new, x_newa, x_newq, x_max, x_min, xc_cmp, xc_cmp0, xc_null, xc_nn, xc_not, xc_and, xc_or, xc_if, xs_skip, xs_seq, xs_decI, xs_decR, xs_setI, xs_inc, xs_if, xs_blk, xs_retI, xs_retB, xs_retR, xs_retD, xs_ret0, xs_putI, xs_putZ, xs_putR, xs_putop, xs_ast, xs_astop, xs_astR, xs_callV, xs_callP, xs_super, xs_sw, s_go_inl, s_go_inr, s_cut_inl, s_cut_inr, o_void_n, v_i_int, v_i_none, v_r_ref, v_r_null, v_r_rf, h_set_some, o_some_s, zB_ne0, zB_ite, zB_ite2, g_Vn, g_Pi, nI_add, Option.bind_some, Option.map_some, Option.bind_none, Option.map_none, List.getElem?_cons_zero, List.getElem?_cons_succ, List.set_cons_zero, List.set_cons_succ, List.cons_append, List.nil_append, List.take_succ_cons, List.take_zero, List.length_cons, List.length_nil, Nat.zero_add, Nat.reduceAdd, Nat.reduceLT, if_true, if_false, Bool.false_eq_true, Bool.true_eq_false, decide_eq_true_eq, decide_true, decide_false, Bool.not_true, Bool.not_false, Option.isNone_none, Option.isNone_some, Option.isSome_none, Option.isSome_some, ite_true, ite_false, reduceIte, reduceCtorEq, and_true, true_and, eq_self, Option.some.injEq, Sum.inr.injEq, Sum.inl.injEq, Prod.mk.injEq, not_true_eq_false, not_false_eq_true, Bool.decide_eq_true, n0_ne, n1_ne, xz_ret, zb_if, n1_if, n0_if, v_rf, h_ix_nI, nI_clamp, zB_t, zB_f, uN_uN, uN_ap, Nat.reduceEqDiff, Nat.reduceMul, Nat.reduceSub, mp_o hσ, mF_len, mp_a1 hσ, mp_a2 hσ, mp_a3 hσ, mp_a4 hσ, mp_a5 hσ, mp_a6 hσ, mp_a7 hσ, mp_a8 hσ, mp_a9 hσ, mp_a10 hσ, mp_a11 hσ, mp_s0 hσ, mp_s1 hσ, mp_s2 hσ, mp_s3 hσ, mp_s4 hσ, mp_s5 hσ, mp_s6 hσ, mp_s7 hσ, mp_s8 hσ, mp_s9 hσ, mp_s10 hσ, mp_s11 hσ, mg0, mg1, mg2, mg3, mg4, mg5, mg6, mg7, mg8, mg9, mg10, mg11, mg12, mg13, mg14, mg15, mg16, mg17, ms5, ms6, ms7, ms9, ms10, ms13, ms14, g_inB, c]
  | true =>
    obtain ⟨k, -, hk, rfl⟩ := inB_t (by omega) (by omega) c
    have e : nI k = zB (wB (nI k)) := by
      rcases (show k = 0 ∨ k = 1 by omega) with rfl | rfl
      · rfl
      · rfl
    obtain ⟨R, s, m, r, -⟩ := g_faultW (M := M) hσ h.2.2.2.2.2.1.pad (wB (nI k))
    rw [← e] at r
    exact ⟨pM M s m R, r, h⟩
theorem g_readL (hσ : 72 ≤ σ.1.length) {L : List tP} (hL : ∀ t ∈ L, 1 ≤ t.2.1 ∧ t.2.1 ≤ 9999) : ∀ (d k : Nat) (M : tM) (S : tS), SRow (M.2 1) S → M.1 14 = nI L.length → (∀ (k : Nat) (t : tP), L[k]? = some t → Wrt false (M.2 9) k t) → k + d = L.length → S.1.length + d ≤ 12 → L.length ≤ 30 → ∀ F, d < F → ∃ f', s_wh C_X9_read_1 W_X9_read_1 F [.ref 60, .int (nI k)] (mp σ M) = some (.inr ([.ref 60, .int (nI L.length)], mp σ (mS M f'))) ∧ SRow f' (S.1 ++ (L.drop k).map (fun t => t.2.1), S.2) := by
  intro d
  induction d with
  | zero =>
    intro k M S h h14 hW hk hS h30 F hF
    obtain ⟨F, rfl⟩ : ∃ F', F = F' + 1 := ⟨F - 1, by omega⟩
    have : k = L.length := by omega
    subst this
    refine ⟨M.2 1, ?_, by rw [List.drop_of_length_le (Nat.le_refl _), List.map_nil, List.append_nil]; exact h⟩
    rw [mS_self]
    refine wh_F ?_
    simp (disch := omega) only [x_k, x_i, x_r, x_nil, x_add, x_sub, x_mul, x_div, x_rem, x_get, x_getR, x_ald, x_aldR, x_len, x_lenR, x_if, xa_nil, xa_ci, xa_cr, x_callI, x_callR, x_new, x_newa, x_newq, x_max, x_min, xc_cmp, xc_cmp0, xc_null, xc_nn, xc_not, xc_and, xc_or, xc_if, xs_skip, xs_seq, xs_decI, xs_decR, xs_setI, xs_inc, xs_if, xs_blk, xs_retI, xs_retB, xs_retR, xs_retD, xs_ret0, xs_putI, xs_putZ, xs_putR, xs_putop, xs_ast, xs_astop, xs_astR, xs_callV, xs_callP, xs_super, xs_sw, s_go_inl, s_go_inr, s_cut_inl, s_cut_inr, o_void_n, v_i_int, v_i_none, v_r_ref, v_r_null, v_r_rf, h_set_some, o_some_s, zB_ne0, zB_ite, zB_ite2, g_Vn, g_Pi, nI_add, Option.bind_some, Option.map_some, Option.bind_none, Option.map_none, List.getElem?_cons_zero, List.getElem?_cons_succ, List.set_cons_zero, List.set_cons_succ, List.cons_append, List.nil_append, List.take_succ_cons, List.take_zero, List.length_cons, List.length_nil, Nat.zero_add, Nat.reduceAdd, Nat.reduceLT, if_true, if_false, Bool.false_eq_true, Bool.true_eq_false, decide_eq_true_eq, decide_true, decide_false, Bool.not_true, Bool.not_false, Option.isNone_none, Option.isNone_some, Option.isSome_none, Option.isSome_some, ite_true, ite_false, reduceIte, reduceCtorEq, and_true, true_and, eq_self, Option.some.injEq, Sum.inr.injEq, Sum.inl.injEq, Prod.mk.injEq, not_true_eq_false, not_false_eq_true, Bool.decide_eq_true, n0_ne, n1_ne, xz_ret, zb_if, n1_if, n0_if, v_rf, h_ix_nI, nI_clamp, zB_t, zB_f, uN_uN, uN_ap, Nat.reduceEqDiff, Nat.reduceMul, Nat.reduceSub, mp_o hσ, mF_len, mp_a1 hσ, mp_a2 hσ, mp_a3 hσ, mp_a4 hσ, mp_a5 hσ, mp_a6 hσ, mp_a7 hσ, mp_a8 hσ, mp_a9 hσ, mp_a10 hσ, mp_a11 hσ, mp_s0 hσ, mp_s1 hσ, mp_s2 hσ, mp_s3 hσ, mp_s4 hσ, mp_s5 hσ, mp_s6 hσ, mp_s7 hσ, mp_s8 hσ, mp_s9 hσ, mp_s10 hσ, mp_s11 hσ, mg0, mg1, mg2, mg3, mg4, mg5, mg6, mg7, mg8, mg9, mg10, mg11, mg12, mg13, mg14, mg15, mg16, mg17, ms5, ms6, ms7, ms9, ms10, ms13, ms14, h14, j_lt, Nat.lt_irrefl]
  | succ d ih =>
    intro k M S h h14 hW hk hS h30 F hF
    obtain ⟨F, rfl⟩ : ∃ F', F = F' + 1 := ⟨F - 1, by omega⟩
    obtain ⟨t, ht⟩ : ∃ t, L[k]? = some t := ⟨_, List.getElem?_eq_getElem (by omega)⟩
    have hb := hL t (List.mem_of_getElem? ht)
    have hw := (hW k t ht).1
    obtain ⟨f1, r1, h1⟩ := g_puts hσ h (i := S.1.length) (Nat.le_refl _) hb (by omega)
    rw [ins_end] at h1
    have hC : C_X9_read_1 [.ref 60, .int (nI k)] (mp σ M) = some (true, mp σ M) := by
      simp (disch := omega) only [x_k, x_i, x_r, x_nil, x_add, x_sub, x_mul, x_div, x_rem, x_get, x_getR, x_ald, x_aldR, x_len, x_lenR, x_if, xa_nil, xa_ci, xa_cr, x_callI, x_callR, x_new, x_newa, x_newq, x_max, x_min, xc_cmp, xc_cmp0, xc_null, xc_nn, xc_not, xc_and, xc_or, xc_if, xs_skip, xs_seq, xs_decI, xs_decR, xs_setI, xs_inc, xs_if, xs_blk, xs_retI, xs_retB, xs_retR, xs_retD, xs_ret0, xs_putI, xs_putZ, xs_putR, xs_putop, xs_ast, xs_astop, xs_astR, xs_callV, xs_callP, xs_super, xs_sw, s_go_inl, s_go_inr, s_cut_inl, s_cut_inr, o_void_n, v_i_int, v_i_none, v_r_ref, v_r_null, v_r_rf, h_set_some, o_some_s, zB_ne0, zB_ite, zB_ite2, g_Vn, g_Pi, nI_add, Option.bind_some, Option.map_some, Option.bind_none, Option.map_none, List.getElem?_cons_zero, List.getElem?_cons_succ, List.set_cons_zero, List.set_cons_succ, List.cons_append, List.nil_append, List.take_succ_cons, List.take_zero, List.length_cons, List.length_nil, Nat.zero_add, Nat.reduceAdd, Nat.reduceLT, if_true, if_false, Bool.false_eq_true, Bool.true_eq_false, decide_eq_true_eq, decide_true, decide_false, Bool.not_true, Bool.not_false, Option.isNone_none, Option.isNone_some, Option.isSome_none, Option.isSome_some, ite_true, ite_false, reduceIte, reduceCtorEq, and_true, true_and, eq_self, Option.some.injEq, Sum.inr.injEq, Sum.inl.injEq, Prod.mk.injEq, not_true_eq_false, not_false_eq_true, Bool.decide_eq_true, n0_ne, n1_ne, xz_ret, zb_if, n1_if, n0_if, v_rf, h_ix_nI, nI_clamp, zB_t, zB_f, uN_uN, uN_ap, Nat.reduceEqDiff, Nat.reduceMul, Nat.reduceSub, mp_o hσ, mF_len, mp_a1 hσ, mp_a2 hσ, mp_a3 hσ, mp_a4 hσ, mp_a5 hσ, mp_a6 hσ, mp_a7 hσ, mp_a8 hσ, mp_a9 hσ, mp_a10 hσ, mp_a11 hσ, mp_s0 hσ, mp_s1 hσ, mp_s2 hσ, mp_s3 hσ, mp_s4 hσ, mp_s5 hσ, mp_s6 hσ, mp_s7 hσ, mp_s8 hσ, mp_s9 hσ, mp_s10 hσ, mp_s11 hσ, mg0, mg1, mg2, mg3, mg4, mg5, mg6, mg7, mg8, mg9, mg10, mg11, mg12, mg13, mg14, mg15, mg16, mg17, ms5, ms6, ms7, ms9, ms10, ms13, ms14, h14, j_lt, show k < L.length by omega]
    have hS2 : W_X9_read_1 [.ref 60, .int (nI k)] (mp σ M) = some (.inr ([.ref 60, .int (nI (k + 1))], mp σ (mS M f1))) := by
      simp (disch := omega) only [x_k, x_i, x_r, x_nil, x_add, x_sub, x_mul, x_div, x_rem, x_get, x_getR, x_ald, x_aldR, x_len, x_lenR, x_if, xa_nil, xa_ci, xa_cr, x_callI, x_callR, x_new, x_newa, x_newq, x_max, x_min, xc_cmp, xc_cmp0, xc_null, xc_nn, xc_not, xc_and, xc_or, xc_if, xs_skip, xs_seq, xs_decI, xs_decR, xs_setI, xs_inc, xs_if, xs_blk, xs_retI, xs_retB, xs_retR, xs_retD, xs_ret0, xs_putI, xs_putZ, xs_putR, xs_putop, xs_ast, xs_astop, xs_astR, xs_callV, xs_callP, xs_super, xs_sw, s_go_inl, s_go_inr, s_cut_inl, s_cut_inr, o_void_n, v_i_int, v_i_none, v_r_ref, v_r_null, v_r_rf, h_set_some, o_some_s, zB_ne0, zB_ite, zB_ite2, g_Vn, g_Pi, nI_add, Option.bind_some, Option.map_some, Option.bind_none, Option.map_none, List.getElem?_cons_zero, List.getElem?_cons_succ, List.set_cons_zero, List.set_cons_succ, List.cons_append, List.nil_append, List.take_succ_cons, List.take_zero, List.length_cons, List.length_nil, Nat.zero_add, Nat.reduceAdd, Nat.reduceLT, if_true, if_false, Bool.false_eq_true, Bool.true_eq_false, decide_eq_true_eq, decide_true, decide_false, Bool.not_true, Bool.not_false, Option.isNone_none, Option.isNone_some, Option.isSome_none, Option.isSome_some, ite_true, ite_false, reduceIte, reduceCtorEq, and_true, true_and, eq_self, Option.some.injEq, Sum.inr.injEq, Sum.inl.injEq, Prod.mk.injEq, not_true_eq_false, not_false_eq_true, Bool.decide_eq_true, n0_ne, n1_ne, xz_ret, zb_if, n1_if, n0_if, v_rf, h_ix_nI, nI_clamp, zB_t, zB_f, uN_uN, uN_ap, Nat.reduceEqDiff, Nat.reduceMul, Nat.reduceSub, mp_o hσ, mF_len, mp_a1 hσ, mp_a2 hσ, mp_a3 hσ, mp_a4 hσ, mp_a5 hσ, mp_a6 hσ, mp_a7 hσ, mp_a8 hσ, mp_a9 hσ, mp_a10 hσ, mp_a11 hσ, mp_s0 hσ, mp_s1 hσ, mp_s2 hσ, mp_s3 hσ, mp_s4 hσ, mp_s5 hσ, mp_s6 hσ, mp_s7 hσ, mp_s8 hσ, mp_s9 hσ, mp_s10 hσ, mp_s11 hσ, mg0, mg1, mg2, mg3, mg4, mg5, mg6, mg7, mg8, mg9, mg10, mg11, mg12, mg13, mg14, mg15, mg16, mg17, ms5, ms6, ms7, ms9, ms10, ms13, ms14, h.2.2.2.1, pk_mul, hw, r1]
    obtain ⟨f2, r2, h2⟩ := ih (k + 1) (mS M f1) (S.1 ++ [t.2.1], S.2) h1 h14 hW (by omega) (by show (S.1 ++ [t.2.1]).length + d ≤ 12; rw [List.length_append]; show S.1.length + 1 + d ≤ 12; omega) h30 F (by omega)
    rw [mS_mS] at r2
    refine ⟨f2, (wh_T hC hS2).trans r2, ?_⟩
    have hdr : L.drop k = t :: L.drop (k + 1) := by
      rw [List.drop_eq_getElem_cons (by omega)]
      congr 1
      exact (List.getElem?_eq_some_iff.mp ht).2
    rw [hdr, List.map_cons]
    have : S.1 ++ t.2.1 :: (L.drop (k + 1)).map (fun t => t.2.1) = (S.1 ++ [t.2.1]) ++ (L.drop (k + 1)).map (fun t => t.2.1) := by rw [List.append_assoc]; rfl
    rw [this]
    exact h2
theorem g_read (hσ : 72 ≤ σ.1.length) (h : MV M V) : ∃ M', M_X9_read [.ref 60] (mp σ M) = some (some (.int (spRead V).1), mp σ M') ∧ MV M' (spRead V).2 := by
  obtain ⟨R, s, m, r, hn⟩ := g_faultW (M := M) hσ h.2.2.2.2.2.1.pad false
  have r : M_X9_fault [.ref 60, .int (nI 0)] (mp σ M) = _ := r
  have hl := h.2.2.1.1.1
  have h0 : MV (pM M s m R) V := h
  unfold spRead
  obtain ⟨X, hX⟩ : ∃ X, X = fltP V.2.2.2.1 false 61 0 := ⟨_, rfl⟩
  have hnum := fltP_num (p := V.2.2.2.1) 61 0 (Nat.zero_le _)
  rw [← hX] at r hn hnum ⊢
  cases e : X.1 with
  | some a =>
    rw [e] at r
    refine ⟨pM M s m R, mV_eq (mp_at (k := 0) hσ rfl) rfl rfl ?_, h0⟩
    have n1 : i_ne (nI a) (-4) = true := j_ne4 (by
      have hp := h.2.2.2.2.2.1.1
      rw [hX] at e
      have := fltP_le 61 0 (Nat.zero_le _) e
      omega)
    unfold B_X9_read
    simp only [x_k, x_i, x_r, x_nil, x_add, x_sub, x_mul, x_div, x_rem, x_get, x_getR, x_ald, x_aldR, x_len, x_lenR, x_if, xa_nil, xa_ci, xa_cr, x_callI, x_callR, x_new, x_newa, x_newq, x_max, x_min, xc_cmp, xc_cmp0, xc_null, xc_nn, xc_not, xc_and, xc_or, xc_if, xs_skip, xs_seq, xs_decI, xs_decR, xs_setI, xs_inc, xs_if, xs_blk, xs_retI, xs_retB, xs_retR, xs_retD, xs_ret0, xs_putI, xs_putZ, xs_putR, xs_putop, xs_ast, xs_astop, xs_astR, xs_callV, xs_callP, xs_super, xs_sw, s_go_inl, s_go_inr, s_cut_inl, s_cut_inr, o_void_n, v_i_int, v_i_none, v_r_ref, v_r_null, v_r_rf, h_set_some, o_some_s, zB_ne0, zB_ite, zB_ite2, g_Vn, g_Pi, nI_add, Option.bind_some, Option.map_some, Option.bind_none, Option.map_none, List.getElem?_cons_zero, List.getElem?_cons_succ, List.set_cons_zero, List.set_cons_succ, List.cons_append, List.nil_append, List.take_succ_cons, List.take_zero, List.length_cons, List.length_nil, Nat.zero_add, Nat.reduceAdd, Nat.reduceLT, if_true, if_false, Bool.false_eq_true, Bool.true_eq_false, decide_eq_true_eq, decide_true, decide_false, Bool.not_true, Bool.not_false, Option.isNone_none, Option.isNone_some, Option.isSome_none, Option.isSome_some, ite_true, ite_false, reduceIte, reduceCtorEq, and_true, true_and, eq_self, Option.some.injEq, Sum.inr.injEq, Sum.inl.injEq, Prod.mk.injEq, not_true_eq_false, not_false_eq_true, Bool.decide_eq_true, n0_ne, n1_ne, xz_ret, zb_if, n1_if, n0_if, v_rf, h_ix_nI, nI_clamp, zB_t, zB_f, uN_uN, uN_ap, Nat.reduceEqDiff, Nat.reduceMul, Nat.reduceSub, mp_o hσ, mF_len, mp_a1 hσ, mp_a2 hσ, mp_a3 hσ, mp_a4 hσ, mp_a5 hσ, mp_a6 hσ, mp_a7 hσ, mp_a8 hσ, mp_a9 hσ, mp_a10 hσ, mp_a11 hσ, mp_s0 hσ, mp_s1 hσ, mp_s2 hσ, mp_s3 hσ, mp_s4 hσ, mp_s5 hσ, mp_s6 hσ, mp_s7 hσ, mp_s8 hσ, mp_s9 hσ, mp_s10 hσ, mp_s11 hσ, mg0, mg1, mg2, mg3, mg4, mg5, mg6, mg7, mg8, mg9, mg10, mg11, mg12, mg13, mg14, mg15, mg16, mg17, ms5, ms6, ms7, ms9, ms10, ms13, ms14, r, oN, n1]
  | none =>
    obtain ⟨hm, hm60, hW⟩ := hn e
    subst hm
    rw [e] at r
    have n1 : i_ne (-4) (-4) = false := by decide
    by_cases c : 12 < V.1.1.length + X.2.length
    · refine ⟨pM M s X.2.length R, mV_eq (mp_at (k := 0) hσ rfl) rfl rfl ?_, by simp only [if_pos c]; exact h0⟩
      simp only [if_pos c]
      unfold B_X9_read
      simp (disch := omega) only [x_k, x_i, x_r, x_nil, x_add, x_sub, x_mul, x_div, x_rem, x_get, x_getR, x_ald, x_aldR, x_len, x_lenR, x_if, xa_nil, xa_ci, xa_cr, x_callI, x_callR, x_new, x_newa, x_newq, x_max, x_min, xc_cmp, xc_cmp0, xc_null, xc_nn, xc_not, xc_and, xc_or, xc_if, xs_skip, xs_seq, xs_decI, xs_decR, xs_setI, xs_inc, xs_if, xs_blk, xs_retI, xs_retB, xs_retR, xs_retD, xs_ret0, xs_putI, xs_putZ, xs_putR, xs_putop, xs_ast, xs_astop, xs_astR, xs_callV, xs_callP, xs_super, xs_sw, s_go_inl, s_go_inr, s_cut_inl, s_cut_inr, o_void_n, v_i_int, v_i_none, v_r_ref, v_r_null, v_r_rf, h_set_some, o_some_s, zB_ne0, zB_ite, zB_ite2, g_Vn, g_Pi, nI_add, Option.bind_some, Option.map_some, Option.bind_none, Option.map_none, List.getElem?_cons_zero, List.getElem?_cons_succ, List.set_cons_zero, List.set_cons_succ, List.cons_append, List.nil_append, List.take_succ_cons, List.take_zero, List.length_cons, List.length_nil, Nat.zero_add, Nat.reduceAdd, Nat.reduceLT, if_true, if_false, Bool.false_eq_true, Bool.true_eq_false, decide_eq_true_eq, decide_true, decide_false, Bool.not_true, Bool.not_false, Option.isNone_none, Option.isNone_some, Option.isSome_none, Option.isSome_some, ite_true, ite_false, reduceIte, reduceCtorEq, and_true, true_and, eq_self, Option.some.injEq, Sum.inr.injEq, Sum.inl.injEq, Prod.mk.injEq, not_true_eq_false, not_false_eq_true, Bool.decide_eq_true, n0_ne, n1_ne, xz_ret, zb_if, n1_if, n0_if, v_rf, h_ix_nI, nI_clamp, zB_t, zB_f, uN_uN, uN_ap, Nat.reduceEqDiff, Nat.reduceMul, Nat.reduceSub, mp_o hσ, mF_len, mp_a1 hσ, mp_a2 hσ, mp_a3 hσ, mp_a4 hσ, mp_a5 hσ, mp_a6 hσ, mp_a7 hσ, mp_a8 hσ, mp_a9 hσ, mp_a10 hσ, mp_a11 hσ, mp_s0 hσ, mp_s1 hσ, mp_s2 hσ, mp_s3 hσ, mp_s4 hσ, mp_s5 hσ, mp_s6 hσ, mp_s7 hσ, mp_s8 hσ, mp_s9 hσ, mp_s10 hσ, mp_s11 hσ, mg0, mg1, mg2, mg3, mg4, mg5, mg6, mg7, mg8, mg9, mg10, mg11, mg12, mg13, mg14, mg15, mg16, mg17, ms5, ms6, ms7, ms9, ms10, ms13, ms14, r, oN, n1, pM_14, h0.2.2.1.2.2.2.1, j_gt, c]
    · simp only [if_neg c]
      obtain ⟨v, F, rc, h1⟩ := g_changeX hσ h0
      obtain ⟨M1, hM1⟩ : ∃ M1 : tM, M1 = (uN (pM M s X.2.length R).1 6 v, uN (pM M s X.2.length R).2 2 F) := ⟨_, rfl⟩
      rw [← hM1] at rc h1
      obtain ⟨f', r2, h2⟩ := g_readL (L := X.2) hσ hnum X.2.length 0 M1 V.1 h1.2.2.1 (by rw [hM1]; rfl) (by rw [hM1]; exact hW) (Nat.zero_add _) (by omega) (by omega) s_FUEL (by unfold s_FUEL; omega)
      rw [List.drop_zero] at h2
      have r2 : s_while C_X9_read_1 W_X9_read_1 [.ref 60, .int (nI 0)] (mp σ M1) = _ := r2
      have h3 : MV (mS M1 f') (chg V (V.1.1 ++ X.2.map (fun t => t.2.1), V.1.2)) := h1.mS h2
      have e2 : f' 2 = nI (V.1.1.length + X.2.length) := by
        rw [h2.2.2.2.1]
        show nI (V.1.1 ++ X.2.map (fun t => t.2.1)).length = _
        rw [List.length_append, List.length_map]
      refine ⟨(uN (mS M1 f').1 9 (nI 0), (mS M1 f').2), mV_eq (mp_at (k := 0) hσ rfl) rfl rfl ?_, h3.typed⟩
      unfold B_X9_read
      simp (disch := omega) only [x_k, x_i, x_r, x_nil, x_add, x_sub, x_mul, x_div, x_rem, x_get, x_getR, x_ald, x_aldR, x_len, x_lenR, x_if, xa_nil, xa_ci, xa_cr, x_callI, x_callR, x_new, x_newa, x_newq, x_max, x_min, xc_cmp, xc_cmp0, xc_null, xc_nn, xc_not, xc_and, xc_or, xc_if, xs_skip, xs_seq, xs_decI, xs_decR, xs_setI, xs_inc, xs_if, xs_blk, xs_retI, xs_retB, xs_retR, xs_retD, xs_ret0, xs_putI, xs_putZ, xs_putR, xs_putop, xs_ast, xs_astop, xs_astR, xs_callV, xs_callP, xs_super, xs_sw, s_go_inl, s_go_inr, s_cut_inl, s_cut_inr, o_void_n, v_i_int, v_i_none, v_r_ref, v_r_null, v_r_rf, h_set_some, o_some_s, zB_ne0, zB_ite, zB_ite2, g_Vn, g_Pi, nI_add, Option.bind_some, Option.map_some, Option.bind_none, Option.map_none, List.getElem?_cons_zero, List.getElem?_cons_succ, List.set_cons_zero, List.set_cons_succ, List.cons_append, List.nil_append, List.take_succ_cons, List.take_zero, List.length_cons, List.length_nil, Nat.zero_add, Nat.reduceAdd, Nat.reduceLT, if_true, if_false, Bool.false_eq_true, Bool.true_eq_false, decide_eq_true_eq, decide_true, decide_false, Bool.not_true, Bool.not_false, Option.isNone_none, Option.isNone_some, Option.isSome_none, Option.isSome_some, ite_true, ite_false, reduceIte, reduceCtorEq, and_true, true_and, eq_self, Option.some.injEq, Sum.inr.injEq, Sum.inl.injEq, Prod.mk.injEq, not_true_eq_false, not_false_eq_true, Bool.decide_eq_true, n0_ne, n1_ne, xz_ret, zb_if, n1_if, n0_if, v_rf, h_ix_nI, nI_clamp, zB_t, zB_f, uN_uN, uN_ap, Nat.reduceEqDiff, Nat.reduceMul, Nat.reduceSub, mp_o hσ, mF_len, mp_a1 hσ, mp_a2 hσ, mp_a3 hσ, mp_a4 hσ, mp_a5 hσ, mp_a6 hσ, mp_a7 hσ, mp_a8 hσ, mp_a9 hσ, mp_a10 hσ, mp_a11 hσ, mp_s0 hσ, mp_s1 hσ, mp_s2 hσ, mp_s3 hσ, mp_s4 hσ, mp_s5 hσ, mp_s6 hσ, mp_s7 hσ, mp_s8 hσ, mp_s9 hσ, mp_s10 hσ, mp_s11 hσ, mg0, mg1, mg2, mg3, mg4, mg5, mg6, mg7, mg8, mg9, mg10, mg11, mg12, mg13, mg14, mg15, mg16, mg17, ms5, ms6, ms7, ms9, ms10, ms13, ms14, r, oN, n1, pM_14, h0.2.2.1.2.2.2.1, j_gt, c, rc, r2, mS_1, e2]
/-- the reference while deeds are carried out: it stopped or not; its state; where it stopped -/
def sM (M : tM) (b : Bool) (f g : Nat → Int32) : tM := (uN M.1 10 (zB b), uN (uN M.2 1 f) 7 g)
theorem sM_f (M : tM) (b : Bool) (f g f' : Nat → Int32) : mS (sM M b f g) f' = sM M b f' g := by
  refine Prod.ext rfl (funext fun k => ?_)
  show (if k = 1 then f' else if k = 7 then g else if k = 1 then f else M.2 k) = if k = 7 then g else if k = 1 then f' else M.2 k
  by_cases h : k = 1
  · subst h; rfl
  · simp only [h, if_false]
theorem sM_b (M : tM) (b c : Bool) (f g : Nat → Int32) : ((uN (sM M b f g).1 10 (zB c), (sM M b f g).2) : tM) = sM M c f g := by
  unfold sM
  rw [uN_uN]
theorem sM_b1 (M : tM) (b : Bool) (f g : Nat → Int32) : ((uN (sM M b f g).1 10 (nI 1), (sM M b f g).2) : tM) = sM M true f g := sM_b M b true f g
theorem sM_b0 (M : tM) (b : Bool) (f g : Nat → Int32) : ((uN (sM M b f g).1 10 (nI 0), (sM M b f g).2) : tM) = sM M false f g := sM_b M b false f g
theorem sM_g (M : tM) (b : Bool) (f g g' : Nat → Int32) : (((sM M b f g).1, uN (sM M b f g).2 7 g') : tM) = sM M b f g' := by
  unfold sM
  rw [uN_uN]
theorem g_chRun (hσ : 72 ≤ σ.1.length) (hr : M.1 7 = nI 1) : M_X9_changes [.ref 60] (mp σ M) = some (none, mp σ M) := by
  refine mV_eq (mp_at (k := 0) hσ rfl) rfl rfl ?_
  unfold B_X9_changes
  simp only [x_k, x_i, x_r, x_nil, x_add, x_sub, x_mul, x_div, x_rem, x_get, x_getR, x_ald, x_aldR, x_len, x_lenR, x_if, xa_nil, xa_ci, xa_cr, x_callI, x_callR, x_new, x_newa, x_newq, x_max, x_min, xc_cmp, xc_cmp0, xc_null, xc_nn, xc_not, xc_and, xc_or, xc_if, xs_skip, xs_seq, xs_decI, xs_decR, xs_setI, xs_inc, xs_if, xs_blk, xs_retI, xs_retB, xs_retR, xs_retD, xs_ret0, xs_putI, xs_putZ, xs_putR, xs_putop, xs_ast, xs_astop, xs_astR, xs_callV, xs_callP, xs_super, xs_sw, s_go_inl, s_go_inr, s_cut_inl, s_cut_inr, o_void_n, v_i_int, v_i_none, v_r_ref, v_r_null, v_r_rf, h_set_some, o_some_s, zB_ne0, zB_ite, zB_ite2, g_Vn, g_Pi, nI_add, Option.bind_some, Option.map_some, Option.bind_none, Option.map_none, List.getElem?_cons_zero, List.getElem?_cons_succ, List.set_cons_zero, List.set_cons_succ, List.cons_append, List.nil_append, List.take_succ_cons, List.take_zero, List.length_cons, List.length_nil, Nat.zero_add, Nat.reduceAdd, Nat.reduceLT, if_true, if_false, Bool.false_eq_true, Bool.true_eq_false, decide_eq_true_eq, decide_true, decide_false, Bool.not_true, Bool.not_false, Option.isNone_none, Option.isNone_some, Option.isSome_none, Option.isSome_some, ite_true, ite_false, reduceIte, reduceCtorEq, and_true, true_and, eq_self, Option.some.injEq, Sum.inr.injEq, Sum.inl.injEq, Prod.mk.injEq, not_true_eq_false, not_false_eq_true, Bool.decide_eq_true, n0_ne, n1_ne, xz_ret, zb_if, n1_if, n0_if, v_rf, h_ix_nI, nI_clamp, zB_t, zB_f, uN_uN, uN_ap, Nat.reduceEqDiff, Nat.reduceMul, Nat.reduceSub, mp_o hσ, mF_len, mp_a1 hσ, mp_a2 hσ, mp_a3 hσ, mp_a4 hσ, mp_a5 hσ, mp_a6 hσ, mp_a7 hσ, mp_a8 hσ, mp_a9 hσ, mp_a10 hσ, mp_a11 hσ, mp_s0 hσ, mp_s1 hσ, mp_s2 hσ, mp_s3 hσ, mp_s4 hσ, mp_s5 hσ, mp_s6 hσ, mp_s7 hσ, mp_s8 hσ, mp_s9 hσ, mp_s10 hσ, mp_s11 hσ, mg0, mg1, mg2, mg3, mg4, mg5, mg6, mg7, mg8, mg9, mg10, mg11, mg12, mg13, mg14, mg15, mg16, mg17, ms5, ms6, ms7, ms9, ms10, ms13, ms14, hr]
theorem if_self {α : Type} (c : Prop) [Decidable c] (x : α) : (if c then x else x) = x := by split <;> rfl
theorem g_does (hσ : 72 ≤ σ.1.length) (hr : M.1 7 = nI 1) (hp : PRow (M.2 5)) (h : SRow (M.2 1) S) {n : Nat} (hn : n ≤ 30) {t : tP} (ht : letB t.1 = true ∧ t.2.1 ≤ 11 ∧ t.2.2.1 ≤ 9999 ∧ t.2.2.2 ≤ 60) (hW : Wrt true (M.2 9) n t) : ∃ f', M_X9_does [.ref 60, .int (nI n)] (mp σ M) = some (some (.int (deedT S t).1), mp σ (mS M f')) ∧ SRow f' (deedT S t).2 := by
  have rc := g_chRun hσ hr
  have hl := of_decide_eq_true ht.1
  obtain ⟨w1, w2⟩ := hW
  obtain ⟨w2, w3, w4⟩ := w2 rfl
  have fix : ∀ (r : Int32 × tS) (sem : sSem) (As : List Value), (∃ f', sem As (mp σ M) = some (some (.int r.1), mp σ (if i_lt r.1 0 = true then M else mS M f')) ∧ SRow f' r.2) → (i_lt r.1 0 = true → r.2 = S) → ∃ f', sem As (mp σ M) = some (some (.int r.1), mp σ (mS M f')) ∧ SRow f' r.2 := fun r sem As ⟨f', e, hf⟩ hS => by
    by_cases c : i_lt r.1 0 = true
    · rw [if_pos c] at e
      exact ⟨M.2 1, by rw [mS_self]; exact e, by rw [hS c]; exact h⟩
    · rw [if_neg c] at e
      exact ⟨f', e, hf⟩
  have hb : ∀ x : Int32, s_decI 2 (e_ald (e_getR 7 15 (e_r 0)) (e_add (e_mul (e_k (nI 4)) (e_i 1)) (e_k (nI 1)))) [.ref 60, .int (nI n)] (mp σ M) = some (.inr ([.ref 60, .int (nI n), .int (nI t.2.1)], mp σ M)) := fun _ => by
    simp (disch := omega) only [x_k, x_i, x_r, x_nil, x_add, x_sub, x_mul, x_div, x_rem, x_get, x_getR, x_ald, x_aldR, x_len, x_lenR, x_if, xa_nil, xa_ci, xa_cr, x_callI, x_callR, x_new, x_newa, x_newq, x_max, x_min, xc_cmp, xc_cmp0, xc_null, xc_nn, xc_not, xc_and, xc_or, xc_if, xs_skip, xs_seq, xs_decI, xs_decR, xs_setI, xs_inc, xs_if, xs_blk, xs_retI, xs_retB, xs_retR, xs_retD, xs_ret0, xs_putI, xs_putZ, xs_putR, xs_putop, xs_ast, xs_astop, xs_astR, xs_callV, xs_callP, xs_super, xs_sw, s_go_inl, s_go_inr, s_cut_inl, s_cut_inr, o_void_n, v_i_int, v_i_none, v_r_ref, v_r_null, v_r_rf, h_set_some, o_some_s, zB_ne0, zB_ite, zB_ite2, g_Vn, g_Pi, nI_add, Option.bind_some, Option.map_some, Option.bind_none, Option.map_none, List.getElem?_cons_zero, List.getElem?_cons_succ, List.set_cons_zero, List.set_cons_succ, List.cons_append, List.nil_append, List.take_succ_cons, List.take_zero, List.length_cons, List.length_nil, Nat.zero_add, Nat.reduceAdd, Nat.reduceLT, if_true, if_false, Bool.false_eq_true, Bool.true_eq_false, decide_eq_true_eq, decide_true, decide_false, Bool.not_true, Bool.not_false, Option.isNone_none, Option.isNone_some, Option.isSome_none, Option.isSome_some, ite_true, ite_false, reduceIte, reduceCtorEq, and_true, true_and, eq_self, Option.some.injEq, Sum.inr.injEq, Sum.inl.injEq, Prod.mk.injEq, not_true_eq_false, not_false_eq_true, Bool.decide_eq_true, n0_ne, n1_ne, xz_ret, zb_if, n1_if, n0_if, v_rf, h_ix_nI, nI_clamp, zB_t, zB_f, uN_uN, uN_ap, Nat.reduceEqDiff, Nat.reduceMul, Nat.reduceSub, mp_o hσ, mF_len, mp_a1 hσ, mp_a2 hσ, mp_a3 hσ, mp_a4 hσ, mp_a5 hσ, mp_a6 hσ, mp_a7 hσ, mp_a8 hσ, mp_a9 hσ, mp_a10 hσ, mp_a11 hσ, mp_s0 hσ, mp_s1 hσ, mp_s2 hσ, mp_s3 hσ, mp_s4 hσ, mp_s5 hσ, mp_s6 hσ, mp_s7 hσ, mp_s8 hσ, mp_s9 hσ, mp_s10 hσ, mp_s11 hσ, mg0, mg1, mg2, mg3, mg4, mg5, mg6, mg7, mg8, mg9, mg10, mg11, mg12, mg13, mg14, mg15, mg16, mg17, ms5, ms6, ms7, ms9, ms10, ms13, ms14, pk_mul, w1]
  have hx : (e_ald (e_getR 7 15 (e_r 0)) (e_mul (e_k (nI 4)) (e_i 1))) [.ref 60, .int (nI n), .int (nI t.2.1)] (mp σ M) = some (nI t.1, mp σ M) := by
    simp (disch := omega) only [x_k, x_i, x_r, x_nil, x_add, x_sub, x_mul, x_div, x_rem, x_get, x_getR, x_ald, x_aldR, x_len, x_lenR, x_if, xa_nil, xa_ci, xa_cr, x_callI, x_callR, x_new, x_newa, x_newq, x_max, x_min, xc_cmp, xc_cmp0, xc_null, xc_nn, xc_not, xc_and, xc_or, xc_if, xs_skip, xs_seq, xs_decI, xs_decR, xs_setI, xs_inc, xs_if, xs_blk, xs_retI, xs_retB, xs_retR, xs_retD, xs_ret0, xs_putI, xs_putZ, xs_putR, xs_putop, xs_ast, xs_astop, xs_astR, xs_callV, xs_callP, xs_super, xs_sw, s_go_inl, s_go_inr, s_cut_inl, s_cut_inr, o_void_n, v_i_int, v_i_none, v_r_ref, v_r_null, v_r_rf, h_set_some, o_some_s, zB_ne0, zB_ite, zB_ite2, g_Vn, g_Pi, nI_add, Option.bind_some, Option.map_some, Option.bind_none, Option.map_none, List.getElem?_cons_zero, List.getElem?_cons_succ, List.set_cons_zero, List.set_cons_succ, List.cons_append, List.nil_append, List.take_succ_cons, List.take_zero, List.length_cons, List.length_nil, Nat.zero_add, Nat.reduceAdd, Nat.reduceLT, if_true, if_false, Bool.false_eq_true, Bool.true_eq_false, decide_eq_true_eq, decide_true, decide_false, Bool.not_true, Bool.not_false, Option.isNone_none, Option.isNone_some, Option.isSome_none, Option.isSome_some, ite_true, ite_false, reduceIte, reduceCtorEq, and_true, true_and, eq_self, Option.some.injEq, Sum.inr.injEq, Sum.inl.injEq, Prod.mk.injEq, not_true_eq_false, not_false_eq_true, Bool.decide_eq_true, n0_ne, n1_ne, xz_ret, zb_if, n1_if, n0_if, v_rf, h_ix_nI, nI_clamp, zB_t, zB_f, uN_uN, uN_ap, Nat.reduceEqDiff, Nat.reduceMul, Nat.reduceSub, mp_o hσ, mF_len, mp_a1 hσ, mp_a2 hσ, mp_a3 hσ, mp_a4 hσ, mp_a5 hσ, mp_a6 hσ, mp_a7 hσ, mp_a8 hσ, mp_a9 hσ, mp_a10 hσ, mp_a11 hσ, mp_s0 hσ, mp_s1 hσ, mp_s2 hσ, mp_s3 hσ, mp_s4 hσ, mp_s5 hσ, mp_s6 hσ, mp_s7 hσ, mp_s8 hσ, mp_s9 hσ, mp_s10 hσ, mp_s11 hσ, mg0, mg1, mg2, mg3, mg4, mg5, mg6, mg7, mg8, mg9, mg10, mg11, mg12, mg13, mg14, mg15, mg16, mg17, ms5, ms6, ms7, ms9, ms10, ms13, ms14, pk_mul, w2]
  unfold deedT
  by_cases c1 : t.1 = 115
  · rw [if_pos c1]
    obtain ⟨f', r, hf⟩ := fix (dShare S (nI t.2.1)) M_X9_share [.ref 60, .int (nI t.2.1)] (g_shareC hσ h rc h (nI t.2.1)) (fun z => by
      unfold dShare at z ⊢
      by_cases a : s2B S (nI t.2.1) = true
      · rw [if_pos a] at z ⊢
        by_cases b : 9999 < lcm2 (sN S (nN (nI t.2.1))) (sN S (nN (nI t.2.1) + 1))
        · rw [if_pos b]
        · rw [if_neg b] at z
          rw [nN_n (by omega)] at z
          have b1 := sN_ok h.1 t.2.1
          have := gcd_le (b := sN S (t.2.1 + 1)) b1.1
          rw [j_lt0 (by omega)] at z
          cases z
      · rw [if_neg a])
    refine ⟨f', mV_eq (mp_at (k := 0) hσ rfl) rfl rfl ?_, hf⟩
    unfold B_X9_does
    rw [seq_r (hb 0), xs_sw, hx, Option.bind_some]
    rw [c1, if_pos rfl]
    simp only [x_k, x_i, x_r, x_nil, x_add, x_sub, x_mul, x_div, x_rem, x_get, x_getR, x_ald, x_aldR, x_len, x_lenR, x_if, xa_nil, xa_ci, xa_cr, x_callI, x_callR, x_new, x_newa, x_newq, x_max, x_min, xc_cmp, xc_cmp0, xc_null, xc_nn, xc_not, xc_and, xc_or, xc_if, xs_skip, xs_seq, xs_decI, xs_decR, xs_setI, xs_inc, xs_if, xs_blk, xs_retI, xs_retB, xs_retR, xs_retD, xs_ret0, xs_putI, xs_putZ, xs_putR, xs_putop, xs_ast, xs_astop, xs_astR, xs_callV, xs_callP, xs_super, xs_sw, s_go_inl, s_go_inr, s_cut_inl, s_cut_inr, o_void_n, v_i_int, v_i_none, v_r_ref, v_r_null, v_r_rf, h_set_some, o_some_s, zB_ne0, zB_ite, zB_ite2, g_Vn, g_Pi, nI_add, Option.bind_some, Option.map_some, Option.bind_none, Option.map_none, List.getElem?_cons_zero, List.getElem?_cons_succ, List.set_cons_zero, List.set_cons_succ, List.cons_append, List.nil_append, List.take_succ_cons, List.take_zero, List.length_cons, List.length_nil, Nat.zero_add, Nat.reduceAdd, Nat.reduceLT, if_true, if_false, Bool.false_eq_true, Bool.true_eq_false, decide_eq_true_eq, decide_true, decide_false, Bool.not_true, Bool.not_false, Option.isNone_none, Option.isNone_some, Option.isSome_none, Option.isSome_some, ite_true, ite_false, reduceIte, reduceCtorEq, and_true, true_and, eq_self, Option.some.injEq, Sum.inr.injEq, Sum.inl.injEq, Prod.mk.injEq, v_rf, r]
  · by_cases c2 : t.1 = 100
    · rw [if_neg c1, if_pos c2]
      obtain ⟨f', r, hf⟩ := fix (dDivide S (nI t.2.1)) M_X9_divide [.ref 60, .int (nI t.2.1)] (g_divideC hσ h rc h hp (nI t.2.1)) (fun z => by
        unfold dDivide at z ⊢
        by_cases a : s2B S (nI t.2.1) = true
        · rw [if_pos a] at z ⊢
          by_cases b : sN S (nN (nI t.2.1) + 1) % sN S (nN (nI t.2.1)) = 0
          · rw [if_pos b] at z
            rw [nN_n (by omega)] at z
            have b1 := sN_ok h.1 (t.2.1 + 1)
            have := Nat.div_le_self (sN S (t.2.1 + 1)) (sN S t.2.1)
            rw [j_lt0 (by omega)] at z
            cases z
          · rw [if_neg b]
        · rw [if_neg a])
      refine ⟨f', mV_eq (mp_at (k := 0) hσ rfl) rfl rfl ?_, hf⟩
      unfold B_X9_does
      rw [seq_r (hb 0), xs_sw, hx, Option.bind_some]
      rw [c2, if_neg (show ¬ nI 100 = nI 115 by decide), if_pos rfl]
      simp only [x_k, x_i, x_r, x_nil, x_add, x_sub, x_mul, x_div, x_rem, x_get, x_getR, x_ald, x_aldR, x_len, x_lenR, x_if, xa_nil, xa_ci, xa_cr, x_callI, x_callR, x_new, x_newa, x_newq, x_max, x_min, xc_cmp, xc_cmp0, xc_null, xc_nn, xc_not, xc_and, xc_or, xc_if, xs_skip, xs_seq, xs_decI, xs_decR, xs_setI, xs_inc, xs_if, xs_blk, xs_retI, xs_retB, xs_retR, xs_retD, xs_ret0, xs_putI, xs_putZ, xs_putR, xs_putop, xs_ast, xs_astop, xs_astR, xs_callV, xs_callP, xs_super, xs_sw, s_go_inl, s_go_inr, s_cut_inl, s_cut_inr, o_void_n, v_i_int, v_i_none, v_r_ref, v_r_null, v_r_rf, h_set_some, o_some_s, zB_ne0, zB_ite, zB_ite2, g_Vn, g_Pi, nI_add, Option.bind_some, Option.map_some, Option.bind_none, Option.map_none, List.getElem?_cons_zero, List.getElem?_cons_succ, List.set_cons_zero, List.set_cons_succ, List.cons_append, List.nil_append, List.take_succ_cons, List.take_zero, List.length_cons, List.length_nil, Nat.zero_add, Nat.reduceAdd, Nat.reduceLT, if_true, if_false, Bool.false_eq_true, Bool.true_eq_false, decide_eq_true_eq, decide_true, decide_false, Bool.not_true, Bool.not_false, Option.isNone_none, Option.isNone_some, Option.isSome_none, Option.isSome_some, ite_true, ite_false, reduceIte, reduceCtorEq, and_true, true_and, eq_self, Option.some.injEq, Sum.inr.injEq, Sum.inl.injEq, Prod.mk.injEq, v_rf, r]
    · have c3 : t.1 = 107 := by omega
      have w3 := w3 c3
      rw [if_neg c1, if_neg c2]
      obtain ⟨f', r, hf⟩ := fix (dStrike S (nI t.2.1) (nI t.2.2.1)) M_X9_strike [.ref 60, .int (nI t.2.1), .int (nI t.2.2.1)] (g_strikeC hσ h hp rc h hp (nI t.2.1) (nI t.2.2.1)) (fun z => by
        unfold dStrike at z ⊢
        by_cases a : (stB S (nI t.2.1) && prI (nI t.2.2.1)) = true
        · rw [if_pos a] at z ⊢
          by_cases b : sN S (nN (nI t.2.1)) % nN (nI t.2.2.1) = 0
          · rw [if_pos b] at z
            rw [nN_n (by omega), nN_n (by omega)] at z
            have b1 := sN_ok h.1 t.2.1
            have := Nat.div_le_self (sN S t.2.1) t.2.2.1
            rw [j_lt0 (by omega)] at z
            cases z
          · rw [if_neg b]
        · rw [if_neg a])
      refine ⟨f', mV_eq (mp_at (k := 0) hσ rfl) rfl rfl ?_, hf⟩
      unfold B_X9_does
      rw [seq_r (hb 0), xs_sw, hx, Option.bind_some]
      rw [c3, if_neg (show ¬ nI 107 = nI 115 by decide), if_neg (show ¬ nI 107 = nI 100 by decide)]
      simp (disch := omega) only [x_k, x_i, x_r, x_nil, x_add, x_sub, x_mul, x_div, x_rem, x_get, x_getR, x_ald, x_aldR, x_len, x_lenR, x_if, xa_nil, xa_ci, xa_cr, x_callI, x_callR, x_new, x_newa, x_newq, x_max, x_min, xc_cmp, xc_cmp0, xc_null, xc_nn, xc_not, xc_and, xc_or, xc_if, xs_skip, xs_seq, xs_decI, xs_decR, xs_setI, xs_inc, xs_if, xs_blk, xs_retI, xs_retB, xs_retR, xs_retD, xs_ret0, xs_putI, xs_putZ, xs_putR, xs_putop, xs_ast, xs_astop, xs_astR, xs_callV, xs_callP, xs_super, xs_sw, s_go_inl, s_go_inr, s_cut_inl, s_cut_inr, o_void_n, v_i_int, v_i_none, v_r_ref, v_r_null, v_r_rf, h_set_some, o_some_s, zB_ne0, zB_ite, zB_ite2, g_Vn, g_Pi, nI_add, Option.bind_some, Option.map_some, Option.bind_none, Option.map_none, List.getElem?_cons_zero, List.getElem?_cons_succ, List.set_cons_zero, List.set_cons_succ, List.cons_append, List.nil_append, List.take_succ_cons, List.take_zero, List.length_cons, List.length_nil, Nat.zero_add, Nat.reduceAdd, Nat.reduceLT, if_true, if_false, Bool.false_eq_true, Bool.true_eq_false, decide_eq_true_eq, decide_true, decide_false, Bool.not_true, Bool.not_false, Option.isNone_none, Option.isNone_some, Option.isSome_none, Option.isSome_some, ite_true, ite_false, reduceIte, reduceCtorEq, and_true, true_and, eq_self, Option.some.injEq, Sum.inr.injEq, Sum.inl.injEq, Prod.mk.injEq, not_true_eq_false, not_false_eq_true, Bool.decide_eq_true, n0_ne, n1_ne, xz_ret, zb_if, n1_if, n0_if, v_rf, h_ix_nI, nI_clamp, zB_t, zB_f, uN_uN, uN_ap, Nat.reduceEqDiff, Nat.reduceMul, Nat.reduceSub, mp_o hσ, mF_len, mp_a1 hσ, mp_a2 hσ, mp_a3 hσ, mp_a4 hσ, mp_a5 hσ, mp_a6 hσ, mp_a7 hσ, mp_a8 hσ, mp_a9 hσ, mp_a10 hσ, mp_a11 hσ, mp_s0 hσ, mp_s1 hσ, mp_s2 hσ, mp_s3 hσ, mp_s4 hσ, mp_s5 hσ, mp_s6 hσ, mp_s7 hσ, mp_s8 hσ, mp_s9 hσ, mp_s10 hσ, mp_s11 hσ, mg0, mg1, mg2, mg3, mg4, mg5, mg6, mg7, mg8, mg9, mg10, mg11, mg12, mg13, mg14, mg15, mg16, mg17, ms5, ms6, ms7, ms9, ms10, ms13, ms14, pk_mul, w3, r]
theorem g_cryL (hσ : 72 ≤ σ.1.length) {L : List tP} (hL : ∀ t ∈ L, letB t.1 = true ∧ t.2.1 ≤ 11 ∧ t.2.2.1 ≤ 9999 ∧ t.2.2.2 ≤ 60) (hr : M.1 7 = nI 1) (hp : PRow (M.2 5)) (h14 : M.1 14 = nI L.length) (hW : ∀ (k : Nat) (t : tP), L[k]? = some t → Wrt true (M.2 9) k t) (h30 : L.length ≤ 30) : ∀ (d n : Nat) (f g : Nat → Int32) (S : tS), SRow f S → n + d = L.length → ∀ F, d + 1 < F → ∃ (b : Bool) (f' g' : Nat → Int32), s_wh C_X9_carryOut_1 W_X9_carryOut_1 F [.ref 60, .int (nI n)] (mp σ (sM M false f g)) = some (.inr ([.ref 60, .int (nI (cryF (L.drop n) S n).1)], mp σ (sM M b f' g'))) ∧ SRow f' (cryF (L.drop n) S n).2.1 ∧ b = (cryF (L.drop n) S n).2.2.isSome ∧ (∀ e, (cryF (L.drop n) S n).2.2 = some e → g' 0 = e.1 ∧ g' 1 = nI e.2.1 ∧ g' 2 = nI e.2.2) := by
  have s14 : ∀ b f g, (sM M b f g).1 14 = nI L.length := fun _ _ _ => h14
  have s10 : ∀ b f g, (sM M b f g).1 10 = zB b := fun _ _ _ => rfl
  have s9 : ∀ b f g, (sM M b f g).2 9 = M.2 9 := fun _ _ _ => rfl
  have s7 : ∀ b f g, (sM M b f g).2 7 = g := fun _ _ _ => rfl
  intro d
  induction d with
  | zero =>
    intro n f g S h hn F hF
    obtain ⟨F, rfl⟩ : ∃ F', F = F' + 1 := ⟨F - 1, by omega⟩
    have : n = L.length := by omega
    subst this
    rw [List.drop_of_length_le (Nat.le_refl _)]
    refine ⟨false, f, g, wh_F ?_, h, rfl, fun e z => by cases z⟩
    simp (disch := omega) only [x_k, x_i, x_r, x_nil, x_add, x_sub, x_mul, x_div, x_rem, x_get, x_getR, x_ald, x_aldR, x_len, x_lenR, x_if, xa_nil, xa_ci, xa_cr, x_callI, x_callR, x_new, x_newa, x_newq, x_max, x_min, xc_cmp, xc_cmp0, xc_null, xc_nn, xc_not, xc_and, xc_or, xc_if, xs_skip, xs_seq, xs_decI, xs_decR, xs_setI, xs_inc, xs_if, xs_blk, xs_retI, xs_retB, xs_retR, xs_retD, xs_ret0, xs_putI, xs_putZ, xs_putR, xs_putop, xs_ast, xs_astop, xs_astR, xs_callV, xs_callP, xs_super, xs_sw, s_go_inl, s_go_inr, s_cut_inl, s_cut_inr, o_void_n, v_i_int, v_i_none, v_r_ref, v_r_null, v_r_rf, h_set_some, o_some_s, zB_ne0, zB_ite, zB_ite2, g_Vn, g_Pi, nI_add, Option.bind_some, Option.map_some, Option.bind_none, Option.map_none, List.getElem?_cons_zero, List.getElem?_cons_succ, List.set_cons_zero, List.set_cons_succ, List.cons_append, List.nil_append, List.take_succ_cons, List.take_zero, List.length_cons, List.length_nil, Nat.zero_add, Nat.reduceAdd, Nat.reduceLT, if_true, if_false, Bool.false_eq_true, Bool.true_eq_false, decide_eq_true_eq, decide_true, decide_false, Bool.not_true, Bool.not_false, Option.isNone_none, Option.isNone_some, Option.isSome_none, Option.isSome_some, ite_true, ite_false, reduceIte, reduceCtorEq, and_true, true_and, eq_self, Option.some.injEq, Sum.inr.injEq, Sum.inl.injEq, Prod.mk.injEq, not_true_eq_false, not_false_eq_true, Bool.decide_eq_true, n0_ne, n1_ne, xz_ret, zb_if, n1_if, n0_if, v_rf, h_ix_nI, nI_clamp, zB_t, zB_f, uN_uN, uN_ap, Nat.reduceEqDiff, Nat.reduceMul, Nat.reduceSub, mp_o hσ, mF_len, mp_a1 hσ, mp_a2 hσ, mp_a3 hσ, mp_a4 hσ, mp_a5 hσ, mp_a6 hσ, mp_a7 hσ, mp_a8 hσ, mp_a9 hσ, mp_a10 hσ, mp_a11 hσ, mp_s0 hσ, mp_s1 hσ, mp_s2 hσ, mp_s3 hσ, mp_s4 hσ, mp_s5 hσ, mp_s6 hσ, mp_s7 hσ, mp_s8 hσ, mp_s9 hσ, mp_s10 hσ, mp_s11 hσ, mg0, mg1, mg2, mg3, mg4, mg5, mg6, mg7, mg8, mg9, mg10, mg11, mg12, mg13, mg14, mg15, mg16, mg17, ms5, ms6, ms7, ms9, ms10, ms13, ms14, s14, j_lt, Nat.lt_irrefl]
  | succ d ih =>
    intro n f g S h hn F hF
    obtain ⟨F, rfl⟩ : ∃ F', F = F' + 1 + 1 := ⟨F - 2, by omega⟩
    obtain ⟨t, ht⟩ : ∃ t, L[n]? = some t := ⟨_, List.getElem?_eq_getElem (by omega)⟩
    have hb := hL t (List.mem_of_getElem? ht)
    have hw := hW n t ht
    have w4 := (hw.2 rfl).2.2
    have hdr : L.drop n = t :: L.drop (n + 1) := by
      rw [List.drop_eq_getElem_cons (by omega)]
      congr 1
      exact (List.getElem?_eq_some_iff.mp ht).2
    obtain ⟨f1, r1, h1⟩ := g_does (M := sM M false f g) (S := S) hσ hr hp h (show n ≤ 30 by omega) hb hw
    rw [sM_f] at r1
    have hC : C_X9_carryOut_1 [.ref 60, .int (nI n)] (mp σ (sM M false f g)) = some (true, mp σ (sM M false f g)) := by
      simp (disch := omega) only [x_k, x_i, x_r, x_nil, x_add, x_sub, x_mul, x_div, x_rem, x_get, x_getR, x_ald, x_aldR, x_len, x_lenR, x_if, xa_nil, xa_ci, xa_cr, x_callI, x_callR, x_new, x_newa, x_newq, x_max, x_min, xc_cmp, xc_cmp0, xc_null, xc_nn, xc_not, xc_and, xc_or, xc_if, xs_skip, xs_seq, xs_decI, xs_decR, xs_setI, xs_inc, xs_if, xs_blk, xs_retI, xs_retB, xs_retR, xs_retD, xs_ret0, xs_putI, xs_putZ, xs_putR, xs_putop, xs_ast, xs_astop, xs_astR, xs_callV, xs_callP, xs_super, xs_sw, s_go_inl, s_go_inr, s_cut_inl, s_cut_inr, o_void_n, v_i_int, v_i_none, v_r_ref, v_r_null, v_r_rf, h_set_some, o_some_s, zB_ne0, zB_ite, zB_ite2, g_Vn, g_Pi, nI_add, Option.bind_some, Option.map_some, Option.bind_none, Option.map_none, List.getElem?_cons_zero, List.getElem?_cons_succ, List.set_cons_zero, List.set_cons_succ, List.cons_append, List.nil_append, List.take_succ_cons, List.take_zero, List.length_cons, List.length_nil, Nat.zero_add, Nat.reduceAdd, Nat.reduceLT, if_true, if_false, Bool.false_eq_true, Bool.true_eq_false, decide_eq_true_eq, decide_true, decide_false, Bool.not_true, Bool.not_false, Option.isNone_none, Option.isNone_some, Option.isSome_none, Option.isSome_some, ite_true, ite_false, reduceIte, reduceCtorEq, and_true, true_and, eq_self, Option.some.injEq, Sum.inr.injEq, Sum.inl.injEq, Prod.mk.injEq, not_true_eq_false, not_false_eq_true, Bool.decide_eq_true, n0_ne, n1_ne, xz_ret, zb_if, n1_if, n0_if, v_rf, h_ix_nI, nI_clamp, zB_t, zB_f, uN_uN, uN_ap, Nat.reduceEqDiff, Nat.reduceMul, Nat.reduceSub, mp_o hσ, mF_len, mp_a1 hσ, mp_a2 hσ, mp_a3 hσ, mp_a4 hσ, mp_a5 hσ, mp_a6 hσ, mp_a7 hσ, mp_a8 hσ, mp_a9 hσ, mp_a10 hσ, mp_a11 hσ, mp_s0 hσ, mp_s1 hσ, mp_s2 hσ, mp_s3 hσ, mp_s4 hσ, mp_s5 hσ, mp_s6 hσ, mp_s7 hσ, mp_s8 hσ, mp_s9 hσ, mp_s10 hσ, mp_s11 hσ, mg0, mg1, mg2, mg3, mg4, mg5, mg6, mg7, mg8, mg9, mg10, mg11, mg12, mg13, mg14, mg15, mg16, mg17, ms5, ms6, ms7, ms9, ms10, ms13, ms14, s14, s10, j_lt, show n < L.length by omega]
    have ec : cryF (L.drop n) S n = if i_lt (deedT S t).1 0 = true then (n, S, some ((deedT S t).1, n, t.2.2.2)) else cryF (L.drop (n + 1)) (deedT S t).2 (n + 1) := by rw [hdr]; rfl
    rw [ec]
    obtain ⟨v, hv⟩ : ∃ v, v = (deedT S t).1 := ⟨_, rfl⟩
    rw [← hv] at r1 ⊢
    obtain ⟨g1, hg1⟩ : ∃ g1, g1 = upd (upd (upd g 0 v) 1 (nI n)) 2 (nI t.2.2.2) := ⟨_, rfl⟩
    cases c : i_lt v 0 with
    | true =>
      have hS2 : (deedT S t).2 = S := by
        unfold deedT at hv ⊢
        have neg : ∀ k : Nat, k < 2 ^ 31 → ¬ v = nI k := fun k hk e => by rw [e, j_lt0 hk] at c; cases c
        by_cases c1 : t.1 = 115
        · rw [if_pos c1] at hv ⊢
          unfold dShare at hv ⊢
          by_cases a : s2B S (nI t.2.1) = true
          · rw [if_pos a] at hv ⊢
            by_cases b : 9999 < lcm2 (sN S (nN (nI t.2.1))) (sN S (nN (nI t.2.1) + 1))
            · rw [if_pos b]
            · rw [if_neg b] at hv
              have b1 := sN_ok h.1 (nN (nI t.2.1))
              have := gcd_le (b := sN S (nN (nI t.2.1) + 1)) b1.1
              exact absurd hv (neg _ (by omega))
          · rw [if_neg a]
        · rw [if_neg c1] at hv ⊢
          by_cases c2 : t.1 = 100
          · rw [if_pos c2] at hv ⊢
            unfold dDivide at hv ⊢
            by_cases a : s2B S (nI t.2.1) = true
            · rw [if_pos a] at hv ⊢
              by_cases b : sN S (nN (nI t.2.1) + 1) % sN S (nN (nI t.2.1)) = 0
              · rw [if_pos b] at hv
                have b1 := sN_ok h.1 (nN (nI t.2.1) + 1)
                have := Nat.div_le_self (sN S (nN (nI t.2.1) + 1)) (sN S (nN (nI t.2.1)))
                exact absurd hv (neg _ (by omega))
              · rw [if_neg b]
            · rw [if_neg a]
          · rw [if_neg c2] at hv ⊢
            unfold dStrike at hv ⊢
            by_cases a : (stB S (nI t.2.1) && prI (nI t.2.2.1)) = true
            · rw [if_pos a] at hv ⊢
              by_cases b : sN S (nN (nI t.2.1)) % nN (nI t.2.2.1) = 0
              · rw [if_pos b] at hv
                have b1 := sN_ok h.1 (nN (nI t.2.1))
                have := Nat.div_le_self (sN S (nN (nI t.2.1))) (nN (nI t.2.2.1))
                exact absurd hv (neg _ (by omega))
              · rw [if_neg b]
            · rw [if_neg a]
      rw [hS2] at h1
      have hS : W_X9_carryOut_1 [.ref 60, .int (nI n)] (mp σ (sM M false f g)) = some (.inr ([.ref 60, .int (nI n)], mp σ (sM M true f1 g1))) := by
        have z1 : (nI 1 = 0 ∨ nI 1 = 1) := Or.inr rfl
        simp (disch := omega) only [x_k, x_i, x_r, x_nil, x_add, x_sub, x_mul, x_div, x_rem, x_get, x_getR, x_ald, x_aldR, x_len, x_lenR, x_if, xa_nil, xa_ci, xa_cr, x_callI, x_callR, x_new, x_newa, x_newq, x_max, x_min, xc_cmp, xc_cmp0, xc_null, xc_nn, xc_not, xc_and, xc_or, xc_if, xs_skip, xs_seq, xs_decI, xs_decR, xs_setI, xs_inc, xs_if, xs_blk, xs_retI, xs_retB, xs_retR, xs_retD, xs_ret0, xs_putI, xs_putZ, xs_putR, xs_putop, xs_ast, xs_astop, xs_astR, xs_callV, xs_callP, xs_super, xs_sw, s_go_inl, s_go_inr, s_cut_inl, s_cut_inr, o_void_n, v_i_int, v_i_none, v_r_ref, v_r_null, v_r_rf, h_set_some, o_some_s, zB_ne0, zB_ite, zB_ite2, g_Vn, g_Pi, nI_add, Option.bind_some, Option.map_some, Option.bind_none, Option.map_none, List.getElem?_cons_zero, List.getElem?_cons_succ, List.set_cons_zero, List.set_cons_succ, List.cons_append, List.nil_append, List.take_succ_cons, List.take_zero, List.length_cons, List.length_nil, Nat.zero_add, Nat.reduceAdd, Nat.reduceLT, if_true, if_false, Bool.false_eq_true, Bool.true_eq_false, decide_eq_true_eq, decide_true, decide_false, Bool.not_true, Bool.not_false, Option.isNone_none, Option.isNone_some, Option.isSome_none, Option.isSome_some, ite_true, ite_false, reduceIte, reduceCtorEq, and_true, true_and, eq_self, Option.some.injEq, Sum.inr.injEq, Sum.inl.injEq, Prod.mk.injEq, not_true_eq_false, not_false_eq_true, Bool.decide_eq_true, n0_ne, n1_ne, xz_ret, zb_if, n1_if, n0_if, v_rf, h_ix_nI, nI_clamp, zB_t, zB_f, uN_uN, uN_ap, Nat.reduceEqDiff, Nat.reduceMul, Nat.reduceSub, mp_o hσ, mF_len, mp_a1 hσ, mp_a2 hσ, mp_a3 hσ, mp_a4 hσ, mp_a5 hσ, mp_a6 hσ, mp_a7 hσ, mp_a8 hσ, mp_a9 hσ, mp_a10 hσ, mp_a11 hσ, mp_s0 hσ, mp_s1 hσ, mp_s2 hσ, mp_s3 hσ, mp_s4 hσ, mp_s5 hσ, mp_s6 hσ, mp_s7 hσ, mp_s8 hσ, mp_s9 hσ, mp_s10 hσ, mp_s11 hσ, mg0, mg1, mg2, mg3, mg4, mg5, mg6, mg7, mg8, mg9, mg10, mg11, mg12, mg13, mg14, mg15, mg16, mg17, ms5, ms6, ms7, ms9, ms10, ms13, ms14, r1, c, z1, and_self, sM_b1, s10, s9, s7, sM_g, pk_mul, w4, ← hg1, Nat.add_zero]
      have hE : C_X9_carryOut_1 [.ref 60, .int (nI n)] (mp σ (sM M true f1 g1)) = some (false, mp σ (sM M true f1 g1)) := by
        simp (disch := omega) only [x_k, x_i, x_r, x_nil, x_add, x_sub, x_mul, x_div, x_rem, x_get, x_getR, x_ald, x_aldR, x_len, x_lenR, x_if, xa_nil, xa_ci, xa_cr, x_callI, x_callR, x_new, x_newa, x_newq, x_max, x_min, xc_cmp, xc_cmp0, xc_null, xc_nn, xc_not, xc_and, xc_or, xc_if, xs_skip, xs_seq, xs_decI, xs_decR, xs_setI, xs_inc, xs_if, xs_blk, xs_retI, xs_retB, xs_retR, xs_retD, xs_ret0, xs_putI, xs_putZ, xs_putR, xs_putop, xs_ast, xs_astop, xs_astR, xs_callV, xs_callP, xs_super, xs_sw, s_go_inl, s_go_inr, s_cut_inl, s_cut_inr, o_void_n, v_i_int, v_i_none, v_r_ref, v_r_null, v_r_rf, h_set_some, o_some_s, zB_ne0, zB_ite, zB_ite2, g_Vn, g_Pi, nI_add, Option.bind_some, Option.map_some, Option.bind_none, Option.map_none, List.getElem?_cons_zero, List.getElem?_cons_succ, List.set_cons_zero, List.set_cons_succ, List.cons_append, List.nil_append, List.take_succ_cons, List.take_zero, List.length_cons, List.length_nil, Nat.zero_add, Nat.reduceAdd, Nat.reduceLT, if_true, if_false, Bool.false_eq_true, Bool.true_eq_false, decide_eq_true_eq, decide_true, decide_false, Bool.not_true, Bool.not_false, Option.isNone_none, Option.isNone_some, Option.isSome_none, Option.isSome_some, ite_true, ite_false, reduceIte, reduceCtorEq, and_true, true_and, eq_self, Option.some.injEq, Sum.inr.injEq, Sum.inl.injEq, Prod.mk.injEq, not_true_eq_false, not_false_eq_true, Bool.decide_eq_true, n0_ne, n1_ne, xz_ret, zb_if, n1_if, n0_if, v_rf, h_ix_nI, nI_clamp, zB_t, zB_f, uN_uN, uN_ap, Nat.reduceEqDiff, Nat.reduceMul, Nat.reduceSub, mp_o hσ, mF_len, mp_a1 hσ, mp_a2 hσ, mp_a3 hσ, mp_a4 hσ, mp_a5 hσ, mp_a6 hσ, mp_a7 hσ, mp_a8 hσ, mp_a9 hσ, mp_a10 hσ, mp_a11 hσ, mp_s0 hσ, mp_s1 hσ, mp_s2 hσ, mp_s3 hσ, mp_s4 hσ, mp_s5 hσ, mp_s6 hσ, mp_s7 hσ, mp_s8 hσ, mp_s9 hσ, mp_s10 hσ, mp_s11 hσ, mg0, mg1, mg2, mg3, mg4, mg5, mg6, mg7, mg8, mg9, mg10, mg11, mg12, mg13, mg14, mg15, mg16, mg17, ms5, ms6, ms7, ms9, ms10, ms13, ms14, s14, s10, j_lt, show n < L.length by omega]
      refine ⟨true, f1, g1, (wh_T hC hS).trans (wh_F hE), h1, rfl, fun e z => ?_⟩
      cases z
      rw [hg1]
      exact ⟨rfl, rfl, rfl⟩
    | false =>
      have hS : W_X9_carryOut_1 [.ref 60, .int (nI n)] (mp σ (sM M false f g)) = some (.inr ([.ref 60, .int (nI (n + 1))], mp σ (sM M false f1 g1))) := by
        have z0 : (nI 0 = 0 ∨ nI 0 = 1) := Or.inl rfl
        simp (disch := omega) only [x_k, x_i, x_r, x_nil, x_add, x_sub, x_mul, x_div, x_rem, x_get, x_getR, x_ald, x_aldR, x_len, x_lenR, x_if, xa_nil, xa_ci, xa_cr, x_callI, x_callR, x_new, x_newa, x_newq, x_max, x_min, xc_cmp, xc_cmp0, xc_null, xc_nn, xc_not, xc_and, xc_or, xc_if, xs_skip, xs_seq, xs_decI, xs_decR, xs_setI, xs_inc, xs_if, xs_blk, xs_retI, xs_retB, xs_retR, xs_retD, xs_ret0, xs_putI, xs_putZ, xs_putR, xs_putop, xs_ast, xs_astop, xs_astR, xs_callV, xs_callP, xs_super, xs_sw, s_go_inl, s_go_inr, s_cut_inl, s_cut_inr, o_void_n, v_i_int, v_i_none, v_r_ref, v_r_null, v_r_rf, h_set_some, o_some_s, zB_ne0, zB_ite, zB_ite2, g_Vn, g_Pi, nI_add, Option.bind_some, Option.map_some, Option.bind_none, Option.map_none, List.getElem?_cons_zero, List.getElem?_cons_succ, List.set_cons_zero, List.set_cons_succ, List.cons_append, List.nil_append, List.take_succ_cons, List.take_zero, List.length_cons, List.length_nil, Nat.zero_add, Nat.reduceAdd, Nat.reduceLT, if_true, if_false, Bool.false_eq_true, Bool.true_eq_false, decide_eq_true_eq, decide_true, decide_false, Bool.not_true, Bool.not_false, Option.isNone_none, Option.isNone_some, Option.isSome_none, Option.isSome_some, ite_true, ite_false, reduceIte, reduceCtorEq, and_true, true_and, eq_self, Option.some.injEq, Sum.inr.injEq, Sum.inl.injEq, Prod.mk.injEq, not_true_eq_false, not_false_eq_true, Bool.decide_eq_true, n0_ne, n1_ne, xz_ret, zb_if, n1_if, n0_if, v_rf, h_ix_nI, nI_clamp, zB_t, zB_f, uN_uN, uN_ap, Nat.reduceEqDiff, Nat.reduceMul, Nat.reduceSub, mp_o hσ, mF_len, mp_a1 hσ, mp_a2 hσ, mp_a3 hσ, mp_a4 hσ, mp_a5 hσ, mp_a6 hσ, mp_a7 hσ, mp_a8 hσ, mp_a9 hσ, mp_a10 hσ, mp_a11 hσ, mp_s0 hσ, mp_s1 hσ, mp_s2 hσ, mp_s3 hσ, mp_s4 hσ, mp_s5 hσ, mp_s6 hσ, mp_s7 hσ, mp_s8 hσ, mp_s9 hσ, mp_s10 hσ, mp_s11 hσ, mg0, mg1, mg2, mg3, mg4, mg5, mg6, mg7, mg8, mg9, mg10, mg11, mg12, mg13, mg14, mg15, mg16, mg17, ms5, ms6, ms7, ms9, ms10, ms13, ms14, r1, c, z0, and_self, sM_b0, s10, s9, s7, sM_g, pk_mul, w4, ← hg1]
      obtain ⟨b, f', g', q1, q2, q3, q4⟩ := ih (n + 1) f1 g1 (deedT S t).2 h1 (by omega) (F + 1) (by omega)
      exact ⟨b, f', g', (wh_T hC hS).trans q1, q2, q3, q4⟩
theorem g_carryOut (hσ : 72 ≤ σ.1.length) (h : MV M V) : ∃ M', M_X9_carryOut [.ref 60] (mp σ M) = some (some (.int (spCarry V).1), mp σ M') ∧ MV M' (spCarry V).2 := by
  have hpad := h.2.2.2.2.2.1
  obtain ⟨R, s, m, r, hn⟩ := g_faultW (M := M) hσ hpad.pad true
  have r : M_X9_fault [.ref 60, .int (nI 1)] (mp σ M) = _ := r
  have h0 : MV (pM M s m R) V := h
  unfold spCarry
  obtain ⟨X, hX⟩ : ∃ X, X = fltP V.2.2.2.1 true 61 0 := ⟨_, rfl⟩
  have hd := fltP_deed (p := V.2.2.2.1) hpad.1 61 0 (Nat.zero_le _)
  have hle := fun e => fltP_le (p := V.2.2.2.1) (w := true) 61 0 (e := e) (Nat.zero_le _)
  rw [← hX] at r hn hd hle ⊢
  cases e : X.1 with
  | some a =>
    rw [e] at r
    refine ⟨pM M s m R, mV_eq (mp_at (k := 0) hσ rfl) rfl rfl ?_, h0⟩
    have n1 : i_ne (nI a) (-4) = true := j_ne4 (by have := hle a e; have := hpad.1; omega)
    unfold B_X9_carryOut
    simp only [x_k, x_i, x_r, x_nil, x_add, x_sub, x_mul, x_div, x_rem, x_get, x_getR, x_ald, x_aldR, x_len, x_lenR, x_if, xa_nil, xa_ci, xa_cr, x_callI, x_callR, x_new, x_newa, x_newq, x_max, x_min, xc_cmp, xc_cmp0, xc_null, xc_nn, xc_not, xc_and, xc_or, xc_if, xs_skip, xs_seq, xs_decI, xs_decR, xs_setI, xs_inc, xs_if, xs_blk, xs_retI, xs_retB, xs_retR, xs_retD, xs_ret0, xs_putI, xs_putZ, xs_putR, xs_putop, xs_ast, xs_astop, xs_astR, xs_callV, xs_callP, xs_super, xs_sw, s_go_inl, s_go_inr, s_cut_inl, s_cut_inr, o_void_n, v_i_int, v_i_none, v_r_ref, v_r_null, v_r_rf, h_set_some, o_some_s, zB_ne0, zB_ite, zB_ite2, g_Vn, g_Pi, nI_add, Option.bind_some, Option.map_some, Option.bind_none, Option.map_none, List.getElem?_cons_zero, List.getElem?_cons_succ, List.set_cons_zero, List.set_cons_succ, List.cons_append, List.nil_append, List.take_succ_cons, List.take_zero, List.length_cons, List.length_nil, Nat.zero_add, Nat.reduceAdd, Nat.reduceLT, if_true, if_false, Bool.false_eq_true, Bool.true_eq_false, decide_eq_true_eq, decide_true, decide_false, Bool.not_true, Bool.not_false, Option.isNone_none, Option.isNone_some, Option.isSome_none, Option.isSome_some, ite_true, ite_false, reduceIte, reduceCtorEq, and_true, true_and, eq_self, Option.some.injEq, Sum.inr.injEq, Sum.inl.injEq, Prod.mk.injEq, not_true_eq_false, not_false_eq_true, Bool.decide_eq_true, n0_ne, n1_ne, xz_ret, zb_if, n1_if, n0_if, v_rf, h_ix_nI, nI_clamp, zB_t, zB_f, uN_uN, uN_ap, Nat.reduceEqDiff, Nat.reduceMul, Nat.reduceSub, mp_o hσ, mF_len, mp_a1 hσ, mp_a2 hσ, mp_a3 hσ, mp_a4 hσ, mp_a5 hσ, mp_a6 hσ, mp_a7 hσ, mp_a8 hσ, mp_a9 hσ, mp_a10 hσ, mp_a11 hσ, mp_s0 hσ, mp_s1 hσ, mp_s2 hσ, mp_s3 hσ, mp_s4 hσ, mp_s5 hσ, mp_s6 hσ, mp_s7 hσ, mp_s8 hσ, mp_s9 hσ, mp_s10 hσ, mp_s11 hσ, mg0, mg1, mg2, mg3, mg4, mg5, mg6, mg7, mg8, mg9, mg10, mg11, mg12, mg13, mg14, mg15, mg16, mg17, ms5, ms6, ms7, ms9, ms10, ms13, ms14, r, oN, n1]
  | none =>
    obtain ⟨hm, hm60, hW⟩ := hn e
    subst hm
    rw [e] at r
    have n1 : i_ne (-4) (-4) = false := by decide
    obtain ⟨v, F, rc, h1⟩ := g_changeX hσ h0
    obtain ⟨M1, hM1⟩ : ∃ M1 : tM, M1 = (uN (pM M s X.2.length R).1 6 v, uN (pM M s X.2.length R).2 2 F) := ⟨_, rfl⟩
    rw [← hM1] at rc h1
    obtain ⟨M2, hM2⟩ : ∃ M2 : tM, M2 = (uN (uN M1.1 9 (nI 0)) 7 (nI 1), M1.2) := ⟨_, rfl⟩
    have e2 : ((uN (uN (uN M1.1 9 (nI 0)) 7 (nI 1)) 10 (nI 0), M1.2) : tM) = sM M2 false (M2.2 1) (M2.2 7) := by
      rw [hM2]
      unfold sM
      refine Prod.ext rfl (funext fun k => ?_)
      show M1.2 k = if k = 7 then M1.2 7 else if k = 1 then M1.2 1 else M1.2 k
      by_cases q : k = 7
      · rw [if_pos q, q]
      · rw [if_neg q]
        by_cases q2 : k = 1
        · rw [if_pos q2, q2]
        · rw [if_neg q2]
    obtain ⟨b, f', g', r2, h2, hb, hg⟩ := g_cryL (M := M2) (L := X.2) hσ hd (by rw [hM2]; rfl) (by rw [hM2]; exact h1.1) (by rw [hM2, hM1]; rfl) (by rw [hM2, hM1]; exact hW) hm60 X.2.length 0 (M2.2 1) (M2.2 7) V.1 (by rw [hM2]; exact h1.2.2.1) (Nat.zero_add _) s_FUEL (by unfold s_FUEL; omega)
    rw [List.drop_zero] at r2 h2 hb hg
    have r2 : s_while C_X9_carryOut_1 W_X9_carryOut_1 [.ref 60, .int (nI 0)] (mp σ (sM M2 false (M2.2 1) (M2.2 7))) = _ := r2
    refine ⟨(uN (sM M2 b f' g').1 7 (nI 0), (sM M2 b f' g').2), mV_eq (mp_at (k := 0) hσ rfl) rfl rfl ?_, ?_⟩
    · have z1 : (nI 1 = 0 ∨ nI 1 = 1) := Or.inr rfl
      have z0 : (nI 0 = 0 ∨ nI 0 = 1) := Or.inl rfl
      unfold B_X9_carryOut
      simp (disch := omega) only [x_k, x_i, x_r, x_nil, x_add, x_sub, x_mul, x_div, x_rem, x_get, x_getR, x_ald, x_aldR, x_len, x_lenR, x_if, xa_nil, xa_ci, xa_cr, x_callI, x_callR, x_new, x_newa, x_newq, x_max, x_min, xc_cmp, xc_cmp0, xc_null, xc_nn, xc_not, xc_and, xc_or, xc_if, xs_skip, xs_seq, xs_decI, xs_decR, xs_setI, xs_inc, xs_if, xs_blk, xs_retI, xs_retB, xs_retR, xs_retD, xs_ret0, xs_putI, xs_putZ, xs_putR, xs_putop, xs_ast, xs_astop, xs_astR, xs_callV, xs_callP, xs_super, xs_sw, s_go_inl, s_go_inr, s_cut_inl, s_cut_inr, o_void_n, v_i_int, v_i_none, v_r_ref, v_r_null, v_r_rf, h_set_some, o_some_s, zB_ne0, zB_ite, zB_ite2, g_Vn, g_Pi, nI_add, Option.bind_some, Option.map_some, Option.bind_none, Option.map_none, List.getElem?_cons_zero, List.getElem?_cons_succ, List.set_cons_zero, List.set_cons_succ, List.cons_append, List.nil_append, List.take_succ_cons, List.take_zero, List.length_cons, List.length_nil, Nat.zero_add, Nat.reduceAdd, Nat.reduceLT, if_true, if_false, Bool.false_eq_true, Bool.true_eq_false, decide_eq_true_eq, decide_true, decide_false, Bool.not_true, Bool.not_false, Option.isNone_none, Option.isNone_some, Option.isSome_none, Option.isSome_some, ite_true, ite_false, reduceIte, reduceCtorEq, and_true, true_and, eq_self, Option.some.injEq, Sum.inr.injEq, Sum.inl.injEq, Prod.mk.injEq, not_true_eq_false, not_false_eq_true, Bool.decide_eq_true, n0_ne, n1_ne, xz_ret, zb_if, n1_if, n0_if, v_rf, h_ix_nI, nI_clamp, zB_t, zB_f, uN_uN, uN_ap, Nat.reduceEqDiff, Nat.reduceMul, Nat.reduceSub, mp_o hσ, mF_len, mp_a1 hσ, mp_a2 hσ, mp_a3 hσ, mp_a4 hσ, mp_a5 hσ, mp_a6 hσ, mp_a7 hσ, mp_a8 hσ, mp_a9 hσ, mp_a10 hσ, mp_a11 hσ, mp_s0 hσ, mp_s1 hσ, mp_s2 hσ, mp_s3 hσ, mp_s4 hσ, mp_s5 hσ, mp_s6 hσ, mp_s7 hσ, mp_s8 hσ, mp_s9 hσ, mp_s10 hσ, mp_s11 hσ, mg0, mg1, mg2, mg3, mg4, mg5, mg6, mg7, mg8, mg9, mg10, mg11, mg12, mg13, mg14, mg15, mg16, mg17, ms5, ms6, ms7, ms9, ms10, ms13, ms14, r, oN, n1, rc, z1, z0, e2, r2]
    · obtain ⟨a1, a2, a3, a4, a5, a6, a7⟩ := h1
      rw [hM2]
      exact ⟨a1, rfl, h2, a4, a5, ⟨by show 0 ≤ 60; omega, rfl, fun i cc hc => by cases hc⟩, ⟨by rw [hb]; rfl, hg⟩⟩
end
