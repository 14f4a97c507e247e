/-! the reference's mean (own work): its local of two places, by hand over the kit's rows -/
theorem in_X9_mean_X9 : ∀ w ∈ u_ws RX9 TX9 18, w ∈ wsX9_mean := by decide +kernel
theorem lk_X9_mean_7 : Cond.fieldLink RX9 7 RX9 "s" "[I" ∈ wsX9_mean := by decide +kernel
abbrev E_X9_mean : sEx Int32 := e_mul (e_k (nI 2)) (e_callI M_X9_pairs (a_cr (e_r 0) a_nil))
def o_mean (σ : sSt) (b : Nat) (x : Int32) : Option sRes :=
  (h_obj σ (some b) 7).bind fun fs => (v_r fs[0]?).bind fun a => (h_arr σ a).bind fun q => (h_ix (nI 2) q.1).bind fun j =>
    if q.2 j = 0 then some (.inl (some (.double 0), σ)) else (o_ddiv (FP.i2d x) (FP.i2d (q.2 j))).map fun d => .inl (some (.double d), σ)
def B_X9_mean : sStm := fun L σ => (E_X9_mean L σ).bind fun q => (v_r L[0]?).bind fun b => match b with
  | some b => o_mean q.2 b q.1
  | none => none
def M_X9_mean : sSem := m_ofV 7 1 B_X9_mean
abbrev kX9_mean : sCtx := (cX9_mean, wsX9_mean, RX9, (some .double), 4, 93, 3, vwCl, RX6, false)
theorem SE_X9_mean : sSE kX9_mean 0 0 6 q_i E_X9_mean :=
  se_mul (pcA := 1) (pcB := 5) (se_iconst dX9_mean_0 (by decide +kernel) rfl) (se_callVI (pcA := 2) (ci := 7) (index := 215) (sa_cr (pcA := 2) (se_aload_n dX9_mean_1 rfl rfl) sa_nil) T_X9_pairs (s_Rcv_of 7 _ _) rfl gX9_mean_X9_pairs rfl (by decide +kernel) (Nat.le_of_ble_eq_true rfl) (Nat.le_of_ble_eq_true rfl) (s_LenR s_Len0) (Nat.le_of_ble_eq_true rfl) dX9_mean_2 rfl) dX9_mean_5 rfl
theorem X9_mean_tail {y : sCy} (hy : s_G2 y kX9_mean) {L : List Value} {σ : sSt} {x : Int32} {b a n : Nat} {fs : List Value} {f : Nat → Int32} (hL : L[0]? = some (.ref b)) (hb0 : σ.1[b]? = some (.inl (7, fs))) (hf : fs[0]? = some (.ref a)) (ha : σ.1[a]? = some (.inr (.inl (n, f)))) (hn : vp_in (nI 2) n)
    (hE : s_sE y = σ) (hv : (f (nI 2).toNatClampNeg = 0 ∧ s_vE y = some (.double 0)) ∨ (¬ f (nI 2).toNatClampNeg = 0 ∧ vf_n64 (FP.ddiv (FP.i2d x) (FP.i2d (f (nI 2).toNatClampNeg))) ∧ s_vE y = some (.double (FP.ddiv (FP.i2d x) (FP.i2d (f (nI 2).toNatClampNeg)))))) : s_AW y 7 L [.double (FP.i2d x)] σ := by
  obtain ⟨hg, hcl, hcm, -⟩ := hy
  have hC : s_Cl y wsX9_mean 7 RX9 TX9 18 := s_Cl_of hcl rfl in_X9_mean_X9
  obtain ⟨p, l, e, R, s, m, args, below, meth, c, G, nL, σ0, vE, σE⟩ := y
  obtain ⟨hx, hb, hml, hown, hts, ⟨hK, hNw⟩, hlk, hr, hR, hnL⟩ := hg
  have hE : σE = σ := hE
  subst hE
  intro H locs ls h
  have r0 := h.2.2.1.at hL
  have hnL : nL = 3 := hnL
  subst hnL
  refine lv_dstore_n (i := 1) (lv := [(0, .ref (G.1 + b))]) hx hb dX9_mean_7 rfl ⟨h.2.2.1.size, h.2.2.1.1.2.1, fun q hq => ?_⟩ (by omega) rfl (fun ls' hl' => ?_)
  · rw [List.mem_singleton] at hq
    subst hq
    exact r0
  have d1 : ls'[1]? = some (.val (.double (FP.i2d x))) := lv_at hl' 0 rfl
  have r1 : ls'[0]? = some (.val (.ref (G.1 + b))) := lv_at hl' 1 rfl
  refine lv_aload_n hx hb dX9_mean_8 rfl r1 ?_
  refine va_get (ci := 7) (C := RX9) (T := TX9) (N := 18) (ref := RX9) hx hb hts hC.2 hown hK (s_one h.1 hb0) 0 rfl hC.1 0 (by omega) (hts _ lk_X9_mean_7) (fun x hq => hq) (v := .ref (G.1 + a)) (by simp [hf]; rfl) dX9_mean_9 ?_
  refine lv_iconst hx hb dX9_mean_12 (v := nI 2) (by decide +kernel) ?_
  refine va_iald hx hb hK (s_one h.1 ha) 0 0 rfl rfl hn dX9_mean_13 ?_
  refine lv_if_ne hx hb dX9_mean_14 (tgt := 21) rfl (fun q => ?_) (fun q => ?_)
  · rcases hv with ⟨q0, -⟩ | ⟨-, hn64, hv⟩
    · exact absurd q0 q
    have hv : vE = _ := hv
    subst hv
    refine lv_dload_n hx hb dX9_mean_21 rfl d1 ?_
    refine lv_aload_n hx hb dX9_mean_22 rfl r1 ?_
    refine va_get (ci := 7) (C := RX9) (T := TX9) (N := 18) (ref := RX9) hx hb hts hC.2 hown hK (s_one h.1 hb0) 0 rfl hC.1 0 (by omega) (hts _ lk_X9_mean_7) (fun x hq => hq) (v := .ref (G.1 + a)) (by simp [hf]; rfl) dX9_mean_23 ?_
    refine lv_iconst hx hb dX9_mean_26 (v := nI 2) (by decide +kernel) ?_
    refine va_iald hx hb hK (s_one h.1 ha) 0 0 rfl rfl hn dX9_mean_27 ?_
    refine lv_i2d hx hb dX9_mean_28 ?_
    refine lv_ddiv hx hb dX9_mean_29 hn64 ?_
    exact W.dret hx hb hr (fun t ht hW => ⟨rfl, by rw [ht]; exact h.1, h.2.1.F ht⟩) h.2.1.2.2 dX9_mean_30
  · have hv : vE = some (.double 0) := by
      rcases hv with ⟨-, hv⟩ | ⟨q0, -⟩
      · exact hv
      · exact absurd q q0
    subst hv
    refine lv_dconst0 hx hb dX9_mean_17 ?_
    refine lv_goto hx hb dX9_mean_18 (tgt := 30) rfl ?_
    exact W.dret hx hb hr (fun t ht hW => ⟨rfl, by rw [ht]; exact h.1, h.2.1.F ht⟩) h.2.1.2.2 dX9_mean_30
theorem S_X9_mean : sSS kX9_mean 0 31 B_X9_mean := by
  intro L σ r h
  obtain ⟨⟨x, σ1⟩, h1, h⟩ := s_bind h
  obtain ⟨b, h2, h⟩ := s_bind h
  cases b with
  | none => cases h
  | some b =>
    obtain ⟨fs, h3, h⟩ := s_bind h
    obtain ⟨a, h4, h⟩ := s_bind h
    obtain ⟨⟨n, f⟩, h5, h⟩ := s_bind h
    obtain ⟨j, h6, h⟩ := s_bind h
    obtain ⟨l1, k1⟩ := SE_X9_mean _ _ _ _ h1
    have a2 := v_r_some h2
    obtain ⟨b', e3, b3⟩ := h_obj_some h3
    cases e3
    have a4 := v_r_some h4
    obtain ⟨a', e5, b5⟩ := h_arr_some h5
    subst e5
    obtain ⟨e6, e7⟩ := h_ix_some h6
    subst e7
    dsimp only at h
    split at h
    · next q =>
      cases h
      exact ⟨l1, fun y hy hE k => k1 y hy [] s_ws0 hE (a_i2d hy.1 dX9_mean_6 (X9_mean_tail hy a2 b3 a4 b5 e6 k.2.symm (Or.inl ⟨q, k.1.symm⟩)))⟩
    · next q =>
      obtain ⟨d, h7, h⟩ := s_map h
      subst h
      unfold o_ddiv at h7
      split at h7
      · next w =>
        cases h7
        exact ⟨l1, fun y hy hE k => k1 y hy [] s_ws0 hE (a_i2d hy.1 dX9_mean_6 (X9_mean_tail hy a2 b3 a4 b5 e6 k.2.symm (Or.inr ⟨q, w, k.1.symm⟩)))⟩
      · cases h7
theorem T_X9_mean : sMet vwCl RX6 yX9_mean wsX9_mean 4 93 M_X9_mean := sMet_of rfl (by decide +kernel) rfl rfl (fun h => by cases h) (m_ofV_run _ _ _) S_X9_mean (m_ofV_cat _ _ _ (Nat.le_of_ble_eq_true rfl))
section
variable {σ : sSt} {M : tM} {V : tV}
theorem g_mean (hσ : 72 ≤ σ.1.length) (h : MV M V) : M_X9_mean [.ref 60] (mp σ M) = some (some (.double (rMean V.1)), mp σ M) := by
  have hs := h.2.2.1
  have hl := hs.1.1
  have hp := pairsN_le hs.1.1
  have e1 : E_X9_mean [.ref 60] (mp σ M) = some (nI (2 * pairsN V.1), mp σ M) := by
    have gp := g_pairs hσ hs
    simp (disch := omega) only [x_k, x_i, x_r, x_nil, x_add, x_sub, x_mul, x_div, x_rem, x_get, x_getR, x_ald, x_aldR, x_len, x_lenR, x_if, xa_nil, xa_ci, xa_cr, x_callI, x_callR, x_new, x_newa, x_newq, x_max, x_min, xc_cmp, xc_cmp0, xc_null, xc_nn, xc_not, xc_and, xc_or, xc_if, xs_skip, xs_seq, xs_decI, xs_decR, xs_setI, xs_inc, xs_if, xs_blk, xs_retI, xs_retB, xs_retR, xs_retD, xs_ret0, xs_putI, xs_putZ, xs_putR, xs_putop, xs_ast, xs_astop, xs_astR, xs_callV, xs_callP, xs_super, xs_sw, s_go_inl, s_go_inr, s_cut_inl, s_cut_inr, o_void_n, v_i_int, v_i_none, v_r_ref, v_r_null, v_r_rf, h_set_some, o_some_s, zB_ne0, zB_ite, zB_ite2, g_Vn, g_Pi, nI_add, Option.bind_some, Option.map_some, Option.bind_none, Option.map_none, List.getElem?_cons_zero, List.getElem?_cons_succ, List.set_cons_zero, List.set_cons_succ, List.cons_append, List.nil_append, List.take_succ_cons, List.take_zero, List.length_cons, List.length_nil, Nat.zero_add, Nat.reduceAdd, Nat.reduceLT, if_true, if_false, Bool.false_eq_true, Bool.true_eq_false, decide_eq_true_eq, decide_true, decide_false, Bool.not_true, Bool.not_false, Option.isNone_none, Option.isNone_some, Option.isSome_none, Option.isSome_some, ite_true, ite_false, reduceIte, reduceCtorEq, and_true, true_and, eq_self, Option.some.injEq, Sum.inr.injEq, Sum.inl.injEq, Prod.mk.injEq, gp, v_rf, pk_mul]
  refine mV_eq (mp_at (k := 0) hσ rfl) rfl rfl ?_
  have t0 : h_obj (mp σ M) (some 60) 7 = some (mF M.1) := h_obj_eq (mp_at (k := 0) hσ rfl)
  have t1 : h_arr (mp σ M) (some 61) = some (1245, M.2 1) := h_arr_eq (mp_at (k := 1) hσ rfl)
  have t2 : h_ix (nI 2) 1245 = some 2 := h_ix_nI (by omega) (by omega)
  have t3 : o_mean (mp σ M) 60 (nI (2 * pairsN V.1)) = some (.inl (some (.double (rMean V.1)), mp σ M)) := by
    have t4 : v_r (mF M.1)[0]? = some (some 61) := rfl
    unfold o_mean
    simp only [t0, Option.bind_some, t4, t1, t2, hs.2.2.2.1]
    by_cases c : V.1.1.length = 0
    · have e : rMean V.1 = 0 := if_pos c
      rw [e, if_pos (by rw [c]; rfl)]
    · rw [if_neg (fun q => c (by have := congrArg Int32.toInt q; rw [nI_toInt (by omega), Int32.toInt_zero] at this; omega)), rMean_ok hs.1 c]
      rfl
  unfold B_X9_mean
  rw [e1]
  exact t3
theorem j_mean (h : JV σ V) : ∃ σ1 σ2, M_X8_mean [.ref 0] σ = some (some (.double (rMean V.1)), σ1) ∧ M_X9_mean [.ref 60] σ1 = some (some (.double (rMean V.1)), σ2) ∧ JV σ2 V := by
  obtain ⟨M, w, m⟩ := h
  obtain ⟨σ1, e1, w1⟩ := k_mean w
  have hσ := w1.w0.1
  have g := g_mean hσ m
  obtain ⟨σ2, e2, j⟩ := jn w1 ⟨M, g, m⟩
  exact ⟨σ1, σ2, e1, e2, j⟩
end
