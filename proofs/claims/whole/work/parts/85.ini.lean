/-! the two constructors (own work): what they leave -/
def S0 : tS := ([], 0, 2, 0, fun _ => 0)
def V0 : tV := (S0, [], none, [], none)
theorem S0_ok : okS S0 := ⟨Nat.zero_le _, fun x hx => absurd hx List.not_mem_nil, Nat.zero_le _, by decide, by decide⟩
def o7 : List Value := [.null, .null, .null, .null, .null, .int 0, .int 0, .int 0, .null, .int 0, .int 0, .null, .null, .int 0, .int 0, .null, .null, .null]
def a7 : List sAC := .inl (7, [.ref (60 + 0 + 1), .ref (60 + 1 + 1), .ref (60 + 2 + 1), .ref (60 + 3 + 1), .ref (60 + 4 + 1), .int 0, .int 0, .int 0, .ref (60 + 5 + 1), .int 0, .int 0, .ref (60 + 6 + 1), .ref (60 + 7 + 1), .int 0, .int 0, .ref (60 + 8 + 1), .ref (60 + 9 + 1), .ref (60 + 10 + 1)]) :: [iA 1245, iA 4980, iA 1245, iA 1245, iA 1229, iA 60, iA 3, iA 12, iA 124, iA 12, iA 12]
theorem nil_at {α : Type} {k : Nat} {x : α} {P : Prop} (h : ([] : List α)[k]? = some x) : P := by rw [List.getElem?_nil] at h; cases h
theorem ini9 {X : List sAC} (hX : X.length = 60) (n : Nat) : ∃ M, M_X9_init [.ref 60] (X ++ [.inl (7, o7)], n) = some (none, mp (X ++ a7, n + 10167) M) ∧ MV M V0 := by
  obtain ⟨σ, es⟩ : ∃ σ : sSt, σ = (X ++ a7, n + 10167) := ⟨_, rfl⟩
  have al : a7.length = 12 := rfl
  have hσ : 72 ≤ σ.1.length := by rw [es]; show 72 ≤ (X ++ a7).length; rw [List.length_append, hX, al]; exact Nat.le_refl _
  obtain ⟨M0, hM0⟩ : ∃ M0 : tM, M0 = (fun _ => 0, fun _ _ => 0) := ⟨_, rfl⟩
  have em : σ = mp σ M0 := mp_of hσ (fun k hk => by
    rw [es, hM0]
    show (X ++ a7)[60 + k]? = _
    rw [List.getElem?_append_right (by omega), hX, Nat.add_sub_cancel_left]
    rfl)
  obtain ⟨M1, hM1⟩ : ∃ M1 : tM, M1 = (M0.1, uN M0.2 1 (upd (M0.2 1) 1 (nI 2))) := ⟨_, rfl⟩
  have p2 : pB 2 = [] := by decide
  obtain ⟨f, r, hf⟩ := g_sieve hσ 9998 2 M1 (by omega) (by omega) (fun k q hk => by rw [p2] at hk; exact nil_at hk) s_FUEL (by unfold s_FUEL; omega)
  rw [p2] at r
  have r : s_while C_X9_init_2 W_X9_init_2 [.ref 60, .int (nI 0), .int (nI 2)] (mp σ M1) = _ := r
  obtain ⟨Z, hZe⟩ : ∃ Z, Z = (s_seq (s_ast (e_getR 7 0 (e_r 0)) (e_k (nI 1)) (e_k (nI 2))) (s_seq (s_decI 1 (e_k (nI 0))) (s_blk 2 (s_seq (s_decI 2 (e_k (nI 2))) (s_while C_X9_init_2 W_X9_init_2))))) := ⟨_, rfl⟩
  have hZ : Z [.ref 60] (mp σ M0) = some (.inr ([.ref 60, .int (nI 1229)], mp σ (M1.1, uN M1.2 5 f))) := by
    rw [hZe]
    simp (disch := omega) only [x_k, x_i, x_r, x_nil, x_add, x_sub, x_mul, x_div, x_rem, x_get, x_getR, x_ald, x_aldR, x_len, x_lenR, x_if, xa_nil, xa_ci, xa_cr, x_callI, x_callR, x_new, x_newa, x_newq, x_max, x_min, xc_cmp, xc_cmp0, xc_null, xc_nn, xc_not, xc_and, xc_or, xc_if, xs_skip, xs_seq, xs_decI, xs_decR, xs_setI, xs_inc, xs_if, xs_blk, xs_retI, xs_retB, xs_retR, xs_retD, xs_ret0, xs_putI, xs_putZ, xs_putR, xs_putop, xs_ast, xs_astop, xs_astR, xs_callV, xs_callP, xs_super, xs_sw, s_go_inl, s_go_inr, s_cut_inl, s_cut_inr, o_void_n, v_i_int, v_i_none, v_r_ref, v_r_null, v_r_rf, h_set_some, o_some_s, zB_ne0, zB_ite, zB_ite2, g_Vn, g_Pi, nI_add, Option.bind_some, Option.map_some, Option.bind_none, Option.map_none, List.getElem?_cons_zero, List.getElem?_cons_succ, List.set_cons_zero, List.set_cons_succ, List.cons_append, List.nil_append, List.take_succ_cons, List.take_zero, List.length_cons, List.length_nil, Nat.zero_add, Nat.reduceAdd, Nat.reduceLT, if_true, if_false, Bool.false_eq_true, Bool.true_eq_false, decide_eq_true_eq, decide_true, decide_false, Bool.not_true, Bool.not_false, Option.isNone_none, Option.isNone_some, Option.isSome_none, Option.isSome_some, ite_true, ite_false, reduceIte, reduceCtorEq, and_true, true_and, eq_self, Option.some.injEq, Sum.inr.injEq, Sum.inl.injEq, Prod.mk.injEq, not_true_eq_false, not_false_eq_true, Bool.decide_eq_true, n0_ne, n1_ne, xz_ret, zb_if, n1_if, n0_if, v_rf, h_ix_nI, nI_clamp, zB_t, zB_f, uN_uN, uN_ap, Nat.reduceEqDiff, Nat.reduceMul, Nat.reduceSub, mp_o hσ, mF_len, mp_a1 hσ, mp_a2 hσ, mp_a3 hσ, mp_a4 hσ, mp_a5 hσ, mp_a6 hσ, mp_a7 hσ, mp_a8 hσ, mp_a9 hσ, mp_a10 hσ, mp_a11 hσ, mp_s0 hσ, mp_s1 hσ, mp_s2 hσ, mp_s3 hσ, mp_s4 hσ, mp_s5 hσ, mp_s6 hσ, mp_s7 hσ, mp_s8 hσ, mp_s9 hσ, mp_s10 hσ, mp_s11 hσ, mg0, mg1, mg2, mg3, mg4, mg5, mg6, mg7, mg8, mg9, mg10, mg11, mg12, mg13, mg14, mg15, mg16, mg17, ms5, ms6, ms7, ms9, ms10, ms13, ms14, ← hM1, r]
  rw [← em] at hZ
  have st := iniM (X := X) (n := n) (Z := Z) (r := .inr ([.ref 60, .int (nI 1229)], mp σ (M1.1, uN M1.2 5 f))) (by
    rw [hX]
    rw [show Z [.ref 60] σ = Z [.ref 60] (X ++ a7, n + 10167) by rw [es]] at hZ
    exact hZ)
  rw [hX, hZe] at st
  refine ⟨(M1.1, uN M1.2 5 f), m_eq rfl rfl ?_, hf, ?_, ?_, ?_, ?_, ?_, ?_⟩
  · unfold B_X9_init
    rw [← es]
    exact (seq_r st).trans rfl
  · rw [hM1, hM0]; rfl
  · show SRow (M1.2 1) S0
    rw [hM1, hM0]
    refine ⟨S0_ok, rfl, rfl, rfl, rfl, fun i hi => absurd hi (Nat.not_lt_zero i), fun k q _ => ?_⟩
    show (if 16 + k = 1 then nI 2 else 0) = (0 : Int32)
    rw [if_neg (by omega)]
  · exact ⟨Nat.zero_le _, by rw [hM1, hM0]; rfl, fun k T h => nil_at h⟩
  · exact ⟨by rw [hM1, hM0]; rfl, fun T h => by cases h⟩
  · exact ⟨Nat.zero_le _, by rw [hM1, hM0]; rfl, fun i c h => nil_at h⟩
  · exact ⟨by rw [hM1, hM0]; rfl, fun e h => by cases h⟩
/-- new stairs -/
theorem iniSt {σ : sSt} {a : Nat} (h : ∀ j, j < 6 → σ.1[a + j]? = (iS a)[j]?) : StAt σ a (a + 3) 16 S0 := by
  refine ⟨⟨S0_ok, h 0 (by omega), _, h 1 (by omega), fun i x hx => nil_at hx⟩, ⟨[], ⟨h 2 (by omega), Nat.zero_le _, Nat.le_refl _, by omega, Or.inl (by omega), _, _, _, h 3 (by omega), h 4 (by omega), h 5 (by omega), fun j q hq => nil_at hq⟩, List.nodup_nil, fun q hq => absurd hq List.not_mem_nil, fun q _ _ => ⟨rfl, rfl⟩⟩, Or.inr (by omega)⟩
def c60 : List sAC := .inl (6, kF false 0 0 0) :: l7
theorem six {P : Nat → Prop} (h0 : P 0) (h1 : P 1) (h2 : P 2) (h3 : P 3) (h4 : P 4) (h5 : P 5) : ∀ j, j < 6 → P j := fun j hj => by
  rcases (show j = 0 ∨ j = 1 ∨ j = 2 ∨ j = 3 ∨ j = 4 ∨ j = 5 by omega) with rfl | rfl | rfl | rfl | rfl | rfl <;> assumption
theorem c60_st : ∀ k, k < 8 → ∀ j, j < 6 → c60[ad k + j]? = (iS (ad k))[j]? := fun k hk => by
  rcases (show k = 0 ∨ k = 1 ∨ k = 2 ∨ k = 3 ∨ k = 4 ∨ k = 5 ∨ k = 6 ∨ k = 7 by omega) with rfl | rfl | rfl | rfl | rfl | rfl | rfl | rfl
  · exact six rfl rfl rfl rfl rfl rfl
  · exact six rfl rfl rfl rfl rfl rfl
  · exact six rfl rfl rfl rfl rfl rfl
  · exact six rfl rfl rfl rfl rfl rfl
  · exact six rfl rfl rfl rfl rfl rfl
  · exact six rfl rfl rfl rfl rfl rfl
  · exact six rfl rfl rfl rfl rfl rfl
  · exact six rfl rfl rfl rfl rfl rfl
theorem iniWV {σ : sSt} {M : tM} (h : ∀ i, i < 60 → σ.1[i]? = c60[i]?) (hl : σ.1.length = 72) (hn : σ.2 ≤ 50000) (hM : ∀ k c, (mC M)[k]? = some c → σ.1[60 + k]? = some c) : WV σ M V0 := by
  have sN16 : sumN (fun _ => 16) 8 = 128 := rfl
  refine ⟨fun k => ad k + 3, fun _ => 16, fun _ => S0, 0, 0, 0, 0, ⟨⟨by omega, fun k hk => ?_, fun k _ => Or.inl rfl, fun j k hj hk hjk => ?_, by rw [hl, sN16]; exact Nat.le_refl _, by omega⟩, h 0 (by omega), h 19 (by omega), ⟨rF 19, h 20 (by omega), fun k hk => ?_⟩, ⟨((fun _ => 0, fun _ _ => 0) : tC), ⟨Nat.zero_le _, rfl, fun i hi => absurd hi (Nat.not_lt_zero i)⟩, fun k c hc => ?_⟩, ⟨0, h 53 (by omega), _, h 54 (by omega)⟩, ⟨((fun _ => 0, fun _ _ => 0) : tC), fun k c hc => ?_⟩, hM, by omega, Nat.zero_le _⟩, rfl, fun k S hk => nil_at hk, fun S hS => (by cases hS), fun _ => rfl, fun e he => (by cases he)⟩
  · have a := ad_le hk
    exact iniSt (fun j hj => (h _ (by omega)).trans (c60_st k hk j hj))
  · have := ad_cases hj
    have := ad_cases hk
    show ad j + 3 + 3 ≤ ad k + 3 ∨ ad k + 3 + 3 ≤ ad j + 3
    omega
  · rcases (show k = 0 ∨ k = 1 ∨ k = 2 ∨ k = 3 ∨ k = 4 by omega) with rfl | rfl | rfl | rfl | rfl <;> rfl
  · have hk : k < 2 := (List.getElem?_eq_some_iff.mp hc).1
    rw [h _ (by omega), ← hc]
    rcases (show k = 0 ∨ k = 1 by omega) with rfl | rfl <;> rfl
  · have hk : k < 5 := (List.getElem?_eq_some_iff.mp hc).1
    rw [h _ (by omega), ← hc]
    rcases (show k = 0 ∨ k = 1 ∨ k = 2 ∨ k = 3 ∨ k = 4 by omega) with rfl | rfl | rfl | rfl | rfl <;> rfl
