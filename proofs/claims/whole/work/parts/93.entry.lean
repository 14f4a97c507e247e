/-! the law's entry (own work): both objects are made, then the loop -/
theorem l_new {y : lCy} (hy : lOk y) {ci N index pc : Nat} {C : String} {T : u_T} (hcC : vwCl[ci]? = some (C, T, N)) (hin : ∀ w ∈ u_ws C T N, w ∈ wsL_law) (ty0 : Nat → FieldType) (hty : ∀ k, k < N → parseFieldDescriptor (T k).2.2.1 = some (ty0 k)) (hcl : Cond.classLink RL index C ∈ wsL_law) (hins : Cond.instantiable C N ∈ wsL_law) (hini : Cond.initialized C ∈ wsL_law) (hd : decode cL_law pc = .ok (.new index, 3)) {fs : List Value} (hfs : ∀ j, j < N → ∀ b, defaultValue (ty0 j) = vp_V (fs.map (s_cv b)) j) {σ : sSt} (hE : σ.1.length + 1 ≤ 600000 ∧ σ.2 + N ≤ 7302250) {lv : List (Nat × Value)} {st : List Value} (kk : lA y (pc + 3) lv (.ref ((lG y).1 + σ.1.length) :: st) (σ.1 ++ [.inl (ci, fs)], σ.2 + N)) : lA y pc lv st σ := by
  obtain ⟨p, l, e, s, m, below, meth, c, b, L, xs, G⟩ := y
  obtain ⟨hx, hb, hr, hml, hown, hts, hX, hbl, hlocks, ⟨hK, hNw⟩, hG1, hGc, hcm, hL⟩ := hy
  intro H locs ls hrel hS hl
  have hcG : G.2.2.2.1[ci]? = some (C, T, N) := by rw [hGc]; exact hcC
  have hKn := hK.1 ci _ hcG
  refine W.newcK hx hb hown (hts _ hcl) (hts _ hins) (hts _ hini) rfl hd hE.1 hE.2 hKn.2.1 rfl fun H1 kC hkC e1 z1 o1 => ?_
  have kk := kk H1 locs ls (hrel.push (n := N) ?_ z1 o1) ?_ hl
  · simp only [List.length_append, List.length_singleton] at kk
    have hz : H.size = G.1 + σ.1.length := hrel.1
    rw [hz]
    exact kk
  · exact ⟨_, hcG, (u_born ty0 hts hin hKn hkC e1 hty).to (fun j hj => hfs j hj G.1)⟩
  · exact ⟨Nat.le_trans hS.1 (by omega), fun x h1 h2 => (o1 x (Nat.lt_of_lt_of_le h1 hS.1)).trans (hS.2.1 x h1 h2), hS.2.2⟩
theorem l_init {y : lCy} (hy : lOk y) {ym : MethodName} {wm wm' : List Cond} {frm lom maxL index pc : Nat} {bytes : ByteArray} {sem : sSem} (hM : sMet vwCl RX6 ym wm frm lom sem) (hGd : GoodIn wsL_law wm) (hw : wm = Cond.code ym bytes maxL none :: wm') (hi0 : ym.name = "<init>") (hini : Cond.initialized ym.cls ∈ wsL_law) (hlk : Cond.methodLink RL index ym ∈ wsL_law) (hins : Cond.instanceMethod ym ∈ wsL_law) (hd0 : ym.cls ≠ "java/lang/invoke/MethodHandle" ∧ ym.cls ≠ "java/lang/invoke/VarHandle" ∧ (parseMethodDescriptor ym.desc).map (fun d => d.parameters.length) = some 0) (hfr : frm + 1 ≤ 2048) (hlo : 8 + (maxL + 11) + lom ≤ 84000) (hd : decode cL_law pc = .ok (.invokespecial index, 3)) {b1 : Nat} {rest : List Value} {σ σ1 : sSt} (hsem : sem [.ref b1] σ = some (none, σ1)) (hE : σ1.1.length ≤ 600000 ∧ σ1.2 ≤ 7302250) (hst : (rest.map fun v => v.category).sum ≤ 8) {lv : List (Nat × Value)} (k : lA y (pc + 3) lv rest σ1) : lA y pc lv (.ref ((lG y).1 + b1) :: rest) σ := by
  obtain ⟨p, l, e, s, m, below, meth, c, b, L, xs, G⟩ := y
  obtain ⟨hx, hb, hr, hml, hown, hts, hX, hbl, hlocks, ⟨hK, hNw⟩, hG1, hcl, hcm, hL⟩ := hy
  intro H locs ls hrel hS hl
  obtain ⟨hle, hMm⟩ := hM _ _ _ _ hsem
  have hMm := hMm l G hcl hcm
  have hcells : σ.1.length + (σ1.1.length - σ.1.length) = σ1.1.length := by have := hle.1; omega
  have hslots : σ.2 + (σ1.2 - σ.2) = σ1.2 := by have := hle.2; omega
  have hrun := va_runI (n := 0) (rest := rest) (As := []) (b := G.1 + b1) (locs := locs) (cells := σ.1.length) (slots := σ.2) (p := p) (l := l) (e := e) (R := room_1) (s := s) (m := m) (args := #[Value.ref b]) (below := below) (meth := meth) (c := c) (H := H) (g := F0 m pc ls (.ref (G.1 + b1) :: rest)) ⟨hx, hb, hml, hown, hts⟩ hMm (cwI 0 hts hGd hw rfl rfl (hts _ hini) (hts _ hlk) (hts _ hins) hi0 hd0 ⟨hfr, hlo⟩) ⟨s_Rel_calling (args := [.ref b1]), fun U hU hW => ⟨rfl, by rw [hU]; exact hrel, s_Kn.warm hW ⟨hK, hNw⟩⟩⟩ rfl rfl hl.1 rfl (lv_room hst) hd (by rw [hcells, hslots]; exact hE)
  refine a_after hrun hS (fun H1 locs1 hrel1 hS1 => ?_)
  rw [hcells, hslots]
  exact k H1 locs1 ls hrel1 hS1 hl
theorem l_dup {y : lCy} (hy : lOk y) {lv : List (Nat × Value)} {pc a : Nat} (h0 : decode cL_law pc = .ok (.dup, 1)) {st : List Value} {σ : sSt} (K : lA y (pc + 1) lv (.ref a :: .ref a :: st) σ) : lA y pc lv (.ref a :: st) σ := by
  obtain ⟨p, l, e, s, m, below, meth, c, b, L, xs, G⟩ := y
  obtain ⟨hx, hb, -⟩ := hy
  intro H locs ls hrel hS hl
  exact lv_dup hx hb h0 rfl (K H locs ls hrel hS hl)
theorem l_ast {y : lCy} (hy : lOk y) {lv lv' : List (Nat × Value)} {pc a i : Nat} {j : Fin 4} (h0 : decode cL_law pc = .ok (.astore_n j, 1)) (hj : (j : Nat) = i) (hi : i < 8) (he : (i, Value.ref a) :: lv.filter (fun q => !(q.1 == i) && !(q.1 + 1 == i && q.2.category == 2)) = lv') {st : List Value} {σ : sSt} (K : lA y (pc + 1) lv' st σ) : lA y pc lv (.ref a :: st) σ := by
  obtain ⟨p, l, e, s, m, below, meth, c, b, L, xs, G⟩ := y
  obtain ⟨hx, hb, -⟩ := hy
  intro H locs ls hrel hS hl
  exact lv_astore_n hx hb h0 hj hl hi he (fun ls hl => K H locs ls hrel hS hl)
theorem cl_L_8 : Cond.classLink RL 7 RX8 ∈ wsL_law := by decide +kernel
theorem cl_L_9 : Cond.classLink RL 10 RX9 ∈ wsL_law := by decide +kernel
theorem it_L_8 : Cond.instantiable RX8 11 ∈ wsL_law := by decide +kernel
theorem it_L_9 : Cond.instantiable RX9 18 ∈ wsL_law := by decide +kernel
theorem ii_L_8 : Cond.initialized RX8 ∈ wsL_law := by decide +kernel
theorem ii_L_9 : Cond.initialized RX9 ∈ wsL_law := by decide +kernel
theorem ml_L_8 : Cond.methodLink RL 9 yX8_init ∈ wsL_law := by decide +kernel
theorem ml_L_9 : Cond.methodLink RL 12 yX9_init ∈ wsL_law := by decide +kernel
theorem mi_L_8 : Cond.instanceMethod yX8_init ∈ wsL_law := by decide +kernel
theorem mi_L_9 : Cond.instanceMethod yX9_init ∈ wsL_law := by decide +kernel
theorem l_start {y : lCy} (hy : lOk y) : lA y 0 [(0, .ref (lB y))] [] ([], 0) := by
  obtain ⟨σ1, σ2, e8, n8, s8, e9, j⟩ := j_init 11 (Nat.le_of_ble_eq_true rfl)
  have hE := j.room
  have hl1 := (T_X9_init _ _ _ _ e9).1
  have hq : σ1.1.length ≤ 600000 ∧ σ1.2 ≤ 7302250 := by rw [n8, s8]; exact ⟨Nat.le_of_ble_eq_true rfl, Nat.le_of_ble_eq_true rfl⟩
  refine l_new hy (ci := 6) (fs := [.null, .null, .null, .int 0, .null, .null, .null, .null, .int 0, .int 0, .int 0]) rfl in_L_X8 tyX8 tyX8_ok cl_L_8 it_L_8 ii_L_8 dL_law_0 (fun j hj b => by rcases (show j = 0 ∨ j = 1 ∨ j = 2 ∨ j = 3 ∨ j = 4 ∨ j = 5 ∨ j = 6 ∨ j = 7 ∨ j = 8 ∨ j = 9 ∨ j = 10 by omega) with rfl | rfl | rfl | rfl | rfl | rfl | rfl | rfl | rfl | rfl | rfl <;> rfl) ⟨Nat.le_of_ble_eq_true rfl, Nat.le_of_ble_eq_true rfl⟩ ?_
  refine l_dup hy dL_law_3 ?_
  refine l_init hy T_X8_init gL_law_X8_init rfl rfl ii_L_8 ml_L_8 mi_L_8 (by decide +kernel) (Nat.le_of_ble_eq_true rfl) (Nat.le_of_ble_eq_true rfl) dL_law_4 (b1 := 0) e8 hq (rest := [.ref ((lG y).1 + 0)]) (Nat.le_of_ble_eq_true rfl) ?_
  refine l_ast hy (i := 1) (lv' := [(1, .ref (lG y).1), (0, .ref (lB y))]) dL_law_7 rfl (Nat.le_of_ble_eq_true rfl) rfl ?_
  have hq2 : σ1.1.length + 1 ≤ 600000 ∧ σ1.2 + 18 ≤ 7302250 := by rw [n8, s8]; exact ⟨Nat.le_of_ble_eq_true rfl, Nat.le_of_ble_eq_true rfl⟩
  refine l_new hy (ci := 7) (fs := o7) rfl in_L_X9 tyX9 tyX9_ok cl_L_9 it_L_9 ii_L_9 dL_law_8 (fun j hj b => by rcases (show j = 0 ∨ j = 1 ∨ j = 2 ∨ j = 3 ∨ j = 4 ∨ j = 5 ∨ j = 6 ∨ j = 7 ∨ j = 8 ∨ j = 9 ∨ j = 10 ∨ j = 11 ∨ j = 12 ∨ j = 13 ∨ j = 14 ∨ j = 15 ∨ j = 16 ∨ j = 17 by omega) with rfl | rfl | rfl | rfl | rfl | rfl | rfl | rfl | rfl | rfl | rfl | rfl | rfl | rfl | rfl | rfl | rfl | rfl <;> rfl) hq2 ?_
  rw [n8]
  refine l_dup hy dL_law_11 ?_
  refine l_init hy T_X9_init gL_law_X9_init rfl rfl ii_L_9 ml_L_9 mi_L_9 (by decide +kernel) (Nat.le_of_ble_eq_true rfl) (Nat.le_of_ble_eq_true rfl) dL_law_12 (b1 := 60) e9 hE (rest := [.ref ((lG y).1 + 60)]) (Nat.le_of_ble_eq_true rfl) ?_
  refine l_ast hy (i := 2) (lv' := [(2, .ref ((lG y).1 + 60)), (1, .ref (lG y).1), (0, .ref (lB y))]) dL_law_15 rfl (Nat.le_of_ble_eq_true rfl) rfl ?_
  have lp := l_loop hy (lL y + 1) 0 σ2 V0 (by omega) (by omega) j
  obtain ⟨p, l, e, s, m, below, meth, c, b, L, xs, G⟩ := y
  obtain ⟨hx, hb, -⟩ := hy
  intro H locs ls hrel hS hl
  refine lv_iconst (v := 0) hx hb dL_law_16 (by decide) ?_
  refine lv_istore_n (lv' := [(3, .int 0), (2, .ref (G.1 + 60)), (1, .ref G.1), (0, .ref b)]) hx hb dL_law_17 rfl hl (by decide) rfl (fun ls hl => ?_)
  exact lp H locs ls hrel hS hl
