/-! the law's entry (own work): the object and the rows are made, then the loop -/
theorem l_new {y : lCy} (hy : lOk y) {ci N index pc : Nat} {C : String} {T : u_T} (hcC : vwCl[ci]? = some (C, T, N)) (hin : ∀ w ∈ u_ws C T N, w ∈ wsL_law) (ty0 : Nat → FieldType) (hty : ∀ k, k < N → parseFieldDescriptor (T k).2.2.1 = some (ty0 k)) (hcl : Cond.classLink RL index C ∈ wsL_law) (hins : Cond.instantiable C N ∈ wsL_law) (hini : Cond.initialized C ∈ wsL_law) (hd : decode cL_law pc = .ok (.new index, 3)) {fs : List Value} (hfs : ∀ j, j < N → ∀ b, defaultValue (ty0 j) = vp_V (fs.map (s_cv b)) j) {σ : sSt} (hE : σ.1.length + 1 ≤ 600000 ∧ σ.2 + N ≤ 7302250) {lv : List (Nat × Value)} {st : List Value} (kk : lA y (pc + 3) lv (.ref ((lG y).1 + σ.1.length) :: st) (σ.1 ++ [.inl (ci, fs)], σ.2 + N)) : lA y pc lv st σ := by
  obtain ⟨p, l, e, s, m, below, meth, c, b, L, xs, G⟩ := y
  obtain ⟨hx, hb, hr, hml, hown, hts, hX, hbl, hlocks, ⟨hK, hNw⟩, hG1, hGc, hcm, hL⟩ := hy
  intro H locs ls hrel hS hl
  have hcG : G.2.2.2.1[ci]? = some (C, T, N) := by rw [hGc]; exact hcC
  have hKn := hK.1 ci _ hcG
  refine W.newcK hx hb hown (hts _ hcl) (hts _ hins) (hts _ hini) rfl hd hE.1 hE.2 hKn.2.1 rfl fun H1 kC hkC e1 z1 o1 => ?_
  have kk := kk H1 locs ls (hrel.push (n := N) ?_ z1 o1) ?_ hl
  · simp only [List.length_append, List.length_singleton] at kk
    have hz : H.size = G.1 + σ.1.length := hrel.1
    rw [hz]
    exact kk
  · exact ⟨_, hcG, (u_born ty0 hts hin hKn hkC e1 hty).to (fun j hj => hfs j hj G.1)⟩
  · exact ⟨Nat.le_trans hS.1 (by omega), fun x h1 h2 => (o1 x (Nat.lt_of_lt_of_le h1 hS.1)).trans (hS.2.1 x h1 h2), hS.2.2⟩
theorem l_init {y : lCy} (hy : lOk y) {ym : MethodName} {wm wm' : List Cond} {frm lom maxL index pc : Nat} {bytes : ByteArray} {sem : sSem} (hM : sMet vwCl RX6 ym wm frm lom sem) (hGd : GoodIn wsL_law wm) (hw : wm = Cond.code ym bytes maxL none :: wm') (hi0 : ym.name = "<init>") (hini : Cond.initialized ym.cls ∈ wsL_law) (hlk : Cond.methodLink RL index ym ∈ wsL_law) (hins : Cond.instanceMethod ym ∈ wsL_law) (hd0 : ym.cls ≠ "java/lang/invoke/MethodHandle" ∧ ym.cls ≠ "java/lang/invoke/VarHandle" ∧ (parseMethodDescriptor ym.desc).map (fun d => d.parameters.length) = some 0) (hfr : frm + 1 ≤ 9) (hlo : 8 + (maxL + 11) + lom ≤ 352) (hd : decode cL_law pc = .ok (.invokespecial index, 3)) {b1 : Nat} {rest : List Value} {σ σ1 : sSt} (hsem : sem [.ref b1] σ = some (none, σ1)) (hE : σ1.1.length ≤ 600000 ∧ σ1.2 ≤ 7302250) (hst : (rest.map fun v => v.category).sum ≤ 8) {lv : List (Nat × Value)} (k : lA y (pc + 3) lv rest σ1) : lA y pc lv (.ref ((lG y).1 + b1) :: rest) σ := by
  obtain ⟨p, l, e, s, m, below, meth, c, b, L, xs, G⟩ := y
  obtain ⟨hx, hb, hr, hml, hown, hts, hX, hbl, hlocks, ⟨hK, hNw⟩, hG1, hcl, hcm, hL⟩ := hy
  intro H locs ls hrel hS hl
  obtain ⟨hle, hMm⟩ := hM _ _ _ _ hsem
  have hMm := hMm l G hcl hcm
  have hcells : σ.1.length + (σ1.1.length - σ.1.length) = σ1.1.length := by have := hle.1; omega
  have hslots : σ.2 + (σ1.2 - σ.2) = σ1.2 := by have := hle.2; omega
  have hrun := va_runI (n := 0) (rest := rest) (As := []) (b := G.1 + b1) (locs := locs) (cells := σ.1.length) (slots := σ.2) (p := p) (l := l) (e := e) (R := room_1) (s := s) (m := m) (args := #[Value.ref b]) (below := below) (meth := meth) (c := c) (H := H) (g := F0 m pc ls (.ref (G.1 + b1) :: rest)) ⟨hx, hb, hml, hown, hts⟩ hMm (cwI 0 hts hGd hw rfl rfl (hts _ hini) (hts _ hlk) (hts _ hins) hi0 hd0 ⟨hfr, hlo⟩) ⟨s_Rel_calling (args := [.ref b1]), fun U hU hW => ⟨rfl, by rw [hU]; exact hrel, s_Kn.warm hW ⟨hK, hNw⟩⟩⟩ rfl rfl hl.1 rfl (lv_room hst) hd (by rw [hcells, hslots]; exact hE)
  refine a_after hrun hS (fun H1 locs1 hrel1 hS1 => ?_)
  rw [hcells, hslots]
  exact k H1 locs1 ls hrel1 hS1 hl
theorem cl_L_8 : Cond.classLink RL 46 RX8 ∈ wsL_law := by decide +kernel
theorem it_L_8 : Cond.instantiable RX8 11 ∈ wsL_law := by decide +kernel
theorem ii_L_8 : Cond.initialized RX8 ∈ wsL_law := by decide +kernel
theorem ml_L_8 : Cond.methodLink RL 110 yX8_init ∈ wsL_law := by decide +kernel
theorem mi_L_8 : Cond.instanceMethod yX8_init ∈ wsL_law := by decide +kernel
theorem ac_L : Cond.arrayClass .int ∈ wsL_law := by decide +kernel
/-- the store behind all that is made -/
def iF (n : Nat) : sAC := .inr (.inl (n, fun _ => 0))
def s60 : sSt := (c60, 718)
def s65 : sSt := (c60 ++ [iF 12] ++ [iF 4] ++ [iF 25] ++ [iF 25] ++ [iF 25], 718 + 12 + 4 + 25 + 25 + 25)
theorem c60_len : c60.length = 60 := rfl
theorem s65_len : s65.1.length = 65 := rfl
def rP (j : Nat) : Nat → Int32 := fun z => if z < j then nI (p25 z) else 0
def m0 (j : Nat) : tM := fun k => if k = 4 then rP j else fun _ => 0
theorem s65_mp : s65 = mp s65 (m0 0) := by
  refine mp_of (Nat.le_of_ble_eq_true rfl) (fun k hk => ?_)
  have e : rP 0 = fun _ => 0 := by
    funext z
    exact if_neg (Nat.not_lt_zero z)
  rcases (show k = 0 ∨ k = 1 ∨ k = 2 ∨ k = 3 ∨ k = 4 by omega) with rfl | rfl | rfl | rfl | rfl
  · rfl
  · rfl
  · rfl
  · rfl
  · show some (iF 25) = some (kI 25 (rP 0))
    rw [e]
    rfl
def mE : tM := uN (m0 25) 1 (upd (fun _ => 0) 2 (nI 2))
theorem LI_start : LI (mp s65 mE) mE V0 := by
  have hs : 65 ≤ s65.1.length := Nat.le_of_ble_eq_true rfl
  have hlen : (mp s65 mE).1.length = 65 := by rw [mp_len hs]; rfl
  refine ⟨iniWV (fun i hi => ?_) hlen (show 718 + 12 + 4 + 25 + 25 + 25 ≤ 50000 by omega) (fun k c hc => mp_at hs hc), ⟨S0_ok, rfl, rfl, rfl, rfl, fun i x hx => nil_at hx⟩, ⟨fun j hj => rfl, fun j hj => rfl, fun j hj => if_pos hj⟩, fun x hx => absurd hx List.not_mem_nil, fun q _ _ => rfl⟩
  rw [mp_out hs (Or.inl hi)]
  show (c60 ++ [iF 12] ++ [iF 4] ++ [iF 25] ++ [iF 25] ++ [iF 25])[i]? = c60[i]?
  rw [List.append_assoc, List.append_assoc, List.append_assoc, List.append_assoc, List.getElem?_append_left (by rw [c60_len]; exact hi)]
/-- the row of the primes is filled -/
theorem l_primes {y : lCy} (hy : lOk y) (kk : lA y 61 [(7, .int (nI 25)), (6, .ref ((lG y).1 + 64)), (5, .ref ((lG y).1 + 63)), (4, .ref ((lG y).1 + 62)), (3, .ref ((lG y).1 + 61)), (2, .ref ((lG y).1 + 60)), (1, .ref ((lG y).1 + 0)), (0, .ref (lB y))] [] (mp s65 (m0 25))) : ∀ (d j : Nat), j + d = 25 → lA y 38 (lV y j) [] (mp s65 (m0 j)) := by
  have hs : 65 ≤ s65.1.length := Nat.le_of_ble_eq_true rfl
  intro d
  induction d with
  | zero =>
    intro j hj
    rw [Nat.add_zero] at hj
    subst hj
    refine l_il hy (k := 0) dL_law_38 rfl ?_
    refine l_bi hy (v := nI 25) dL_law_40 (by decide +kernel) ?_
    exact l_ge hy (tgt := 61) (by omega) (by omega) dL_law_42 (by decide) (fun _ => kk) (fun q => absurd q (by omega))
  | succ d ih =>
    intro j hj
    refine l_il hy (k := 0) dL_law_38 rfl ?_
    refine l_bi hy (v := nI 25) dL_law_40 (by decide +kernel) ?_
    refine l_ge hy (tgt := 61) (by omega) (by omega) dL_law_42 (by decide) (fun q => absurd q (by omega)) (fun _ => ?_)
    refine l_al hy (k := 1) dL_law_45 rfl ?_
    refine l_il hy (k := 0) dL_law_47 rfl ?_
    refine l_il hy (k := 0) dL_law_49 rfl ?_
    have hE : (mp s65 (m0 j)).1.length ≤ 600000 ∧ (mp s65 (m0 j)).2 ≤ 7302250 := ⟨by rw [mp_len hs]; exact Nat.le_of_ble_eq_true rfl, Nat.le_of_ble_eq_true rfl⟩
    refine l_callS hy (As := [.int (nI j)]) (rest := [.int (nI j), .ref ((lG y).1 + 64)]) T_L_primeAt gL_law_L_primeAt rfl (by decide +kernel) (n := 1) (Nat.le_of_ble_eq_true rfl) (Nat.le_of_ble_eq_true rfl) dL_law_51 rfl (l_primeAt (show j < 25 by omega)) hE (Nat.le_of_ble_eq_true rfl) ?_
    refine l_iast hy dL_law_54 (b1 := 64) (n := 25) (f := rP j) (mp_at (k := 4) hs rfl) (by omega) (by omega) ?_
    have e : ((mp s65 (m0 j)).1.set 64 (.inr (.inl (25, upd (rP j) j (nI (p25 j))))), (mp s65 (m0 j)).2) = mp s65 (m0 (j + 1)) := by
      have u : upd (rP j) j (nI (p25 j)) = rP (j + 1) := by
        funext z
        show (if z = j then nI (p25 j) else if z < j then nI (p25 z) else 0) = if z < j + 1 then nI (p25 z) else 0
        by_cases c : z = j
        · subst c
          rw [if_pos rfl, if_pos (by omega)]
        · rw [if_neg c]
          by_cases d : z < j
          · rw [if_pos d, if_pos (by omega)]
          · rw [if_neg d, if_neg (by omega)]
      have n : uN (m0 j) 4 (rP (j + 1)) = m0 (j + 1) := by
        funext k
        show (if k = 4 then rP (j + 1) else if k = 4 then rP j else fun _ => 0) = if k = 4 then rP (j + 1) else fun _ => 0
        by_cases c : k = 4
        · rw [if_pos c, if_pos c]
        · rw [if_neg c, if_neg c, if_neg c]
      rw [u, ← n]
      exact mp_s4 hs
    rw [e]
    refine l_inc hy (i := 7) (k := 0) (v := nI (j + 1)) (lv' := lV y (j + 1)) dL_law_55 rfl (by rw [show Int32.ofInt 1 = nI 1 by decide +kernel, nI_add]) (Nat.le_of_ble_eq_true rfl) rfl ?_
    refine l_goto hy (tgt := 38) dL_law_58 (by decide) ?_
    exact ih (j + 1) (by omega)
theorem l_start {y : lCy} (hy : lOk y) : lA y 0 [(0, .ref (lB y))] [] ([], 0) := by
  have hs : 65 ≤ s65.1.length := Nat.le_of_ble_eq_true rfl
  refine l_new hy (ci := 6) (fs := [.null, .null, .null, .int 0, .null, .null, .null, .null, .int 0, .int 0, .int 0]) rfl in_L_8 tyX8 tyX8_ok cl_L_8 it_L_8 ii_L_8 dL_law_0 (fun j hj b => by rcases (show j = 0 ∨ j = 1 ∨ j = 2 ∨ j = 3 ∨ j = 4 ∨ j = 5 ∨ j = 6 ∨ j = 7 ∨ j = 8 ∨ j = 9 ∨ j = 10 by omega) with rfl | rfl | rfl | rfl | rfl | rfl | rfl | rfl | rfl | rfl | rfl <;> rfl) ⟨Nat.le_of_ble_eq_true rfl, Nat.le_of_ble_eq_true rfl⟩ ?_
  refine l_dup hy dL_law_3 ?_
  refine l_init hy T_X8_init gL_law_X8_init rfl rfl ii_L_8 ml_L_8 mi_L_8 (by decide +kernel) (Nat.le_of_ble_eq_true rfl) (Nat.le_of_ble_eq_true rfl) dL_law_4 (b1 := 0) (ini8 11) ⟨Nat.le_of_ble_eq_true rfl, Nat.le_of_ble_eq_true rfl⟩ (rest := [.ref ((lG y).1 + 0)]) (Nat.le_of_ble_eq_true rfl) ?_
  show lA y 7 [(0, .ref (lB y))] [.ref ((lG y).1 + 0)] s60
  refine l_astn hy (i := 1) (lv' := [(1, .ref ((lG y).1 + 0)), (0, .ref (lB y))]) dL_law_7 rfl (Nat.le_of_ble_eq_true rfl) rfl ?_
  refine l_bi hy (v := nI 12) dL_law_8 (by decide +kernel) ?_
  refine l_newa hy ac_L dL_law_10 (N := 12) (by omega) ⟨Nat.le_of_ble_eq_true rfl, Nat.le_of_ble_eq_true rfl⟩ ?_
  refine l_astn hy (a := (lG y).1 + 60) (i := 2) (lv' := [(2, .ref ((lG y).1 + 60)), (1, .ref ((lG y).1 + 0)), (0, .ref (lB y))]) dL_law_12 rfl (Nat.le_of_ble_eq_true rfl) rfl ?_
  refine l_ic hy (v := nI 4) dL_law_13 (by decide +kernel) ?_
  refine l_newa hy ac_L dL_law_14 (N := 4) (by omega) ⟨Nat.le_of_ble_eq_true rfl, Nat.le_of_ble_eq_true rfl⟩ ?_
  refine l_astn hy (a := (lG y).1 + 61) (i := 3) (lv' := [(3, .ref ((lG y).1 + 61)), (2, .ref ((lG y).1 + 60)), (1, .ref ((lG y).1 + 0)), (0, .ref (lB y))]) dL_law_16 rfl (Nat.le_of_ble_eq_true rfl) rfl ?_
  refine l_bi hy (v := nI 25) dL_law_17 (by decide +kernel) ?_
  refine l_newa hy ac_L dL_law_19 (N := 25) (by omega) ⟨Nat.le_of_ble_eq_true rfl, Nat.le_of_ble_eq_true rfl⟩ ?_
  refine l_astj hy (a := (lG y).1 + 62) (i := 4) (lv' := [(4, .ref ((lG y).1 + 62)), (3, .ref ((lG y).1 + 61)), (2, .ref ((lG y).1 + 60)), (1, .ref ((lG y).1 + 0)), (0, .ref (lB y))]) dL_law_21 (Nat.le_of_ble_eq_true rfl) rfl ?_
  refine l_bi hy (v := nI 25) dL_law_23 (by decide +kernel) ?_
  refine l_newa hy ac_L dL_law_25 (N := 25) (by omega) ⟨Nat.le_of_ble_eq_true rfl, Nat.le_of_ble_eq_true rfl⟩ ?_
  refine l_astj hy (a := (lG y).1 + 63) (i := 5) (lv' := [(5, .ref ((lG y).1 + 63)), (4, .ref ((lG y).1 + 62)), (3, .ref ((lG y).1 + 61)), (2, .ref ((lG y).1 + 60)), (1, .ref ((lG y).1 + 0)), (0, .ref (lB y))]) dL_law_27 (Nat.le_of_ble_eq_true rfl) rfl ?_
  refine l_bi hy (v := nI 25) dL_law_29 (by decide +kernel) ?_
  refine l_newa hy ac_L dL_law_31 (N := 25) (by omega) ⟨Nat.le_of_ble_eq_true rfl, Nat.le_of_ble_eq_true rfl⟩ ?_
  refine l_astj hy (a := (lG y).1 + 64) (i := 6) (lv' := [(6, .ref ((lG y).1 + 64)), (5, .ref ((lG y).1 + 63)), (4, .ref ((lG y).1 + 62)), (3, .ref ((lG y).1 + 61)), (2, .ref ((lG y).1 + 60)), (1, .ref ((lG y).1 + 0)), (0, .ref (lB y))]) dL_law_33 (Nat.le_of_ble_eq_true rfl) rfl ?_
  show lA y 35 [(6, .ref ((lG y).1 + 64)), (5, .ref ((lG y).1 + 63)), (4, .ref ((lG y).1 + 62)), (3, .ref ((lG y).1 + 61)), (2, .ref ((lG y).1 + 60)), (1, .ref ((lG y).1 + 0)), (0, .ref (lB y))] [] s65
  rw [s65_mp]
  refine l_ic hy (v := nI 0) dL_law_35 (by decide +kernel) ?_
  refine l_ist hy (lv' := lV y 0) dL_law_36 (Nat.le_of_ble_eq_true rfl) rfl ?_
  refine l_primes hy ?_ 25 0 rfl
  refine l_aln hy (k := 4) dL_law_61 rfl rfl ?_
  refine l_ic hy (v := nI 2) dL_law_62 (by decide +kernel) ?_
  refine l_ic hy (v := nI 2) dL_law_63 (by decide +kernel) ?_
  refine l_iast hy dL_law_64 (b1 := 61) (n := 4) (f := fun _ => 0) (mp_at (k := 1) hs rfl) (by omega) (by omega) ?_
  rw [show ((mp s65 (m0 25)).1.set 61 (.inr (.inl (4, upd (fun _ => 0) 2 (nI 2)))), (mp s65 (m0 25)).2) = mp s65 mE from mp_s1 hs]
  refine l_ic hy (v := nI 0) dL_law_65 (by decide +kernel) ?_
  refine l_ist hy (lv' := lV y 0) dL_law_66 (Nat.le_of_ble_eq_true rfl) rfl ?_
  exact l_loop hy 50 0 0 _ _ _ rfl LI_start rfl (Nat.le_refl 0)
