/-! the law's walk (own work) -/
theorem k_L_law : Cond.constant RL 8 (2147483647) ∈ wsL_law := by decide +kernel
theorem l_mask {y : lCy} (hy : lOk y) {lv : List (Nat × Value)} {st : List Value} {σ : sSt} {x : Int32} (K : ∀ z : Nat, z < 2 ^ 31 → lA y 84 lv (.int (nI z) :: st) σ) : lA y 81 lv (.int x :: st) σ := by
  obtain ⟨p, l, e, s, m, below, meth, c, b, L, xs, G⟩ := y
  obtain ⟨hx, hb, hr, hml, hown, hts, -⟩ := hy
  intro H locs ls hrel hS hl
  refine lv_ldc hx hb hown (hts _ k_L_law) dL_law_81 ?_
  refine lv_iand hx hb dL_law_83 ?_
  obtain ⟨z, hz, ez⟩ := pk_andE x (m := 2147483647) 31 (by decide)
  rw [ez]
  exact K z hz H locs ls hrel hS hl
/-- one event -/
theorem l_iter {y : lCy} (hy : lOk y) {i g : Nat} (hi : i < 50) {σ : sSt} {M : tM} {V : tV} (h : LI σ M V) (hg : M 5 0 = nI g) (hg2 : g ≤ i) (kk : ∀ (σ' : sSt) (M' : tM) (V' : tV) (g' : Nat), LI σ' M' V' → M' 5 0 = nI g' → g' ≤ i + 1 → lA y 68 (lV y (i + 1)) [] σ') : lA y 75 (lV y i) [] σ := by
  have hE := h.1.room hg (by omega)
  refine l_aln hy (k := 7) dL_law_75 rfl rfl ?_
  refine l_il hy (k := 0) dL_law_76 rfl ?_
  refine l_cell hy (show i < 1000 by omega) hE (Nat.le_of_ble_eq_true rfl) (fun r => ?_)
  refine l_mask hy (fun z hz => ?_)
  refine l_ist hy (lv' := (8, .int (nI z)) :: lV y i) dL_law_84 (Nat.le_of_ble_eq_true rfl) rfl ?_
  have hd := Nat.div_le_self z 18
  obtain ⟨σ1, M1, V1, g1, e1, h1, hg1, hg1'⟩ := l_isActed h hg (by omega) (show z % 18 < 18 by omega) (show z / 18 < 2 ^ 31 by omega)
  have hE1 := h1.1.room hg1 (by omega)
  refine l_aln hy (k := 7) dL_law_86 rfl rfl ?_
  refine l_aln hy (k := 6) dL_law_87 rfl rfl ?_
  refine l_aln hy (k := 5) dL_law_88 rfl rfl ?_
  refine l_al hy (k := 4) dL_law_89 rfl ?_
  refine l_al hy (k := 3) dL_law_91 rfl ?_
  refine l_al hy (k := 2) dL_law_93 rfl ?_
  refine l_il hy (k := 0) dL_law_95 rfl ?_
  refine l_bi hy (v := nI 18) dL_law_97 (by decide +kernel) ?_
  refine l_rem hy hz (by omega) (by omega) dL_law_99 ?_
  refine l_il hy (k := 0) dL_law_100 rfl ?_
  refine l_bi hy (v := nI 18) dL_law_102 (by decide +kernel) ?_
  refine l_div hy hz (by omega) (by omega) dL_law_104 ?_
  refine l_callS hy (As := [.ref 0, .ref 60, .ref 61, .ref 62, .ref 63, .ref 64, .int (nI (z % 18)), .int (nI (z / 18))]) (rest := []) T_L_isActed gL_law_L_isActed rfl (by decide +kernel) (n := 8) (Nat.le_of_ble_eq_true rfl) (Nat.le_of_ble_eq_true rfl) dL_law_105 rfl e1 hE1 (Nat.le_of_ble_eq_true rfl) ?_
  refine l_one hy (tgt := 154) dL_law_108 (by decide) ?_
  refine l_aln hy (k := 7) dL_law_111 rfl rfl ?_
  refine l_aln hy (k := 6) dL_law_112 rfl rfl ?_
  refine l_aln hy (k := 5) dL_law_113 rfl rfl ?_
  obtain ⟨σ2, e2, v2⟩ := l_areSteps h1.1 h1.2.1
  have hE2 := v2.room hg1 (by omega)
  refine l_callS hy (As := [.ref 0, .ref 60, .ref 61]) (rest := []) T_L_areSteps gL_law_L_areSteps rfl (by decide +kernel) (n := 3) (Nat.le_of_ble_eq_true rfl) (Nat.le_of_ble_eq_true rfl) dL_law_114 rfl e2 hE2 (Nat.le_of_ble_eq_true rfl) ?_
  refine l_one hy (tgt := 154) dL_law_117 (by decide) ?_
  have go : ∀ σ' : sSt, WV σ' M1 V1 → lA y 156 ((8, .int (nI z)) :: lV y i) [] σ' := fun σ' v' => by
    refine l_inc hy (i := 7) (k := 1) (v := nI (i + 1)) (lv' := [(7, .int (nI (i + 1))), (8, .int (nI z)), (6, .ref ((lG y).1 + 64)), (5, .ref ((lG y).1 + 63)), (4, .ref ((lG y).1 + 62)), (3, .ref ((lG y).1 + 61)), (2, .ref ((lG y).1 + 60)), (1, .ref ((lG y).1 + 0)), (0, .ref (lB y))]) dL_law_156 rfl (by rw [show Int32.ofInt 1 = nI 1 by decide +kernel, nI_add]) (Nat.le_of_ble_eq_true rfl) rfl ?_
    refine l_goto hy (tgt := 68) dL_law_159 (by decide) ?_
    refine l_sub [0, 2, 3, 4, 5, 6, 7, 8] (lv' := lV y (i + 1)) rfl ?_
    exact kk σ' M1 V1 g1 ⟨v', h1.2⟩ hg1 (by omega)
  refine l_il hy (k := 1) dL_law_120 rfl ?_
  refine l_ic hy (v := nI 3) dL_law_122 (by decide +kernel) ?_
  refine l_rem hy (a := i) (by omega) (by omega) (by omega) dL_law_123 ?_
  refine l_ic hy (v := nI 2) dL_law_124 (by decide +kernel) ?_
  refine l_ne hy (tgt := 156) (by omega) (by omega) dL_law_125 (by decide) (fun _ => go σ2 v2) (fun _ => ?_)
  refine l_aln hy (k := 7) dL_law_128 rfl rfl ?_
  refine l_aln hy (k := 6) dL_law_129 rfl rfl ?_
  refine l_aln hy (k := 5) dL_law_130 rfl rfl ?_
  refine l_al hy (k := 2) dL_law_131 rfl ?_
  obtain ⟨σ3, e3, v3⟩ := l_areFactors v2 h1.2.2.1.2.2 h1.2.1 h1.2.2.2
  have hE3 := v3.room hg1 (by omega)
  refine l_callS hy (As := [.ref 0, .ref 60, .ref 61, .ref 64]) (rest := []) T_L_areFactors gL_law_L_areFactors rfl (by decide +kernel) (n := 4) (Nat.le_of_ble_eq_true rfl) (Nat.le_of_ble_eq_true rfl) dL_law_133 rfl e3 hE3 (Nat.le_of_ble_eq_true rfl) ?_
  refine l_one hy (tgt := 154) dL_law_136 (by decide) ?_
  refine l_aln hy (k := 7) dL_law_139 rfl rfl ?_
  refine l_aln hy (k := 6) dL_law_140 rfl rfl ?_
  refine l_aln hy (k := 5) dL_law_141 rfl rfl ?_
  refine l_al hy (k := 4) dL_law_142 rfl ?_
  refine l_al hy (k := 3) dL_law_144 rfl ?_
  refine l_al hy (k := 2) dL_law_146 rfl ?_
  obtain ⟨σ4, e4, v4⟩ := l_areAccounts v3 h1.2.2.1 h1.2.1 h1.2.2.2
  have hE4 := v4.room hg1 (by omega)
  refine l_callS hy (As := [.ref 0, .ref 60, .ref 61, .ref 62, .ref 63, .ref 64]) (rest := []) T_L_areAccounts gL_law_L_areAccounts rfl (by decide +kernel) (n := 6) (Nat.le_of_ble_eq_true rfl) (Nat.le_of_ble_eq_true rfl) dL_law_148 rfl e4 hE4 (Nat.le_of_ble_eq_true rfl) ?_
  refine l_oneJ hy (tgt := 156) dL_law_151 (by decide) ?_
  exact go σ4 v4
/-- the loop over the events -/
theorem l_loop {y : lCy} (hy : lOk y) : ∀ (d i g : Nat) (σ : sSt) (M : tM) (V : tV), i + d = 50 → LI σ M V → M 5 0 = nI g → g ≤ i → lA y 68 (lV y i) [] σ := by
  intro d
  induction d with
  | zero =>
    intro i g σ M V hi h hg hg2
    have hE := h.1.room hg (by omega)
    refine l_il hy (k := 0) dL_law_68 rfl ?_
    refine l_bi hy (v := nI 50) dL_law_70 (by decide +kernel) ?_
    refine l_ge hy (tgt := 162) (by omega) (by omega) dL_law_72 (by decide) (fun _ => ?_) (fun q => absurd q (by omega))
    obtain ⟨p, l, e, s, m, below, meth, c, b, L, xs, G⟩ := y
    obtain ⟨hx, hb, hr, hml, hown, hts, hX, hbl, hlocks, hKn, hG1, hcl, hcm, hL⟩ := hy
    intro H locs ls hrel hS hl
    refine lv_iconst (v := 1) hx hb dL_law_162 (by decide) ?_
    refine va_forget (fun q hq => by rw [← hG1]; exact hS.2.2 q hq) ?_
    refine W.widen (k := 600000) (n := 7302250) hE.1 hE.2 ?_
    exact lw_ret (d0 := s.drawn) (Drawn.sameBut.refl s.drawn lw_cs) hx hb hr hlocks dL_law_163
  | succ d ih =>
    intro i g σ M V hi h hg hg2
    refine l_il hy (k := 0) dL_law_68 rfl ?_
    refine l_bi hy (v := nI 50) dL_law_70 (by decide +kernel) ?_
    refine l_ge hy (tgt := 162) (by omega) (by omega) dL_law_72 (by decide) (fun q => absurd q (by omega)) (fun _ => ?_)
    exact l_iter hy (by omega) h hg hg2 (fun σ' M' V' g' h' e' l' => ih (i + 1) g' σ' M' V' (by omega) h' e' l')
