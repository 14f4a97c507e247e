/-! both sides of a call (own work): one answer, and both hold one picture again -/
def JV (σ : sSt) (V : tV) : Prop := ∃ M, WV σ M V ∧ MV M V
theorem WV.w0 {σ : sSt} {M : tM} {V : tV} (h : WV σ M V) : 72 ≤ σ.1.length ∧ σ = mp σ M ∧ ∀ M', WV (mp σ M') M' V := by
  obtain ⟨P, C, T, fi, er, nu, po, w, v⟩ := h
  exact ⟨w.len, w.mp, fun M' => ⟨P, C, T, fi, er, nu, po, w.m M', v⟩⟩
section
variable {σ : sSt} {V : tV}
theorem jn {σ1 : sSt} {M : tM} {V' : tV} {sem : sSem} {As : List Value} {r : Option Value} (w : WV σ1 M V') (h : ∃ M', sem As (mp σ1 M) = some (r, mp σ1 M') ∧ MV M' V') : ∃ σ2, sem As σ1 = some (r, σ2) ∧ JV σ2 V' := by
  obtain ⟨M', e, m⟩ := h
  obtain ⟨-, e1, w2⟩ := w.w0
  rw [← e1] at e
  exact ⟨mp σ1 M', e, M', w2 M', m⟩
theorem j_add (h : JV σ V) (x y : Int32) : ∃ σ1 σ2, M_X8_add [.ref 0, .int x, .int y] σ = some (some (.int (wrap V (dAdd V.1 x y)).1), σ1) ∧ M_X9_add [.ref 60, .int x, .int y] σ1 = some (some (.int (wrap V (dAdd V.1 x y)).1), σ2) ∧ JV σ2 (wrap V (dAdd V.1 x y)).2 := by
  obtain ⟨M, w, m⟩ := h
  obtain ⟨σ1, e1, w1⟩ := k_add w x y
  have hσ := w1.w0.1
  obtain ⟨v, F, rc, h1⟩ := g_changeX hσ m
  have g := wrapM m h1 (g_addC hσ m.2.2.1 rc h1.2.2.1 x y)
  obtain ⟨σ2, e2, j⟩ := jn w1 g
  exact ⟨σ1, σ2, e1, e2, j⟩
theorem j_take (h : JV σ V) (x : Int32) : ∃ σ1 σ2, M_X8_take [.ref 0, .int x] σ = some (some (.int (wrap V (dTake V.1 x)).1), σ1) ∧ M_X9_take [.ref 60, .int x] σ1 = some (some (.int (wrap V (dTake V.1 x)).1), σ2) ∧ JV σ2 (wrap V (dTake V.1 x)).2 := by
  obtain ⟨M, w, m⟩ := h
  obtain ⟨σ1, e1, w1⟩ := k_take w x
  have hσ := w1.w0.1
  obtain ⟨v, F, rc, h1⟩ := g_changeX hσ m
  have g := wrapM m h1 (g_takeC hσ m.2.2.1 rc h1.2.2.1 x)
  obtain ⟨σ2, e2, j⟩ := jn w1 g
  exact ⟨σ1, σ2, e1, e2, j⟩
theorem j_share (h : JV σ V) (x : Int32) : ∃ σ1 σ2, M_X8_share [.ref 0, .int x] σ = some (some (.int (wrap V (dShare V.1 x)).1), σ1) ∧ M_X9_share [.ref 60, .int x] σ1 = some (some (.int (wrap V (dShare V.1 x)).1), σ2) ∧ JV σ2 (wrap V (dShare V.1 x)).2 := by
  obtain ⟨M, w, m⟩ := h
  obtain ⟨σ1, e1, w1⟩ := k_share w x
  have hσ := w1.w0.1
  obtain ⟨v, F, rc, h1⟩ := g_changeX hσ m
  have g := wrapM m h1 (g_shareC hσ m.2.2.1 rc h1.2.2.1 x)
  obtain ⟨σ2, e2, j⟩ := jn w1 g
  exact ⟨σ1, σ2, e1, e2, j⟩
theorem j_divide (h : JV σ V) (x : Int32) : ∃ σ1 σ2, M_X8_divide [.ref 0, .int x] σ = some (some (.int (wrap V (dDivide V.1 x)).1), σ1) ∧ M_X9_divide [.ref 60, .int x] σ1 = some (some (.int (wrap V (dDivide V.1 x)).1), σ2) ∧ JV σ2 (wrap V (dDivide V.1 x)).2 := by
  obtain ⟨M, w, m⟩ := h
  obtain ⟨σ1, e1, w1⟩ := k_divide w x
  have hσ := w1.w0.1
  obtain ⟨v, F, rc, h1⟩ := g_changeX hσ m
  have g := wrapM m h1 (g_divideC hσ m.2.2.1 rc h1.2.2.1 h1.1 x)
  obtain ⟨σ2, e2, j⟩ := jn w1 g
  exact ⟨σ1, σ2, e1, e2, j⟩
theorem j_strike (h : JV σ V) (x y : Int32) : ∃ σ1 σ2, M_X8_strike [.ref 0, .int x, .int y] σ = some (some (.int (wrap V (dStrike V.1 x y)).1), σ1) ∧ M_X9_strike [.ref 60, .int x, .int y] σ1 = some (some (.int (wrap V (dStrike V.1 x y)).1), σ2) ∧ JV σ2 (wrap V (dStrike V.1 x y)).2 := by
  obtain ⟨M, w, m⟩ := h
  obtain ⟨σ1, e1, w1⟩ := k_strike w x y
  have hσ := w1.w0.1
  obtain ⟨v, F, rc, h1⟩ := g_changeX hσ m
  have g := wrapM m h1 (g_strikeC hσ m.2.2.1 m.1 rc h1.2.2.1 h1.1 x y)
  obtain ⟨σ2, e2, j⟩ := jn w1 g
  exact ⟨σ1, σ2, e1, e2, j⟩
theorem j_set (h : JV σ V) (x y : Int32) : ∃ σ1 σ2, M_X8_set [.ref 0, .int x, .int y] σ = some (some (.int (wrap V (dSet V.1 x y)).1), σ1) ∧ M_X9_set [.ref 60, .int x, .int y] σ1 = some (some (.int (wrap V (dSet V.1 x y)).1), σ2) ∧ JV σ2 (wrap V (dSet V.1 x y)).2 := by
  obtain ⟨M, w, m⟩ := h
  obtain ⟨σ1, e1, w1⟩ := k_set w x y
  have hσ := w1.w0.1
  obtain ⟨v, F, rc, h1⟩ := g_changeX hσ m
  have g := wrapM m h1 (g_setC hσ m.2.2.1 rc h1.2.2.1 x y)
  obtain ⟨σ2, e2, j⟩ := jn w1 g
  exact ⟨σ1, σ2, e1, e2, j⟩
theorem j_settle (h : JV σ V) : ∃ σ1 σ2, M_X8_settle [.ref 0] σ = some (some (.int (wrap V (dSettle V.1)).1), σ1) ∧ M_X9_settle [.ref 60] σ1 = some (some (.int (wrap V (dSettle V.1)).1), σ2) ∧ JV σ2 (wrap V (dSettle V.1)).2 := by
  obtain ⟨M, w, m⟩ := h
  obtain ⟨σ1, e1, w1⟩ := k_settle w
  have hσ := w1.w0.1
  have g := g_settle hσ m
  obtain ⟨σ2, e2, j⟩ := jn w1 g
  exact ⟨σ1, σ2, e1, e2, j⟩
theorem j_append (h : JV σ V) (x : Int32) : ∃ σ1 σ2, M_X8_append [.ref 0, .int x] σ = some (some (.int (spAppend V x).1), σ1) ∧ M_X9_append [.ref 60, .int x] σ1 = some (some (.int (spAppend V x).1), σ2) ∧ JV σ2 (spAppend V x).2 := by
  obtain ⟨M, w, m⟩ := h
  obtain ⟨σ1, e1, w1⟩ := k_append w x
  have hσ := w1.w0.1
  have g := g_append hσ m x
  obtain ⟨σ2, e2, j⟩ := jn w1 g
  exact ⟨σ1, σ2, e1, e2, j⟩
theorem j_clear (h : JV σ V) : ∃ σ1 σ2, M_X8_clear [.ref 0] σ = some (some (.int (spClear V).1), σ1) ∧ M_X9_clear [.ref 60] σ1 = some (some (.int (spClear V).1), σ2) ∧ JV σ2 (spClear V).2 := by
  obtain ⟨M, w, m⟩ := h
  obtain ⟨σ1, e1, w1⟩ := k_clear w
  have hσ := w1.w0.1
  have g := g_clear hσ m
  obtain ⟨σ2, e2, j⟩ := jn w1 g
  exact ⟨σ1, σ2, e1, e2, j⟩
theorem j_read (h : JV σ V) : ∃ σ1 σ2, M_X8_read [.ref 0] σ = some (some (.int (spRead V).1), σ1) ∧ M_X9_read [.ref 60] σ1 = some (some (.int (spRead V).1), σ2) ∧ JV σ2 (spRead V).2 := by
  obtain ⟨M, w, m⟩ := h
  obtain ⟨σ1, e1, w1⟩ := k_read w
  have hσ := w1.w0.1
  have g := g_read hσ m
  obtain ⟨σ2, e2, j⟩ := jn w1 g
  exact ⟨σ1, σ2, e1, e2, j⟩
theorem j_carryOut (h : JV σ V) : ∃ σ1 σ2, M_X8_carryOut [.ref 0] σ = some (some (.int (spCarry V).1), σ1) ∧ M_X9_carryOut [.ref 60] σ1 = some (some (.int (spCarry V).1), σ2) ∧ JV σ2 (spCarry V).2 := by
  obtain ⟨M, w, m⟩ := h
  obtain ⟨σ1, e1, w1⟩ := k_carryOut w
  have hσ := w1.w0.1
  have g := g_carryOut hσ m
  obtain ⟨σ2, e2, j⟩ := jn w1 g
  exact ⟨σ1, σ2, e1, e2, j⟩
theorem j_undo (h : JV σ V) : ∃ σ1 σ2, M_X8_undo [.ref 0] σ = some (some (.int (spUndo V).1), σ1) ∧ M_X9_undo [.ref 60] σ1 = some (some (.int (spUndo V).1), σ2) ∧ JV σ2 (spUndo V).2 := by
  obtain ⟨M, w, m⟩ := h
  obtain ⟨σ1, e1, w1⟩ := k_undo w
  have hσ := w1.w0.1
  have g := g_undo hσ m
  obtain ⟨σ2, e2, j⟩ := jn w1 g
  exact ⟨σ1, σ2, e1, e2, j⟩
theorem j_save (h : JV σ V) : ∃ σ1 σ2, M_X8_save [.ref 0] σ = some (some (.int (spSave V).1), σ1) ∧ M_X9_save [.ref 60] σ1 = some (some (.int (spSave V).1), σ2) ∧ JV σ2 (spSave V).2 := by
  obtain ⟨M, w, m⟩ := h
  obtain ⟨σ1, e1, w1⟩ := k_save w
  have hσ := w1.w0.1
  have g := g_save hσ m
  obtain ⟨σ2, e2, j⟩ := jn w1 g
  exact ⟨σ1, σ2, e1, e2, j⟩
theorem j_restore (h : JV σ V) : ∃ σ1 σ2, M_X8_restore [.ref 0] σ = some (some (.int (spRestore V).1), σ1) ∧ M_X9_restore [.ref 60] σ1 = some (some (.int (spRestore V).1), σ2) ∧ JV σ2 (spRestore V).2 := by
  obtain ⟨M, w, m⟩ := h
  obtain ⟨σ1, e1, w1⟩ := k_restore w
  have hσ := w1.w0.1
  have g := g_restore hσ m
  obtain ⟨σ2, e2, j⟩ := jn w1 g
  exact ⟨σ1, σ2, e1, e2, j⟩
theorem j_fault (h : JV σ V) (x : Int32) : ∃ σ1 σ2, M_X8_fault [.ref 0, .int x] σ = some (some (.int (rFault V x)), σ1) ∧ M_X9_fault [.ref 60, .int x] σ1 = some (some (.int (rFault V x)), σ2) ∧ JV σ2 V := by
  obtain ⟨M, w, m⟩ := h
  obtain ⟨σ1, e1, w1⟩ := k_fault w x
  have hσ := w1.w0.1
  have g := g_fault hσ m x
  obtain ⟨σ2, e2, j⟩ := jn w1 g
  exact ⟨σ1, σ2, e1, e2, j⟩
theorem j_count (h : JV σ V) (x : Int32) : ∃ σ1 σ2, M_X8_count [.ref 0, .int x] σ = some (some (.int (rCount V x)), σ1) ∧ M_X9_count [.ref 60, .int x] σ1 = some (some (.int (rCount V x)), σ2) ∧ JV σ2 V := by
  obtain ⟨M, w, m⟩ := h
  obtain ⟨σ1, e1, w1⟩ := k_count w x
  have hσ := w1.w0.1
  have g := g_count hσ m x
  obtain ⟨σ2, e2, j⟩ := jn w1 g
  exact ⟨σ1, σ2, e1, e2, j⟩
theorem j_ifDone (h : JV σ V) (x y z : Int32) : ∃ σ1 σ2, M_X8_ifDone [.ref 0, .int x, .int y, .int z] σ = some (some (.int (rIfDone V.1 x y z)), σ1) ∧ M_X9_ifDone [.ref 60, .int x, .int y, .int z] σ1 = some (some (.int (rIfDone V.1 x y z)), σ2) ∧ JV σ2 V := by
  obtain ⟨M, w, m⟩ := h
  obtain ⟨σ1, e1, w1⟩ := k_ifDone w x y z
  have hσ := w1.w0.1
  have g := g_ifDone hσ m x y z
  obtain ⟨σ2, e2, j⟩ := jn w1 g
  exact ⟨σ1, σ2, e1, e2, j⟩
theorem j_bestStrike (h : JV σ V) : ∃ σ1 σ2, M_X8_bestStrike [.ref 0] σ = some (some (.int (rBest V.1)), σ1) ∧ M_X9_bestStrike [.ref 60] σ1 = some (some (.int (rBest V.1)), σ2) ∧ JV σ2 V := by
  obtain ⟨M, w, m⟩ := h
  obtain ⟨σ1, e1, w1⟩ := k_bestStrike w
  have hσ := w1.w0.1
  have g := g_bestStrike hσ m
  obtain ⟨σ2, e2, j⟩ := jn w1 g
  exact ⟨σ1, σ2, e1, e2, j⟩
theorem j_why (h : JV σ V) (x : Int32) : ∃ σ1 σ2, M_X8_why [.ref 0, .int x] σ = some (some (.int (rWhy V x)), σ1) ∧ M_X9_why [.ref 60, .int x] σ1 = some (some (.int (rWhy V x)), σ2) ∧ JV σ2 V := by
  obtain ⟨M, w, m⟩ := h
  obtain ⟨σ1, e1, w1⟩ := k_why w x
  have hσ := w1.w0.1
  have g : ∃ M', M_X9_why [.ref 60, .int x] (mp σ1 M) = some (some (.int (rWhy V x)), mp σ1 M') ∧ MV M' V := ⟨M, g_why hσ m x, m⟩
  obtain ⟨σ2, e2, j⟩ := jn w1 g
  exact ⟨σ1, σ2, e1, e2, j⟩
theorem j_factor (h : JV σ V) (x y : Int32) : ∃ σ1 σ2, M_X8_factor [.ref 0, .int x, .int y] σ = some (some (.int (rFactor V.1 x y)), σ1) ∧ M_X9_factor [.ref 60, .int x, .int y] σ1 = some (some (.int (rFactor V.1 x y)), σ2) ∧ JV σ2 V := by
  obtain ⟨M, w, m⟩ := h
  obtain ⟨σ1, e1, w1⟩ := k_factor w x y
  have hσ := w1.w0.1
  have g : ∃ M', M_X9_factor [.ref 60, .int x, .int y] (mp σ1 M) = some (some (.int (rFactor V.1 x y)), mp σ1 M') ∧ MV M' V := ⟨M, g_factor hσ m.2.2.1 x y, m⟩
  obtain ⟨σ2, e2, j⟩ := jn w1 g
  exact ⟨σ1, σ2, e1, e2, j⟩
theorem j_common (h : JV σ V) (x y z : Int32) : ∃ σ1 σ2, M_X8_common [.ref 0, .int x, .int y, .int z] σ = some (some (.int (rCommon V.1 x y z)), σ1) ∧ M_X9_common [.ref 60, .int x, .int y, .int z] σ1 = some (some (.int (rCommon V.1 x y z)), σ2) ∧ JV σ2 V := by
  obtain ⟨M, w, m⟩ := h
  obtain ⟨σ1, e1, w1⟩ := k_common w x y z
  have hσ := w1.w0.1
  have g : ∃ M', M_X9_common [.ref 60, .int x, .int y, .int z] (mp σ1 M) = some (some (.int (rCommon V.1 x y z)), mp σ1 M') ∧ MV M' V := ⟨M, g_common hσ m.2.2.1 x y z, m⟩
  obtain ⟨σ2, e2, j⟩ := jn w1 g
  exact ⟨σ1, σ2, e1, e2, j⟩
theorem j_whyNot (h : JV σ V) (x y : Int32) : ∃ σ1 σ2, M_X8_whyNot [.ref 0, .int x, .int y] σ = some (some (.int (rWhyNot V.1 x y)), σ1) ∧ M_X9_whyNot [.ref 60, .int x, .int y] σ1 = some (some (.int (rWhyNot V.1 x y)), σ2) ∧ JV σ2 V := by
  obtain ⟨M, w, m⟩ := h
  obtain ⟨σ1, e1, w1⟩ := k_whyNot w x y
  have hσ := w1.w0.1
  have g : ∃ M', M_X9_whyNot [.ref 60, .int x, .int y] (mp σ1 M) = some (some (.int (rWhyNot V.1 x y)), mp σ1 M') ∧ MV M' V := ⟨M, g_whyNot hσ m.2.2.1 x y, m⟩
  obtain ⟨σ2, e2, j⟩ := jn w1 g
  exact ⟨σ1, σ2, e1, e2, j⟩
theorem j_crown (h : JV σ V) : ∃ σ1 σ2, M_X8_crown [.ref 0] σ = some (some (.int (rCrown V.1)), σ1) ∧ M_X9_crown [.ref 60] σ1 = some (some (.int (rCrown V.1)), σ2) ∧ JV σ2 V := by
  obtain ⟨M, w, m⟩ := h
  obtain ⟨σ1, e1, w1⟩ := k_crown w
  have hσ := w1.w0.1
  have g : ∃ M', M_X9_crown [.ref 60] (mp σ1 M) = some (some (.int (rCrown V.1)), mp σ1 M') ∧ MV M' V := ⟨M, g_crown hσ m.2.2.1, m⟩
  obtain ⟨σ2, e2, j⟩ := jn w1 g
  exact ⟨σ1, σ2, e1, e2, j⟩
theorem j_prime (h : JV σ V) (x y : Int32) : ∃ σ1 σ2, M_X8_prime [.ref 0, .int x, .int y] σ = some (some (.int (rPrime V.1 x y)), σ1) ∧ M_X9_prime [.ref 60, .int x, .int y] σ1 = some (some (.int (rPrime V.1 x y)), σ2) ∧ JV σ2 V := by
  obtain ⟨M, w, m⟩ := h
  obtain ⟨σ1, e1, w1⟩ := k_prime w x y
  have hσ := w1.w0.1
  have g : ∃ M', M_X9_prime [.ref 60, .int x, .int y] (mp σ1 M) = some (some (.int (rPrime V.1 x y)), mp σ1 M') ∧ MV M' V := ⟨M, g_prime hσ m.2.2.1 m.1 x y, m⟩
  obtain ⟨σ2, e2, j⟩ := jn w1 g
  exact ⟨σ1, σ2, e1, e2, j⟩
theorem j_climbs (h : JV σ V) (x y z : Int32) : ∃ σ1 σ2, M_X8_climbs [.ref 0, .int x, .int y, .int z] σ = some (some (.int (rClimbs V.1 x y z)), σ1) ∧ M_X9_climbs [.ref 60, .int x, .int y, .int z] σ1 = some (some (.int (rClimbs V.1 x y z)), σ2) ∧ JV σ2 V := by
  obtain ⟨M, w, m⟩ := h
  obtain ⟨σ1, e1, w1⟩ := k_climbs w x y z
  have hσ := w1.w0.1
  obtain ⟨wf, ff, e⟩ := g_climbs (M := M) hσ m.2.2.1 x y z
  have g : ∃ M', M_X9_climbs [.ref 60, .int x, .int y, .int z] (mp σ1 M) = some (some (.int (rClimbs V.1 x y z)), mp σ1 M') ∧ MV M' V := ⟨dR M wf ff, e, m⟩
  obtain ⟨σ2, e2, j⟩ := jn w1 g
  exact ⟨σ1, σ2, e1, e2, j⟩
theorem j_climb (h : JV σ V) (x y z u : Int32) : ∃ σ1 σ2, M_X8_climb [.ref 0, .int x, .int y, .int z, .int u] σ = some (some (.int (rClimb V.1 x y z u)), σ1) ∧ M_X9_climb [.ref 60, .int x, .int y, .int z, .int u] σ1 = some (some (.int (rClimb V.1 x y z u)), σ2) ∧ JV σ2 V := by
  obtain ⟨M, w, m⟩ := h
  obtain ⟨σ1, e1, w1⟩ := k_climb w x y z u
  have hσ := w1.w0.1
  obtain ⟨wf, ff, e⟩ := g_climb (M := M) hσ m.2.2.1 x y z u
  have g : ∃ M', M_X9_climb [.ref 60, .int x, .int y, .int z, .int u] (mp σ1 M) = some (some (.int (rClimb V.1 x y z u)), mp σ1 M') ∧ MV M' V := ⟨dR M wf ff, e, m⟩
  obtain ⟨σ2, e2, j⟩ := jn w1 g
  exact ⟨σ1, σ2, e1, e2, j⟩
theorem j_climbAt (h : JV σ V) (x y z u : Int32) : ∃ σ1 σ2, M_X8_climbAt [.ref 0, .int x, .int y, .int z, .int u] σ = some (some (.int (rClimbAt V.1 x y z u)), σ1) ∧ M_X9_climbAt [.ref 60, .int x, .int y, .int z, .int u] σ1 = some (some (.int (rClimbAt V.1 x y z u)), σ2) ∧ JV σ2 V := by
  obtain ⟨M, w, m⟩ := h
  obtain ⟨σ1, e1, w1⟩ := k_climbAt w x y z u
  have hσ := w1.w0.1
  obtain ⟨wf, ff, e⟩ := g_climbAt (M := M) hσ m.2.2.1 x y z u
  have g : ∃ M', M_X9_climbAt [.ref 60, .int x, .int y, .int z, .int u] (mp σ1 M) = some (some (.int (rClimbAt V.1 x y z u)), mp σ1 M') ∧ MV M' V := ⟨dR M wf ff, e, m⟩
  obtain ⟨σ2, e2, j⟩ := jn w1 g
  exact ⟨σ1, σ2, e1, e2, j⟩
theorem j_longest (h : JV σ V) (x : Int32) : ∃ σ1 σ2, M_X8_longest [.ref 0, .int x] σ = some (some (.int (rLongest V.1 x)), σ1) ∧ M_X9_longest [.ref 60, .int x] σ1 = some (some (.int (rLongest V.1 x)), σ2) ∧ JV σ2 V := by
  obtain ⟨M, w, m⟩ := h
  obtain ⟨σ1, e1, w1⟩ := k_longest w x
  have hσ := w1.w0.1
  obtain ⟨wf, ff, e⟩ := g_longest (M := M) hσ m.2.2.1 x
  have g : ∃ M', M_X9_longest [.ref 60, .int x] (mp σ1 M) = some (some (.int (rLongest V.1 x)), mp σ1 M') ∧ MV M' V := ⟨dR M wf ff, e, m⟩
  obtain ⟨σ2, e2, j⟩ := jn w1 g
  exact ⟨σ1, σ2, e1, e2, j⟩
theorem j_step (h : JV σ V) (x y : Int32) : ∃ σ1 σ2, M_X8_step [.ref 0, .int x, .int y] σ = some (some (.int (rStep V.1 x y)), σ1) ∧ M_X9_step [.ref 60, .int x, .int y] σ1 = some (some (.int (rStep V.1 x y)), σ2) ∧ JV σ2 V := by
  obtain ⟨M, w, m⟩ := h
  obtain ⟨σ1, e1, w1⟩ := k_step w x y
  have hσ := w1.w0.1
  obtain ⟨M', e, hm⟩ := g_step hσ m.2.2.1 x y
  have g : ∃ M', M_X9_step [.ref 60, .int x, .int y] (mp σ1 M) = some (some (.int (rStep V.1 x y)), mp σ1 M') ∧ MV M' V := ⟨M', e, hm V m⟩
  obtain ⟨σ2, e2, j⟩ := jn w1 g
  exact ⟨σ1, σ2, e1, e2, j⟩
theorem j_init (n : Nat) (hn : n + 10892 ≤ 50000) : ∃ σ1 σ2, M_X8_init [.ref 0] ([.inl (6, [.null, .null, .null, .int 0, .null, .null, .null, .null, .int 0, .int 0, .int 0])], n) = some (none, σ1) ∧ σ1.1.length = 60 ∧ σ1.2 = n + 707 ∧ M_X9_init [.ref 60] (σ1.1 ++ [.inl (7, o7)], σ1.2 + 18) = some (none, σ2) ∧ JV σ2 V0 := by
  have hl : c60.length = 60 := rfl
  obtain ⟨M, e, m⟩ := ini9 (X := c60) hl (n + 707 + 18)
  have al : a7.length = 12 := rfl
  obtain ⟨q, hq⟩ : ∃ q, q = n + 707 + 18 + 10167 := ⟨_, rfl⟩
  rw [← hq] at e
  have hq2 : q ≤ 50000 := by omega
  have i8 := ini8 n
  have hσ : 72 ≤ ((c60 ++ a7, q) : sSt).1.length := by show 72 ≤ (c60 ++ a7).length; rw [List.length_append, hl, al]; exact Nat.le_refl _
  refine ⟨(c60, n + 707), mp (c60 ++ a7, q) M, i8, hl, rfl, e, M, iniWV (fun i hi => ?_) ?_ ?_ (fun k c hc => mp_at hσ hc), m⟩
  · rw [mp_out hσ (Or.inl hi)]
    exact List.getElem?_append_left (by rw [hl]; exact hi)
  · rw [mp_len hσ]
    show (c60 ++ a7).length = 72
    rw [List.length_append, hl, al]
  · exact hq2
end
