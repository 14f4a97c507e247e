/-! the classes and arrays at the law's entry (own work) -/
theorem eN_X0 : Cond.instantiable RX0 4 ∈ lw_tbl := List.mem_of_getElem? (i := 34) (by decide +kernel)
theorem eN_X1 : Cond.instantiable RX1 8 ∈ lw_tbl := List.mem_of_getElem? (i := 139) (by decide +kernel)
theorem eN_X2 : Cond.instantiable RX2 2 ∈ lw_tbl := List.mem_of_getElem? (i := 126) (by decide +kernel)
theorem eN_X3 : Cond.instantiable RX3 3 ∈ lw_tbl := List.mem_of_getElem? (i := 79) (by decide +kernel)
theorem eN_X4 : Cond.instantiable RX4 9 ∈ lw_tbl := List.mem_of_getElem? (i := 99) (by decide +kernel)
theorem eN_X6 : Cond.instantiable RX6 6 ∈ lw_tbl := List.mem_of_getElem? (i := 28) (by decide +kernel)
theorem eN_X8 : Cond.instantiable RX8 11 ∈ lw_tbl := List.mem_of_getElem? (i := 20) (by decide +kernel)
theorem e_nest : ∀ w ∈ s_nest, w ∈ lw_tbl := wl_ix [55, 57, 58, 60, 62, 64, 90, 105, 85] (by decide +kernel)
theorem e_nestT : ∀ w ∈ s_nest, w.onTables = true ∨ w = Cond.arrayOver (.object RX6) := by decide +kernel
theorem e_nestW {w : Cond} {A : Array Value} {U : State} (hw : w ∈ s_nest) (h : w.before A U = true) : va_Nw w U := by
  rcases e_nestT w hw with g | g
  · exact va_Nw.of g h
  · subst g
    exact va_AO.of h
theorem e_int : Cond.arrayClass .int ∈ lw_tbl := List.mem_of_getElem? (i := 52) (by decide +kernel)
theorem e_ref : Cond.arrayOver (.object RX6) ∈ lw_tbl := List.mem_of_getElem? (i := 85) (by decide +kernel)
theorem s_Kn_start {s : State} {args : Array Value} (hts : ∀ w ∈ lw_tbl, w.before args s = true) : ∃ G : sGeo, G.1 = s.heap.size ∧ G.2.2.2.1 = vwCl ∧ G.2.2.2.2 = RX6 ∧ s_Kn G s := by
  obtain ⟨c0, i0, k0⟩ := u_known (C := RX0) (T := TX0) (N := 4) (n := 4) hts eT_X0 (hts _ eN_X0)
  obtain ⟨c1, i1, k1⟩ := u_known (C := RX1) (T := TX1) (N := 8) (n := 8) hts eT_X1 (hts _ eN_X1)
  obtain ⟨c2, i2, k2⟩ := u_known (C := RX2) (T := TX2) (N := 2) (n := 2) hts eT_X2 (hts _ eN_X2)
  obtain ⟨c3, i3, k3⟩ := u_known (C := RX3) (T := TX3) (N := 3) (n := 3) hts eT_X3 (hts _ eN_X3)
  obtain ⟨c4, i4, k4⟩ := u_known (C := RX4) (T := TX4) (N := 9) (n := 9) hts eT_X4 (hts _ eN_X4)
  obtain ⟨c5, i5, k5⟩ := u_known (C := RX6) (T := TX6) (N := 6) (n := 6) hts eT_X6 (hts _ eN_X6)
  obtain ⟨c6, i6, k6⟩ := u_known (C := RX8) (T := TX8) (N := 11) (n := 11) hts eT_X8 (hts _ eN_X8)
  obtain ⟨dC, dI, hKc⟩ : ∃ (dC : Nat → ClassId) (dI : Nat → Nat → Nat), ∀ (k : Nat) (q : vw_C), vwCl[k]? = some q → u_Kn s q.1 q.2.1 q.2.2 (dC k) (dI k) := by
    refine ⟨fun k => match k with | 0 => c0 | 1 => c1 | 2 => c2 | 3 => c3 | 4 => c4 | 5 => c5 | _ => c6, fun k => match k with | 0 => i0 | 1 => i1 | 2 => i2 | 3 => i3 | 4 => i4 | 5 => i5 | _ => i6, ?_⟩
    intro k q hq
    match k, hq with
    | 0, hq => cases hq; exact k0
    | 1, hq => cases hq; exact k1
    | 2, hq => cases hq; exact k2
    | 3, hq => cases hq; exact k3
    | 4, hq => cases hq; exact k4
    | 5, hq => cases hq; exact k5
    | 6, hq => cases hq; exact k6
    | k + 7, hq => simp [vwCl] at hq
  obtain ⟨cI, kI, compI, f1, f2, f3⟩ := Cond.arrayClass_spec (hts _ e_int)
  obtain ⟨comp, cQ, kQ, g1, g2, g3, g4, g5⟩ := Cond.arrayOver_spec (hts _ e_ref)
  refine ⟨(s.heap.size, (cI, cQ), (dC, dI), vwCl, RX6), rfl, rfl, rfl, ⟨hKc, fun k q hq => ?_⟩, fun w hw => e_nestW hw (hts w (e_nest w hw))⟩
  match k, hq with
  | 0, hq => cases hq; exact ⟨fun N z => ⟨fun k h => (by cases h), kI, f2, compI, f3⟩, f1⟩
  | 1, hq => cases hq; exact ⟨fun N z => ⟨fun k h => (by cases h), kQ, g3, comp, g4⟩, kQ, comp, g3, g4, g1, g5⟩
  | k + 2, hq => simp at hq
