/-! MY ROWS OF CALLS, WRITES AND RETURNS (own work) -/
/-- a method's contract: its function over the store -/
def sMet (cl : List vw_C) (comp : String) (y : MethodName) (ws : List Cond) (fr lo : Nat) (sem : sSem) : Prop :=
  ∀ (args : List Value) (σ : sSt) (v : Option Value) (σ' : sSt), sem args σ = some (v, σ') → s_le σ σ' ∧ ∀ (l : Launch) (G : sGeo), G.2.2.2.1 = cl → G.2.2.2.2 = comp →
    Met l y ws { frames := fr, cells := σ'.1.length - σ.1.length, slots := σ'.2 - σ.2, locals := lo } (va_Pc (args.map (s_cv G.1)) (fun U => s_Rel G σ U.heap ∧ s_Kn G U)) (s_Qc G v σ') (σ'.1.length - σ.1.length) (σ'.2 - σ.2) (fun q => G.1 ≤ q)
/-- the receiver of a method of objects -/
def s_Rcv (ci : Nat) (sem : sSem) : Prop := ∀ (args : List Value) (σ : sSt) (r : Option Value × sSt), sem args σ = some r → ∃ (b : Nat) (As : List Value) (fs : List Value), args = .ref b :: As ∧ σ.1[b]? = some (.inl (ci, fs))
section
variable {p : Program} {l : Launch} {e : Jvm.Env} {R : Room} {s : State} {m : MethodId} {args : Array Value} {below : List Frame} {meth : Method} {c : Code} {H : Heap} {locs : List Loc} {cells slots mc ms : Nat} {Q : State → Prop} {pc : Nat} {ls : Array Slot} {st0 rest : List Value}
/-- behind a call -/
theorem a_after {G : sGeo} {v : Option Value} {σ' : sSt} {a : Array Value} {H0 : Heap} (hr : va_Run p l e R s m args below meth c H locs cells slots mc ms (F0 m pc ls st0) rest (s_Qc G v σ' a) (fun q => G.1 ≤ q)) (hS : va_S (fun q => G.1 ≤ q) H0 H locs)
    (kk : ∀ (H1 : Heap) (locs1 : List Loc), s_Rel G σ' H1 → va_S (fun q => G.1 ≤ q) H0 H1 locs1 → W p l e R s m args below meth c H1 locs1 (cells + mc) (slots + ms) Q (F0 m (pc + 3) ls ((v.map (s_cv G.1)).toList ++ rest))) : W p l e R s m args below meth c H locs cells slots Q (F0 m pc ls st0) := by
  intro T hT X
  obtain ⟨w, st₀, t, T', L, h0, X', hL, e1, e2, ⟨hv, hrel, hz, hk⟩, st⟩ := hr T hT X
  cases hv
  rw [h0] at hz hk
  obtain ⟨t2, a1, b1⟩ := kk T'.heap (locs ++ L) (by rw [e1]; exact hrel)
    ⟨Nat.le_trans hS.1 (by rw [e1]; exact hz), fun q h1 h2 => by rw [e1, hk q (Nat.lt_of_lt_of_le h1 hS.1) h2]; exact hS.2.1 q h1 h2, fun q hq => by
      rcases List.mem_append.mp hq with h | h
      · exact hS.2.2 q h
      · exact hL q h⟩ T' rfl X'
  exact ⟨t2, st t2 a1, b1⟩
end
theorem s_Rel_calling {G : sGeo} {σ : sSt} {args : List Value} : FrameBlind (va_Pc (args.map (s_cv G.1)) (fun U => s_Rel G σ U.heap ∧ s_Kn G U)) := by
  intro a U g mk q
  obtain ⟨q0, q1, q2⟩ := q
  exact ⟨q0, q1, va_K.moved (u := U) (U := U.calling g mk a) (Vm.Alike.refl U.vm) q2.1, fun w hw => s_nest_same (s_nest_ok w hw) (s := U) (U := U.calling g mk a) rfl (q2.2 w hw)⟩
theorem s_ws_conc {b : Nat} {st : List Value} : (((st.map (s_cv b)).map fun v => v.category)).sum = s_ws st := by
  unfold s_ws
  rw [List.map_map]
  congr 1
  exact List.map_congr_left (fun v _ => s_cv_cat b v)

theorem a_callV {y : sCy} {cc : ByteArray} {ws : List Cond} {own : String} {ret : Option FieldType} {fr lo nL' : Nat} (hg : s_Gd y cc ws own ret fr lo nL') {pc : Nat} {L stk : List Value} {σ : sSt} {cl : List vw_C} {comp : String} (hcl : s_cl y = cl) (hcm : s_comp y = comp) {ym : MethodName} {wm wm' : List Cond} {frm lom maxL n index : Nat} {bytes : ByteArray} {rt : Option FieldType} {sem : sSem} (hM : sMet cl comp ym wm frm lom sem) {C : String} {ci cN : Nat} {cT : u_T} (hcC : cl[ci]? = some (C, cT, cN)) (hG : GoodIn ws (wsV own index C ym wm)) (hw : wm = Cond.code ym bytes maxL rt :: wm') (hd0 : ym.cls = C ∧ ym.cls ≠ "java/lang/invoke/MethodHandle" ∧ ym.cls ≠ "java/lang/invoke/VarHandle" ∧ (parseMethodDescriptor ym.desc).map (fun d => d.parameters.length) = some n) (hfr : frm + 1 ≤ fr) (hlo : 8 + (maxL + 11) + lom ≤ lo) (hd : decode cc pc = .ok (.invokevirtual index, 3)) {b : Nat} {As fs : List Value} {v : Option Value} {σ1 : sSt} (hb0 : σ.1[b]? = some (.inl (ci, fs))) (hn : As.length = n) (hsem : sem (.ref b :: As) σ = some (v, σ1)) (hE : s_le σ1 (s_sE y)) (hws : s_ws stk ≤ 8) (k : s_AW y (pc + 3) L (v.toList ++ stk) σ1) : s_AW y pc L (As.reverse ++ .ref b :: stk) σ := by
  obtain ⟨p, l, e, R, s, m, args, below, meth, c, G, nL, σ0, vE, σE⟩ := y
  obtain ⟨hx, hb, hml, hown, hts, ⟨hK, hNw⟩, hlk, hr, hR, hnL⟩ := hg
  have hE2 : s_le σ1 σE := hE
  intro H locs ls h
  obtain ⟨hle, hMm⟩ := hM _ _ _ _ hsem
  have hMm := hMm l G hcl hcm
  have hcells : σ.1.length - σ0.1.length + (σ1.1.length - σ.1.length) = σ1.1.length - σ0.1.length := by have := hle.1; have := h.2.2.2.1; omega
  have hslots : σ.2 - σ0.2 + (σ1.2 - σ.2) = σ1.2 - σ0.2 := by have := hle.2; have := h.2.2.2.2; omega
  have hroom : σ.1.length - σ0.1.length + (σ1.1.length - σ.1.length) ≤ R.cells ∧ σ.2 - σ0.2 + (σ1.2 - σ.2) ≤ R.slots := by
    rw [hcells, hslots, hR]
    exact ⟨Nat.sub_le_sub_right hE2.1 _, Nat.sub_le_sub_right hE2.2 _⟩
  have hP1 := s_one h.1 hb0
  have hcl2 : G.2.2.2.1[ci]? = some (C, cT, cN) := by rw [show G.2.2.2.1 = cl from hcl]; exact hcC
  have hrun := va_runV (rest := stk.map (s_cv G.1)) (As := As.map (s_cv G.1)) (b := G.1 + b) (locs := locs) (cells := σ.1.length - σ0.1.length) (slots := σ.2 - σ0.2) (p := p) (l := l) (e := e) (R := R) (s := s) (m := m) (args := args) (below := below) (meth := meth) (c := c) (H := H) (g := F0 m pc ls ((As.reverse ++ .ref b :: stk).map (s_cv G.1))) ⟨hx, hb, hml, hown, hts⟩ hMm (cwV n hts hG hw rfl rfl hd0 (by rw [hR]; exact ⟨hfr, hlo⟩)) ⟨s_Rel_calling (args := .ref b :: As), va_recv hK hP1 (ci := ci) (q0 := 0) hcl2 rfl, fun U hU hW => ⟨rfl, by rw [hU]; exact h.1, s_Kn.warm hW ⟨hK, hNw⟩⟩⟩ rfl (by rw [List.length_map]; exact hn) h.2.2.1.size (by show (As.reverse ++ .ref b :: stk).map (s_cv G.1) = _; rw [List.map_append, List.map_reverse]; rfl) (lv_room (by rw [s_ws_conc]; exact hws)) hd hroom
  refine a_after hrun h.2.1 (fun H1 locs1 hrel hS1 => ?_)
  rw [hcells, hslots]
  have kk := k H1 locs1 ls ⟨hrel, hS1, h.2.2.1, h.2.2.2.tr hle⟩
  rw [List.map_append] at kk
  have e : (v.toList.map (s_cv G.1)) = (v.map (s_cv G.1)).toList := by cases v <;> rfl
  rw [e] at kk
  exact kk
theorem a_callS {y : sCy} {cc : ByteArray} {ws : List Cond} {own : String} {ret : Option FieldType} {fr lo nL' : Nat} (hg : s_Gd y cc ws own ret fr lo nL') {pc : Nat} {L stk : List Value} {σ : sSt} {cl : List vw_C} {comp : String} (hcl : s_cl y = cl) (hcm : s_comp y = comp) {ym : MethodName} {wm wm' : List Cond} {frm lom maxL n index : Nat} {bytes : ByteArray} {rt : Option FieldType} {sem : sSem} (hM : sMet cl comp ym wm frm lom sem) (hG : GoodIn ws (va_wsS own index ym wm)) (hw : wm = Cond.code ym bytes maxL rt :: wm') (hd0 : ym.cls ≠ "java/lang/invoke/MethodHandle" ∧ ym.cls ≠ "java/lang/invoke/VarHandle" ∧ (parseMethodDescriptor ym.desc).map (fun d => d.parameters.length) = some n) (hfr : frm + 1 ≤ fr) (hlo : 8 + (maxL + 11) + lom ≤ lo) (hd : decode cc pc = .ok (.invokestatic index, 3)) {As : List Value} {v : Option Value} {σ1 : sSt} (hn : As.length = n) (hsem : sem As σ = some (v, σ1)) (hE : s_le σ1 (s_sE y)) (hws : s_ws stk ≤ 8) (k : s_AW y (pc + 3) L (v.toList ++ stk) σ1) : s_AW y pc L (As.reverse ++ stk) σ := by
  obtain ⟨p, l, e, R, s, m, args, below, meth, c, G, nL, σ0, vE, σE⟩ := y
  obtain ⟨hx, hb, hml, hown, hts, ⟨hK, hNw⟩, hlk, hr, hR, hnL⟩ := hg
  have hE2 : s_le σ1 σE := hE
  intro H locs ls h
  obtain ⟨hle, hMm⟩ := hM _ _ _ _ hsem
  have hMm := hMm l G hcl hcm
  have hcells : σ.1.length - σ0.1.length + (σ1.1.length - σ.1.length) = σ1.1.length - σ0.1.length := by have := hle.1; have := h.2.2.2.1; omega
  have hslots : σ.2 - σ0.2 + (σ1.2 - σ.2) = σ1.2 - σ0.2 := by have := hle.2; have := h.2.2.2.2; omega
  have hroom : σ.1.length - σ0.1.length + (σ1.1.length - σ.1.length) ≤ R.cells ∧ σ.2 - σ0.2 + (σ1.2 - σ.2) ≤ R.slots := by
    rw [hcells, hslots, hR]
    exact ⟨Nat.sub_le_sub_right hE2.1 _, Nat.sub_le_sub_right hE2.2 _⟩
  have hrun := va_runS (rest := stk.map (s_cv G.1)) (As := As.map (s_cv G.1)) (locs := locs) (cells := σ.1.length - σ0.1.length) (slots := σ.2 - σ0.2) (p := p) (l := l) (e := e) (R := R) (s := s) (m := m) (args := args) (below := below) (meth := meth) (c := c) (H := H) (g := F0 m pc ls ((As.reverse ++ stk).map (s_cv G.1))) ⟨hx, hb, hml, hown, hts⟩ hMm (va_cwS n hts hG hw rfl rfl hd0 (by rw [hR]; exact ⟨hfr, hlo⟩)) ⟨s_Rel_calling (args := As), fun U hU hW => ⟨rfl, by rw [hU]; exact h.1, s_Kn.warm hW ⟨hK, hNw⟩⟩⟩ rfl (by rw [List.length_map]; exact hn) h.2.2.1.size (by show (As.reverse ++ stk).map (s_cv G.1) = _; rw [List.map_append, List.map_reverse]) (lv_room (by rw [s_ws_conc]; exact hws)) hd hroom
  refine a_after hrun h.2.1 (fun H1 locs1 hrel hS1 => ?_)
  rw [hcells, hslots]
  have kk := k H1 locs1 ls ⟨hrel, hS1, h.2.2.1, h.2.2.2.tr hle⟩
  rw [List.map_append] at kk
  have e : (v.toList.map (s_cv G.1)) = (v.map (s_cv G.1)).toList := by cases v <;> rfl
  rw [e] at kk
  exact kk
theorem a_callI {y : sCy} {cc : ByteArray} {ws : List Cond} {own : String} {ret : Option FieldType} {fr lo nL' : Nat} (hg : s_Gd y cc ws own ret fr lo nL') {pc : Nat} {L stk : List Value} {σ : sSt} {cl : List vw_C} {comp : String} (hcl : s_cl y = cl) (hcm : s_comp y = comp) {ym : MethodName} {wm wm' : List Cond} {frm lom maxL n index : Nat} {bytes : ByteArray} {rt : Option FieldType} {sem : sSem} (hM : sMet cl comp ym wm frm lom sem) (hG : GoodIn ws wm) (hw : wm = Cond.code ym bytes maxL none :: wm') (hi0 : ym.name = "<init>") (hini : Cond.initialized ym.cls ∈ ws) (hl : Cond.methodLink own index ym ∈ ws) (hins : Cond.instanceMethod ym ∈ ws) (hd0 : ym.cls ≠ "java/lang/invoke/MethodHandle" ∧ ym.cls ≠ "java/lang/invoke/VarHandle" ∧ (parseMethodDescriptor ym.desc).map (fun d => d.parameters.length) = some n) (hfr : frm + 1 ≤ fr) (hlo : 8 + (maxL + 11) + lom ≤ lo) (hd : decode cc pc = .ok (.invokespecial index, 3)) {b : Nat} {As : List Value} {v : Option Value} {σ1 : sSt} (hn : As.length = n) (hsem : sem (.ref b :: As) σ = some (v, σ1)) (hE : s_le σ1 (s_sE y)) (hws : s_ws stk ≤ 8) (k : s_AW y (pc + 3) L (v.toList ++ stk) σ1) : s_AW y pc L (As.reverse ++ .ref b :: stk) σ := by
  obtain ⟨p, l, e, R, s, m, args, below, meth, c, G, nL, σ0, vE, σE⟩ := y
  obtain ⟨hx, hb, hml, hown, hts, ⟨hK, hNw⟩, hlk, hr, hR, hnL⟩ := hg
  have hE2 : s_le σ1 σE := hE
  intro H locs ls h
  obtain ⟨hle, hMm⟩ := hM _ _ _ _ hsem
  have hMm := hMm l G hcl hcm
  have hcells : σ.1.length - σ0.1.length + (σ1.1.length - σ.1.length) = σ1.1.length - σ0.1.length := by have := hle.1; have := h.2.2.2.1; omega
  have hslots : σ.2 - σ0.2 + (σ1.2 - σ.2) = σ1.2 - σ0.2 := by have := hle.2; have := h.2.2.2.2; omega
  have hroom : σ.1.length - σ0.1.length + (σ1.1.length - σ.1.length) ≤ R.cells ∧ σ.2 - σ0.2 + (σ1.2 - σ.2) ≤ R.slots := by
    rw [hcells, hslots, hR]
    exact ⟨Nat.sub_le_sub_right hE2.1 _, Nat.sub_le_sub_right hE2.2 _⟩
  have hrun := va_runI (n := n) (rest := stk.map (s_cv G.1)) (As := As.map (s_cv G.1)) (b := G.1 + b) (locs := locs) (cells := σ.1.length - σ0.1.length) (slots := σ.2 - σ0.2) (p := p) (l := l) (e := e) (R := R) (s := s) (m := m) (args := args) (below := below) (meth := meth) (c := c) (H := H) (g := F0 m pc ls ((As.reverse ++ .ref b :: stk).map (s_cv G.1))) ⟨hx, hb, hml, hown, hts⟩ hMm (cwI n hts hG hw rfl rfl (hts _ hini) (hts _ hl) (hts _ hins) hi0 hd0 (by rw [hR]; exact ⟨hfr, hlo⟩)) ⟨s_Rel_calling (args := .ref b :: As), fun U hU hW => ⟨rfl, by rw [hU]; exact h.1, s_Kn.warm hW ⟨hK, hNw⟩⟩⟩ rfl (by rw [List.length_map]; exact hn) h.2.2.1.size (by show (As.reverse ++ .ref b :: stk).map (s_cv G.1) = _; rw [List.map_append, List.map_reverse]; rfl) (lv_room (by rw [s_ws_conc]; exact hws)) hd hroom
  refine a_after hrun h.2.1 (fun H1 locs1 hrel hS1 => ?_)
  rw [hcells, hslots]
  have kk := k H1 locs1 ls ⟨hrel, hS1, h.2.2.1, h.2.2.2.tr hle⟩
  rw [List.map_append] at kk
  have e : (v.toList.map (s_cv G.1)) = (v.map (s_cv G.1)).toList := by cases v <;> rfl
  rw [e] at kk
  exact kk
theorem a_callSN {y : sCy} {cc : ByteArray} {ws : List Cond} {own : String} {ret : Option FieldType} {fr lo nL' : Nat} (hg : s_Gd y cc ws own ret fr lo nL') {pc : Nat} {L stk : List Value} {σ : sSt} {cl : List vw_C} {comp : String} (hcl : s_cl y = cl) (hcm : s_comp y = comp) {ym : MethodName} {wm wm' : List Cond} {frm lom maxL n index : Nat} {bytes : ByteArray} {rt : Option FieldType} {sem : sSem} (hM : sMet cl comp ym wm frm lom sem) {host : String} (hG : GoodIn ws wm) (hnest : Cond.methodLinkNest own index ym host ∈ s_nest) (hst : Cond.static ym ∈ ws) (hini : Cond.initialized ym.cls ∈ ws) (hw : wm = Cond.code ym bytes maxL rt :: wm') (hd0 : ym.cls ≠ "java/lang/invoke/MethodHandle" ∧ ym.cls ≠ "java/lang/invoke/VarHandle" ∧ (parseMethodDescriptor ym.desc).map (fun d => d.parameters.length) = some n) (hfr : frm + 1 ≤ fr) (hlo : 8 + (maxL + 11) + lom ≤ lo) (hd : decode cc pc = .ok (.invokestatic index, 3)) {As : List Value} {v : Option Value} {σ1 : sSt} (hn : As.length = n) (hsem : sem As σ = some (v, σ1)) (hE : s_le σ1 (s_sE y)) (hws : s_ws stk ≤ 8) (k : s_AW y (pc + 3) L (v.toList ++ stk) σ1) : s_AW y pc L (As.reverse ++ stk) σ := by
  obtain ⟨p, l, e, R, s, m, args, below, meth, c, G, nL, σ0, vE, σE⟩ := y
  obtain ⟨hx, hb, hml, hown, hts, ⟨hK, hNw⟩, hlk, hr, hR, hnL⟩ := hg
  have hE2 : s_le σ1 σE := hE
  intro H locs ls h
  obtain ⟨hle, hMm⟩ := hM _ _ _ _ hsem
  have hMm := hMm l G hcl hcm
  have hcells : σ.1.length - σ0.1.length + (σ1.1.length - σ.1.length) = σ1.1.length - σ0.1.length := by have := hle.1; have := h.2.2.2.1; omega
  have hslots : σ.2 - σ0.2 + (σ1.2 - σ.2) = σ1.2 - σ0.2 := by have := hle.2; have := h.2.2.2.2; omega
  have hroom : σ.1.length - σ0.1.length + (σ1.1.length - σ.1.length) ≤ R.cells ∧ σ.2 - σ0.2 + (σ1.2 - σ.2) ≤ R.slots := by
    rw [hcells, hslots, hR]
    exact ⟨Nat.sub_le_sub_right hE2.1 _, Nat.sub_le_sub_right hE2.2 _⟩
  have hrun := va_runSN (rest := stk.map (s_cv G.1)) (As := As.map (s_cv G.1)) (locs := locs) (cells := σ.1.length - σ0.1.length) (slots := σ.2 - σ0.2) (p := p) (l := l) (e := e) (R := R) (s := s) (m := m) (args := args) (below := below) (meth := meth) (c := c) (H := H) (g := F0 m pc ls ((As.reverse ++ stk).map (s_cv G.1))) ⟨hx, hb, hml, hown, hts⟩ hMm ⟨va_cnB n hts hG hw rfl rfl (hNw _ hnest) (hts _ hini) hd0 (by rw [hR]; exact ⟨hfr, hlo⟩), hts _ hst, trivial⟩ ⟨s_Rel_calling (args := As), fun U hU hW => ⟨rfl, by rw [hU]; exact h.1, s_Kn.warm hW ⟨hK, hNw⟩⟩⟩ rfl (by rw [List.length_map]; exact hn) h.2.2.1.size (by show (As.reverse ++ stk).map (s_cv G.1) = _; rw [List.map_append, List.map_reverse]) (lv_room (by rw [s_ws_conc]; exact hws)) hd hroom
  refine a_after hrun h.2.1 (fun H1 locs1 hrel hS1 => ?_)
  rw [hcells, hslots]
  have kk := k H1 locs1 ls ⟨hrel, hS1, h.2.2.1, h.2.2.2.tr hle⟩
  rw [List.map_append] at kk
  have e : (v.toList.map (s_cv G.1)) = (v.map (s_cv G.1)).toList := by cases v <;> rfl
  rw [e] at kk
  exact kk
theorem a_end {y : sCy} {pc : Nat} {L stk : List Value} (k : ∀ (H : Heap) (locs : List Loc) (ls : Array Slot), True → s_AW y pc L stk (s_sE y)) : s_AW y pc L stk (s_sE y) := fun H locs ls h => k H locs ls trivial H locs ls h
theorem a_retI {y : sCy} {cc : ByteArray} {ws : List Cond} {own : String} {ret : Option FieldType} {fr lo nL' : Nat} (hg : s_Gd y cc ws own ret fr lo nL') {pc : Nat} {L stk : List Value} {σ : sSt} {v : Int32} (hret : ret = some .int) (hd : decode cc pc = .ok (.ireturn, 1)) (hvE : some (Value.int v) = s_vE y) (hσ : σ = s_sE y) : s_AW y pc L [Value.int v] σ := by
  obtain ⟨p, l, e, R, s, m, args, below, meth, c, G, nL, σ0, vE, σE⟩ := y
  obtain ⟨hx, hb, hml, hown, hts, ⟨hK, hNw⟩, hlk, hr, hR, hnL⟩ := hg
  have hvE : some (Value.int v) = vE := hvE
  have hσ : σ = σE := hσ
  subst hσ hvE
  intro H locs ls h
  exact W.iret hx hb (by rw [hr]; exact hret) (fun t ht hW => ⟨rfl, by rw [ht]; exact h.1, h.2.1.F ht⟩) h.2.1.2.2 hd
theorem a_retZ {y : sCy} {cc : ByteArray} {ws : List Cond} {own : String} {ret : Option FieldType} {fr lo nL' : Nat} (hg : s_Gd y cc ws own ret fr lo nL') {pc : Nat} {L stk : List Value} {σ : sSt} {v : Int32} (hv : v = 0 ∨ v = 1) (hret : ret = some .boolean) (hd : decode cc pc = .ok (.ireturn, 1)) (hvE : some (Value.int v) = s_vE y) (hσ : σ = s_sE y) : s_AW y pc L [Value.int v] σ := by
  obtain ⟨p, l, e, R, s, m, args, below, meth, c, G, nL, σ0, vE, σE⟩ := y
  obtain ⟨hx, hb, hml, hown, hts, ⟨hK, hNw⟩, hlk, hr, hR, hnL⟩ := hg
  have hvE : some (Value.int v) = vE := hvE
  have hσ : σ = σE := hσ
  subst hσ hvE
  intro H locs ls h
  exact W.zret (ty := .boolean) hx hb (by rw [hr]; exact hret) (by rcases hv with rfl | rfl <;> rfl) (fun t ht hW => ⟨rfl, by rw [ht]; exact h.1, h.2.1.F ht⟩) h.2.1.2.2 hd
theorem a_retD {y : sCy} {cc : ByteArray} {ws : List Cond} {own : String} {ret : Option FieldType} {fr lo nL' : Nat} (hg : s_Gd y cc ws own ret fr lo nL') {pc : Nat} {L stk : List Value} {σ : sSt} {v : UInt64} (hret : ret = some .double) (hd : decode cc pc = .ok (.dreturn, 1)) (hvE : some (Value.double v) = s_vE y) (hσ : σ = s_sE y) : s_AW y pc L [Value.double v] σ := by
  obtain ⟨p, l, e, R, s, m, args, below, meth, c, G, nL, σ0, vE, σE⟩ := y
  obtain ⟨hx, hb, hml, hown, hts, ⟨hK, hNw⟩, hlk, hr, hR, hnL⟩ := hg
  have hvE : some (Value.double v) = vE := hvE
  have hσ : σ = σE := hσ
  subst hσ hvE
  intro H locs ls h
  exact W.dret hx hb (by rw [hr]; exact hret) (fun t ht hW => ⟨rfl, by rw [ht]; exact h.1, h.2.1.F ht⟩) h.2.1.2.2 hd
theorem a_ret0 {y : sCy} {cc : ByteArray} {ws : List Cond} {own : String} {ret : Option FieldType} {fr lo nL' : Nat} (hg : s_Gd y cc ws own ret fr lo nL') {pc : Nat} {L stk : List Value} {σ : sSt} (hret : ret = none) (hd : decode cc pc = .ok (.return_, 1)) (hvE : none = s_vE y) (hσ : σ = s_sE y) : s_AW y pc L [] σ := by
  obtain ⟨p, l, e, R, s, m, args, below, meth, c, G, nL, σ0, vE, σE⟩ := y
  obtain ⟨hx, hb, hml, hown, hts, ⟨hK, hNw⟩, hlk, hr, hR, hnL⟩ := hg
  have hvE : none = vE := hvE
  have hσ : σ = σE := hσ
  subst hσ hvE
  intro H locs ls h
  exact W.vret hx hb (by rw [hr]; exact hret) (fun t ht hW => ⟨rfl, by rw [ht]; exact h.1, h.2.1.F ht⟩) h.2.1.2.2 hd
theorem a_retR {y : sCy} {cc : ByteArray} {ws : List Cond} {own : String} {ret : Option FieldType} {fr lo nL' : Nat} (hg : s_Gd y cc ws own ret fr lo nL') {pc : Nat} {L stk : List Value} {σ : sSt} {v : Option Nat} {rt : FieldType} (hret : ret = some rt) (hrt : (∃ n, rt = .object n) ∨ ∃ t, rt = .array t) (hd : decode cc pc = .ok (.areturn, 1)) (hvE : some (va_rf v) = s_vE y) (hσ : σ = s_sE y) : s_AW y pc L [va_rf v] σ := by
  obtain ⟨p, l, e, R, s, m, args, below, meth, c, G, nL, σ0, vE, σE⟩ := y
  obtain ⟨hx, hb, hml, hown, hts, ⟨hK, hNw⟩, hlk, hr, hR, hnL⟩ := hg
  have hvE : some (va_rf v) = vE := hvE
  have hσ : σ = σE := hσ
  subst hσ hvE
  intro H locs ls h
  exact W.aret hx hb (by rw [hr]; exact hret) hrt (by cases v with | none => exact Or.inl rfl | some k => exact Or.inr ⟨_, rfl⟩) (fun t ht hW => ⟨rfl, by rw [ht]; exact h.1, h.2.1.F ht⟩) h.2.1.2.2 hd
/-- how many values the arguments are -/
def s_Len (n : Nat) (E : sEx (List Value)) : Prop := ∀ (L : List Value) (σ : sSt) (r : List Value × sSt), E L σ = some r → r.1.length = n
theorem s_Len0 : s_Len 0 a_nil := by
  intro L σ r h
  cases h
  rfl
theorem s_LenI {n : Nat} {A : sEx Int32} {As : sEx (List Value)} (h : s_Len n As) : s_Len (n + 1) (a_ci A As) := by
  intro L σ r q
  obtain ⟨a, h1, q⟩ := s_bind q
  obtain ⟨b, h2, q⟩ := s_bind q
  cases q
  show b.1.length + 1 = n + 1
  rw [h _ _ _ h2]
theorem s_LenR {n : Nat} {A : sEx (Option Nat)} {As : sEx (List Value)} (h : s_Len n As) : s_Len (n + 1) (a_cr A As) := by
  intro L σ r q
  obtain ⟨a, h1, q⟩ := s_bind q
  obtain ⟨b, h2, q⟩ := s_bind q
  cases q
  show b.1.length + 1 = n + 1
  rw [h _ _ _ h2]
theorem sk_V {κ : sCtx} {d pc0 pcA pc1 : Nat} {As : sEx (List Value)} {ym : MethodName} {wm wm' : List Cond} {frm lom maxL n index : Nat} {bytes : ByteArray} {rt : Option FieldType} {sem : sSem} {C : String} {ci cN : Nat} {cT : u_T} (hA : sSA κ d pc0 pcA As) (hM : sMet κ.2.2.2.2.2.2.2.1 κ.2.2.2.2.2.2.2.2.1 ym wm frm lom sem) (hR : s_Rcv ci sem) (hcC : κ.2.2.2.2.2.2.2.1[ci]? = some (C, cT, cN)) (hG : GoodIn κ.2.1 (wsV κ.2.2.1 index C ym wm)) (hw : wm = Cond.code ym bytes maxL rt :: wm') (hd0 : ym.cls = C ∧ ym.cls ≠ "java/lang/invoke/MethodHandle" ∧ ym.cls ≠ "java/lang/invoke/VarHandle" ∧ (parseMethodDescriptor ym.desc).map (fun d => d.parameters.length) = some n) (hfr : frm + 1 ≤ κ.2.2.2.2.1) (hlo : 8 + (maxL + 11) + lom ≤ κ.2.2.2.2.2.1) (hln : s_Len (n + 1) As) (h8 : d ≤ 8) (hd : decode κ.1 pcA = .ok (.invokevirtual index, 3)) (hp : pcA + 3 = pc1) {L vs : List Value} {σ σ1 σ2 : sSt} {v : Option Value} (h1 : As L σ = some (vs, σ1)) (h2 : sem vs σ1 = some (v, σ2)) : s_le σ σ2 ∧ ∀ y : sCy, s_G2 y κ → ∀ st : List Value, s_ws st ≤ d → s_le σ2 (s_sE y) → s_AW y pc1 L (v.toList ++ st) σ2 → s_AW y pc0 L st σ := by
  obtain ⟨l1, c1, k1⟩ := hA _ _ _ _ h1
  obtain ⟨b, As', fs, e1, e2⟩ := hR _ _ _ h2
  subst e1 hp
  have hlen : As'.length = n := by have := hln _ _ _ h1; simpa using this
  have l2 := (hM _ _ _ _ h2).1
  exact ⟨l1.tr l2, fun y hy st hs hE k => k1 y hy st hs (l2.tr hE) (by simpa using a_callV hy.1 hy.2.1 hy.2.2.1 hM hcC hG hw hd0 hfr hlo hd e2 hlen h2 hE (Nat.le_trans hs h8) k)⟩
theorem sk_S {κ : sCtx} {d pc0 pcA pc1 : Nat} {As : sEx (List Value)} {ym : MethodName} {wm wm' : List Cond} {frm lom maxL n index : Nat} {bytes : ByteArray} {rt : Option FieldType} {sem : sSem} (hA : sSA κ d pc0 pcA As) (hM : sMet κ.2.2.2.2.2.2.2.1 κ.2.2.2.2.2.2.2.2.1 ym wm frm lom sem) (hG : GoodIn κ.2.1 (va_wsS κ.2.2.1 index ym wm)) (hw : wm = Cond.code ym bytes maxL rt :: wm') (hd0 : ym.cls ≠ "java/lang/invoke/MethodHandle" ∧ ym.cls ≠ "java/lang/invoke/VarHandle" ∧ (parseMethodDescriptor ym.desc).map (fun d => d.parameters.length) = some n) (hfr : frm + 1 ≤ κ.2.2.2.2.1) (hlo : 8 + (maxL + 11) + lom ≤ κ.2.2.2.2.2.1) (hln : s_Len n As) (h8 : d ≤ 8) (hd : decode κ.1 pcA = .ok (.invokestatic index, 3)) (hp : pcA + 3 = pc1) {L vs : List Value} {σ σ1 σ2 : sSt} {v : Option Value} (h1 : As L σ = some (vs, σ1)) (h2 : sem vs σ1 = some (v, σ2)) : s_le σ σ2 ∧ ∀ y : sCy, s_G2 y κ → ∀ st : List Value, s_ws st ≤ d → s_le σ2 (s_sE y) → s_AW y pc1 L (v.toList ++ st) σ2 → s_AW y pc0 L st σ := by
  obtain ⟨l1, c1, k1⟩ := hA _ _ _ _ h1
  subst hp
  have hlen : vs.length = n := hln _ _ _ h1
  have l2 := (hM _ _ _ _ h2).1
  exact ⟨l1.tr l2, fun y hy st hs hE k => k1 y hy st hs (l2.tr hE) (a_callS hy.1 hy.2.1 hy.2.2.1 hM hG hw hd0 hfr hlo hd hlen h2 hE (Nat.le_trans hs h8) k)⟩
theorem sk_N {κ : sCtx} {d pc0 pcA pc1 : Nat} {As : sEx (List Value)} {ym : MethodName} {wm wm' : List Cond} {frm lom maxL n index : Nat} {bytes : ByteArray} {rt : Option FieldType} {sem : sSem} {host : String} (hA : sSA κ d pc0 pcA As) (hM : sMet κ.2.2.2.2.2.2.2.1 κ.2.2.2.2.2.2.2.2.1 ym wm frm lom sem) (hG : GoodIn κ.2.1 wm) (hnest : Cond.methodLinkNest κ.2.2.1 index ym host ∈ s_nest) (hst : Cond.static ym ∈ κ.2.1) (hini : Cond.initialized ym.cls ∈ κ.2.1) (hw : wm = Cond.code ym bytes maxL rt :: wm') (hd0 : ym.cls ≠ "java/lang/invoke/MethodHandle" ∧ ym.cls ≠ "java/lang/invoke/VarHandle" ∧ (parseMethodDescriptor ym.desc).map (fun d => d.parameters.length) = some n) (hfr : frm + 1 ≤ κ.2.2.2.2.1) (hlo : 8 + (maxL + 11) + lom ≤ κ.2.2.2.2.2.1) (hln : s_Len n As) (h8 : d ≤ 8) (hd : decode κ.1 pcA = .ok (.invokestatic index, 3)) (hp : pcA + 3 = pc1) {L vs : List Value} {σ σ1 σ2 : sSt} {v : Option Value} (h1 : As L σ = some (vs, σ1)) (h2 : sem vs σ1 = some (v, σ2)) : s_le σ σ2 ∧ ∀ y : sCy, s_G2 y κ → ∀ st : List Value, s_ws st ≤ d → s_le σ2 (s_sE y) → s_AW y pc1 L (v.toList ++ st) σ2 → s_AW y pc0 L st σ := by
  obtain ⟨l1, c1, k1⟩ := hA _ _ _ _ h1
  subst hp
  have hlen : vs.length = n := hln _ _ _ h1
  have l2 := (hM _ _ _ _ h2).1
  exact ⟨l1.tr l2, fun y hy st hs hE k => k1 y hy st hs (l2.tr hE) (a_callSN hy.1 hy.2.1 hy.2.2.1 hM hG hnest hst hini hw hd0 hfr hlo hd hlen h2 hE (Nat.le_trans hs h8) k)⟩
theorem se_callNI {κ : sCtx} {d pc0 pcA pc1 : Nat} {As : sEx (List Value)} {ym : MethodName} {wm wm' : List Cond} {frm lom maxL n index : Nat} {bytes : ByteArray} {rt : Option FieldType} {sem : sSem} {host : String} (hA : sSA κ d pc0 pcA As) (hM : sMet κ.2.2.2.2.2.2.2.1 κ.2.2.2.2.2.2.2.2.1 ym wm frm lom sem) (hG : GoodIn κ.2.1 wm) (hnest : Cond.methodLinkNest κ.2.2.1 index ym host ∈ s_nest) (hst : Cond.static ym ∈ κ.2.1) (hini : Cond.initialized ym.cls ∈ κ.2.1) (hw : wm = Cond.code ym bytes maxL rt :: wm') (hd0 : ym.cls ≠ "java/lang/invoke/MethodHandle" ∧ ym.cls ≠ "java/lang/invoke/VarHandle" ∧ (parseMethodDescriptor ym.desc).map (fun d => d.parameters.length) = some n) (hfr : frm + 1 ≤ κ.2.2.2.2.1) (hlo : 8 + (maxL + 11) + lom ≤ κ.2.2.2.2.2.1) (hln : s_Len n As) (h8 : d ≤ 8) (hd : decode κ.1 pcA = .ok (.invokestatic index, 3)) (hp : pcA + 3 = pc1) : sSE κ d pc0 pc1 q_i (e_callI sem As) := by
  intro L σ v σ1 h
  obtain ⟨⟨vs, σ2⟩, h1, h⟩ := s_bind h
  obtain ⟨⟨w, σ3⟩, h2, h⟩ := s_bind h
  obtain ⟨x, h3, h⟩ := s_map h
  cases h
  have h3 := v_i_some h3
  have h3 : w = _ := h3
  subst h3
  exact sk_N hA hM hG hnest hst hini hw hd0 hfr hlo hln h8 hd hp h1 h2
theorem se_callVI {κ : sCtx} {d pc0 pcA pc1 : Nat} {As : sEx (List Value)} {ym : MethodName} {wm wm' : List Cond} {frm lom maxL n index : Nat} {bytes : ByteArray} {rt : Option FieldType} {sem : sSem} {C : String} {ci cN : Nat} {cT : u_T} (hA : sSA κ d pc0 pcA As) (hM : sMet κ.2.2.2.2.2.2.2.1 κ.2.2.2.2.2.2.2.2.1 ym wm frm lom sem) (hR : s_Rcv ci sem) (hcC : κ.2.2.2.2.2.2.2.1[ci]? = some (C, cT, cN)) (hG : GoodIn κ.2.1 (wsV κ.2.2.1 index C ym wm)) (hw : wm = Cond.code ym bytes maxL rt :: wm') (hd0 : ym.cls = C ∧ ym.cls ≠ "java/lang/invoke/MethodHandle" ∧ ym.cls ≠ "java/lang/invoke/VarHandle" ∧ (parseMethodDescriptor ym.desc).map (fun d => d.parameters.length) = some n) (hfr : frm + 1 ≤ κ.2.2.2.2.1) (hlo : 8 + (maxL + 11) + lom ≤ κ.2.2.2.2.2.1) (hln : s_Len (n + 1) As) (h8 : d ≤ 8) (hd : decode κ.1 pcA = .ok (.invokevirtual index, 3)) (hp : pcA + 3 = pc1) : sSE κ d pc0 pc1 q_i (e_callI sem As) := by
  intro L σ v σ1 h
  obtain ⟨⟨vs, σ2⟩, h1, h⟩ := s_bind h
  obtain ⟨⟨w, σ3⟩, h2, h⟩ := s_bind h
  obtain ⟨x, h3, h⟩ := s_map h
  cases h
  have h3 := v_i_some h3
  have h3 : w = _ := h3
  subst h3
  exact sk_V hA hM hR hcC hG hw hd0 hfr hlo hln h8 hd hp h1 h2
theorem se_callVR {κ : sCtx} {d pc0 pcA pc1 : Nat} {As : sEx (List Value)} {ym : MethodName} {wm wm' : List Cond} {frm lom maxL n index : Nat} {bytes : ByteArray} {rt : Option FieldType} {sem : sSem} {C : String} {ci cN : Nat} {cT : u_T} (hA : sSA κ d pc0 pcA As) (hM : sMet κ.2.2.2.2.2.2.2.1 κ.2.2.2.2.2.2.2.2.1 ym wm frm lom sem) (hR : s_Rcv ci sem) (hcC : κ.2.2.2.2.2.2.2.1[ci]? = some (C, cT, cN)) (hG : GoodIn κ.2.1 (wsV κ.2.2.1 index C ym wm)) (hw : wm = Cond.code ym bytes maxL rt :: wm') (hd0 : ym.cls = C ∧ ym.cls ≠ "java/lang/invoke/MethodHandle" ∧ ym.cls ≠ "java/lang/invoke/VarHandle" ∧ (parseMethodDescriptor ym.desc).map (fun d => d.parameters.length) = some n) (hfr : frm + 1 ≤ κ.2.2.2.2.1) (hlo : 8 + (maxL + 11) + lom ≤ κ.2.2.2.2.2.1) (hln : s_Len (n + 1) As) (h8 : d ≤ 8) (hd : decode κ.1 pcA = .ok (.invokevirtual index, 3)) (hp : pcA + 3 = pc1) : sSE κ d pc0 pc1 q_r (e_callR sem As) := by
  intro L σ v σ1 h
  obtain ⟨⟨vs, σ2⟩, h1, h⟩ := s_bind h
  obtain ⟨⟨w, σ3⟩, h2, h⟩ := s_bind h
  obtain ⟨x, h3, h⟩ := s_map h
  cases h
  have h3 := v_r_some h3
  have h3 : w = _ := h3
  subst h3
  exact sk_V hA hM hR hcC hG hw hd0 hfr hlo hln h8 hd hp h1 h2
theorem ss_callVV {κ : sCtx} {pc0 pcA pc1 : Nat} {As : sEx (List Value)} {ym : MethodName} {wm wm' : List Cond} {frm lom maxL n index : Nat} {bytes : ByteArray} {rt : Option FieldType} {sem : sSem} {C : String} {ci cN : Nat} {cT : u_T} (hA : sSA κ 0 pc0 pcA As) (hM : sMet κ.2.2.2.2.2.2.2.1 κ.2.2.2.2.2.2.2.2.1 ym wm frm lom sem) (hR : s_Rcv ci sem) (hcC : κ.2.2.2.2.2.2.2.1[ci]? = some (C, cT, cN)) (hG : GoodIn κ.2.1 (wsV κ.2.2.1 index C ym wm)) (hw : wm = Cond.code ym bytes maxL rt :: wm') (hd0 : ym.cls = C ∧ ym.cls ≠ "java/lang/invoke/MethodHandle" ∧ ym.cls ≠ "java/lang/invoke/VarHandle" ∧ (parseMethodDescriptor ym.desc).map (fun d => d.parameters.length) = some n) (hfr : frm + 1 ≤ κ.2.2.2.2.1) (hlo : 8 + (maxL + 11) + lom ≤ κ.2.2.2.2.2.1) (hln : s_Len (n + 1) As) (hd : decode κ.1 pcA = .ok (.invokevirtual index, 3)) (hp : pcA + 3 = pc1) : sSS κ pc0 pc1 (s_callV sem As) := by
  intro L σ r h
  obtain ⟨⟨vs, σ2⟩, h1, h⟩ := s_bind h
  obtain ⟨⟨w, σ3⟩, h2, h⟩ := s_bind h
  have h8 : (0 : Nat) ≤ 8 := Nat.zero_le _
  cases w with
  | none =>
    cases h
    obtain ⟨l1, k1⟩ := sk_V hA hM hR hcC hG hw hd0 hfr hlo hln h8 hd hp h1 h2
    exact ⟨l1, fun y hy hE k => k1 y hy [] s_ws0 hE k⟩
  | some w => cases h
theorem ss_callPV {κ : sCtx} {pc0 pcA pcB pc1 : Nat} {As : sEx (List Value)} {ym : MethodName} {wm wm' : List Cond} {frm lom maxL n index : Nat} {bytes : ByteArray} {rt : Option FieldType} {sem : sSem} {C : String} {ci cN : Nat} {cT : u_T} (hA : sSA κ 0 pc0 pcA As) (hM : sMet κ.2.2.2.2.2.2.2.1 κ.2.2.2.2.2.2.2.2.1 ym wm frm lom sem) (hR : s_Rcv ci sem) (hcC : κ.2.2.2.2.2.2.2.1[ci]? = some (C, cT, cN)) (hG : GoodIn κ.2.1 (wsV κ.2.2.1 index C ym wm)) (hw : wm = Cond.code ym bytes maxL rt :: wm') (hd0 : ym.cls = C ∧ ym.cls ≠ "java/lang/invoke/MethodHandle" ∧ ym.cls ≠ "java/lang/invoke/VarHandle" ∧ (parseMethodDescriptor ym.desc).map (fun d => d.parameters.length) = some n) (hfr : frm + 1 ≤ κ.2.2.2.2.1) (hlo : 8 + (maxL + 11) + lom ≤ κ.2.2.2.2.2.1) (hln : s_Len (n + 1) As) (hd : decode κ.1 pcA = .ok (.invokevirtual index, 3)) (hp : pcA + 3 = pcB) (hd2 : decode κ.1 pcB = .ok (.pop, 1)) (hp2 : pcB + 1 = pc1) : sSS κ pc0 pc1 (s_callP sem As) := by
  intro L σ r h
  obtain ⟨⟨vs, σ2⟩, h1, h⟩ := s_bind h
  obtain ⟨⟨w, σ3⟩, h2, h⟩ := s_bind h
  have h8 : (0 : Nat) ≤ 8 := Nat.zero_le _
  subst hp2
  cases w with
  | none => cases h
  | some w =>
    cases w with
    | int x =>
      cases h
      obtain ⟨l1, k1⟩ := sk_V hA hM hR hcC hG hw hd0 hfr hlo hln h8 hd hp h1 h2
      exact ⟨l1, fun y hy hE k => k1 y hy [] s_ws0 hE (a_pop hy.1 hd2 rfl k)⟩
    | _ => cases h
theorem se_callSI {κ : sCtx} {d pc0 pcA pc1 : Nat} {As : sEx (List Value)} {ym : MethodName} {wm wm' : List Cond} {frm lom maxL n index : Nat} {bytes : ByteArray} {rt : Option FieldType} {sem : sSem} (hA : sSA κ d pc0 pcA As) (hM : sMet κ.2.2.2.2.2.2.2.1 κ.2.2.2.2.2.2.2.2.1 ym wm frm lom sem) (hG : GoodIn κ.2.1 (va_wsS κ.2.2.1 index ym wm)) (hw : wm = Cond.code ym bytes maxL rt :: wm') (hd0 : ym.cls ≠ "java/lang/invoke/MethodHandle" ∧ ym.cls ≠ "java/lang/invoke/VarHandle" ∧ (parseMethodDescriptor ym.desc).map (fun d => d.parameters.length) = some n) (hfr : frm + 1 ≤ κ.2.2.2.2.1) (hlo : 8 + (maxL + 11) + lom ≤ κ.2.2.2.2.2.1) (hln : s_Len n As) (h8 : d ≤ 8) (hd : decode κ.1 pcA = .ok (.invokestatic index, 3)) (hp : pcA + 3 = pc1) : sSE κ d pc0 pc1 q_i (e_callI sem As) := by
  intro L σ v σ1 h
  obtain ⟨⟨vs, σ2⟩, h1, h⟩ := s_bind h
  obtain ⟨⟨w, σ3⟩, h2, h⟩ := s_bind h
  obtain ⟨x, h3, h⟩ := s_map h
  cases h
  have h3 := v_i_some h3
  have h3 : w = _ := h3
  subst h3
  exact sk_S hA hM hG hw hd0 hfr hlo hln h8 hd hp h1 h2
theorem se_callSR {κ : sCtx} {d pc0 pcA pc1 : Nat} {As : sEx (List Value)} {ym : MethodName} {wm wm' : List Cond} {frm lom maxL n index : Nat} {bytes : ByteArray} {rt : Option FieldType} {sem : sSem} (hA : sSA κ d pc0 pcA As) (hM : sMet κ.2.2.2.2.2.2.2.1 κ.2.2.2.2.2.2.2.2.1 ym wm frm lom sem) (hG : GoodIn κ.2.1 (va_wsS κ.2.2.1 index ym wm)) (hw : wm = Cond.code ym bytes maxL rt :: wm') (hd0 : ym.cls ≠ "java/lang/invoke/MethodHandle" ∧ ym.cls ≠ "java/lang/invoke/VarHandle" ∧ (parseMethodDescriptor ym.desc).map (fun d => d.parameters.length) = some n) (hfr : frm + 1 ≤ κ.2.2.2.2.1) (hlo : 8 + (maxL + 11) + lom ≤ κ.2.2.2.2.2.1) (hln : s_Len n As) (h8 : d ≤ 8) (hd : decode κ.1 pcA = .ok (.invokestatic index, 3)) (hp : pcA + 3 = pc1) : sSE κ d pc0 pc1 q_r (e_callR sem As) := by
  intro L σ v σ1 h
  obtain ⟨⟨vs, σ2⟩, h1, h⟩ := s_bind h
  obtain ⟨⟨w, σ3⟩, h2, h⟩ := s_bind h
  obtain ⟨x, h3, h⟩ := s_map h
  cases h
  have h3 := v_r_some h3
  have h3 : w = _ := h3
  subst h3
  exact sk_S hA hM hG hw hd0 hfr hlo hln h8 hd hp h1 h2
theorem ss_callVS {κ : sCtx} {pc0 pcA pc1 : Nat} {As : sEx (List Value)} {ym : MethodName} {wm wm' : List Cond} {frm lom maxL n index : Nat} {bytes : ByteArray} {rt : Option FieldType} {sem : sSem} (hA : sSA κ 0 pc0 pcA As) (hM : sMet κ.2.2.2.2.2.2.2.1 κ.2.2.2.2.2.2.2.2.1 ym wm frm lom sem) (hG : GoodIn κ.2.1 (va_wsS κ.2.2.1 index ym wm)) (hw : wm = Cond.code ym bytes maxL rt :: wm') (hd0 : ym.cls ≠ "java/lang/invoke/MethodHandle" ∧ ym.cls ≠ "java/lang/invoke/VarHandle" ∧ (parseMethodDescriptor ym.desc).map (fun d => d.parameters.length) = some n) (hfr : frm + 1 ≤ κ.2.2.2.2.1) (hlo : 8 + (maxL + 11) + lom ≤ κ.2.2.2.2.2.1) (hln : s_Len n As) (hd : decode κ.1 pcA = .ok (.invokestatic index, 3)) (hp : pcA + 3 = pc1) : sSS κ pc0 pc1 (s_callV sem As) := by
  intro L σ r h
  obtain ⟨⟨vs, σ2⟩, h1, h⟩ := s_bind h
  obtain ⟨⟨w, σ3⟩, h2, h⟩ := s_bind h
  have h8 : (0 : Nat) ≤ 8 := Nat.zero_le _
  cases w with
  | none =>
    cases h
    obtain ⟨l1, k1⟩ := sk_S hA hM hG hw hd0 hfr hlo hln h8 hd hp h1 h2
    exact ⟨l1, fun y hy hE k => k1 y hy [] s_ws0 hE k⟩
  | some w => cases h
theorem ss_callPS {κ : sCtx} {pc0 pcA pcB pc1 : Nat} {As : sEx (List Value)} {ym : MethodName} {wm wm' : List Cond} {frm lom maxL n index : Nat} {bytes : ByteArray} {rt : Option FieldType} {sem : sSem} (hA : sSA κ 0 pc0 pcA As) (hM : sMet κ.2.2.2.2.2.2.2.1 κ.2.2.2.2.2.2.2.2.1 ym wm frm lom sem) (hG : GoodIn κ.2.1 (va_wsS κ.2.2.1 index ym wm)) (hw : wm = Cond.code ym bytes maxL rt :: wm') (hd0 : ym.cls ≠ "java/lang/invoke/MethodHandle" ∧ ym.cls ≠ "java/lang/invoke/VarHandle" ∧ (parseMethodDescriptor ym.desc).map (fun d => d.parameters.length) = some n) (hfr : frm + 1 ≤ κ.2.2.2.2.1) (hlo : 8 + (maxL + 11) + lom ≤ κ.2.2.2.2.2.1) (hln : s_Len n As) (hd : decode κ.1 pcA = .ok (.invokestatic index, 3)) (hp : pcA + 3 = pcB) (hd2 : decode κ.1 pcB = .ok (.pop, 1)) (hp2 : pcB + 1 = pc1) : sSS κ pc0 pc1 (s_callP sem As) := by
  intro L σ r h
  obtain ⟨⟨vs, σ2⟩, h1, h⟩ := s_bind h
  obtain ⟨⟨w, σ3⟩, h2, h⟩ := s_bind h
  have h8 : (0 : Nat) ≤ 8 := Nat.zero_le _
  subst hp2
  cases w with
  | none => cases h
  | some w =>
    cases w with
    | int x =>
      cases h
      obtain ⟨l1, k1⟩ := sk_S hA hM hG hw hd0 hfr hlo hln h8 hd hp h1 h2
      exact ⟨l1, fun y hy hE k => k1 y hy [] s_ws0 hE (a_pop hy.1 hd2 rfl k)⟩
    | _ => cases h
theorem se_new {κ : sCtx} {d pc0 pcD pcB pcA pc1 : Nat} {As : sEx (List Value)} {ci N idn : Nat} {C : String} {T : u_T} {fs : List Value} {ym : MethodName} {wm wm' : List Cond} {frm lom maxL n index : Nat} {bytes : ByteArray} {sem : sSem} (hc : κ.2.2.2.2.2.2.2.1[ci]? = some (C, T, N)) (hin : ∀ w ∈ u_ws C T N, w ∈ κ.2.1) (ty0 : Nat → FieldType) (hty : ∀ k, k < N → parseFieldDescriptor (T k).2.2.1 = some (ty0 k)) (hcl : Cond.classLink κ.2.2.1 idn C ∈ κ.2.1) (hins : Cond.instantiable C N ∈ κ.2.1) (hini : Cond.initialized C ∈ κ.2.1) (hfs : ∀ j, j < N → ∀ b, defaultValue (ty0 j) = vp_V (fs.map (s_cv b)) j) (hN : fs.length = N) (hdn : decode κ.1 pc0 = .ok (.new idn, 3)) (hpn : pc0 + 3 = pcD) (hdd : decode κ.1 pcD = .ok (.dup, 1)) (hpd : pcD + 1 = pcB) (hA : sSA κ (d + 2) pcB pcA As) (hM : sMet κ.2.2.2.2.2.2.2.1 κ.2.2.2.2.2.2.2.2.1 ym wm frm lom sem) (hG : GoodIn κ.2.1 wm) (hw : wm = Cond.code ym bytes maxL none :: wm') (hi0 : ym.name = "<init>") (hinI : Cond.initialized ym.cls ∈ κ.2.1) (hl : Cond.methodLink κ.2.2.1 index ym ∈ κ.2.1) (hinsM : Cond.instanceMethod ym ∈ κ.2.1) (hd0 : ym.cls ≠ "java/lang/invoke/MethodHandle" ∧ ym.cls ≠ "java/lang/invoke/VarHandle" ∧ (parseMethodDescriptor ym.desc).map (fun d => d.parameters.length) = some n) (hfr : frm + 1 ≤ κ.2.2.2.2.1) (hlo : 8 + (maxL + 11) + lom ≤ κ.2.2.2.2.2.1) (hln : s_Len n As) (h8 : d + 1 ≤ 8) (hd : decode κ.1 pcA = .ok (.invokespecial index, 3)) (hp : pcA + 3 = pc1) : sSE κ d pc0 pc1 q_r (e_new ci fs sem As) := by
  intro L σ v σ1 h
  obtain ⟨⟨vs, σ2⟩, h1, h⟩ := s_bind h
  obtain ⟨⟨w, σ3⟩, h2, h⟩ := s_bind h
  cases w with
  | some w => cases h
  | none =>
    cases h
    subst hpn hpd hp hN
    obtain ⟨l1, c1, k1⟩ := hA _ _ _ _ h1
    have l2 := (hM _ _ _ _ h2).1
    have l0 : s_le σ (σ.1 ++ [.inl (ci, fs)], σ.2 + fs.length) := ⟨by simp, by simp⟩
    refine ⟨l0.tr (l1.tr l2), fun y hy st hs hE k => ?_⟩
    have hE1 : s_le σ2 (s_sE y) := l2.tr hE
    have hlen : vs.length = n := hln _ _ _ h1
    refine a_new hy.1 (s_Cl_of hy.2.1 hc hin) ty0 hty hcl hins hini hdn hfs (l1.tr hE1) (a_dup hy.1 hdd rfl (k1 y hy _ (s_ws_c (s_ws_c hs rfl) rfl) hE1 ?_))
    exact a_callI (rt := none) hy.1 hy.2.1 hy.2.2.1 hM hG hw hi0 hinI hl hinsM hd0 hfr hlo hd hlen h2 hE (Nat.le_trans (s_ws_c hs rfl) h8) k
theorem ss_objInit {κ : sCtx} {pc0 pcA pc1 index : Nat} {A : sEx (Option Nat)} (hA : sSE κ 0 pc0 pcA q_r A) (hl : Cond.methodLink κ.2.2.1 index objectInit ∈ κ.2.1) (hi : Cond.instanceMethod objectInit ∈ κ.2.1) (hc : Cond.code objectInit ⟨#[0xb1]⟩ 1 none ∈ κ.2.1) (hd : decode κ.1 pcA = .ok (.invokespecial index, 3)) (hR2 : 1 ≤ κ.2.2.2.2.1 ∧ 20 ≤ κ.2.2.2.2.2.1) (hp : pcA + 3 = pc1) : sSS κ pc0 pc1 (s_super A) := by
  intro L σ r h
  obtain ⟨⟨a, σ2⟩, h1, h⟩ := s_bind h
  obtain ⟨l1, k1⟩ := hA _ _ _ _ h1
  cases a with
  | none => cases h
  | some b =>
    cases h
    subst hp
    exact ⟨l1, fun y hy hE k => k1 y hy [] s_ws0 hE (a_objInit hy.1 hl hi hc hd hR2 s_ws0 k)⟩
theorem ss_retI {κ : sCtx} {pc0 pcA pc1 : Nat} {E : sEx Int32} (hA : sSE κ 0 pc0 pcA q_i E) (hd : decode κ.1 pcA = .ok (.ireturn, 1)) (hret : κ.2.2.2.1 = some .int) : sSS κ pc0 pc1 (s_retI E) := by
  intro L σ r h
  obtain ⟨⟨a, σ2⟩, h1, h⟩ := s_map h
  cases h
  obtain ⟨l1, k1⟩ := hA _ _ _ _ h1
  exact ⟨l1, fun y hy hE k => k1 y hy [] s_ws0 hE (a_retI (stk := []) hy.1 hret hd k.1 k.2)⟩
theorem ss_retD {κ : sCtx} {pc0 pcA pc1 : Nat} {E : sEx UInt64} (hA : sSE κ 0 pc0 pcA q_d E) (hd : decode κ.1 pcA = .ok (.dreturn, 1)) (hret : κ.2.2.2.1 = some .double) : sSS κ pc0 pc1 (s_retD E) := by
  intro L σ r h
  obtain ⟨⟨a, σ2⟩, h1, h⟩ := s_map h
  cases h
  obtain ⟨l1, k1⟩ := hA _ _ _ _ h1
  exact ⟨l1, fun y hy hE k => k1 y hy [] s_ws0 hE (a_retD (stk := []) hy.1 hret hd k.1 k.2)⟩
theorem ss_retZ {κ : sCtx} {pc0 pcA pc1 : Nat} {E : sEx Int32} (hA : sSE κ 0 pc0 pcA q_i E) (hd : decode κ.1 pcA = .ok (.ireturn, 1)) (hret : κ.2.2.2.1 = some .boolean) : sSS κ pc0 pc1 (s_retZ E) := by
  intro L σ r h
  obtain ⟨⟨a, σ2⟩, h1, h⟩ := s_bind h
  dsimp only at h
  split at h
  · next hv =>
    cases h
    obtain ⟨l1, k1⟩ := hA _ _ _ _ h1
    exact ⟨l1, fun y hy hE k => k1 y hy [] s_ws0 hE (a_retZ (stk := []) hy.1 hv hret hd k.1 k.2)⟩
  · cases h
theorem ss_retR {κ : sCtx} {pc0 pcA pc1 : Nat} {E : sEx (Option Nat)} {rt : FieldType} (hA : sSE κ 0 pc0 pcA q_r E) (hd : decode κ.1 pcA = .ok (.areturn, 1)) (hret : κ.2.2.2.1 = some rt) (hrt : (∃ n, rt = .object n) ∨ ∃ t, rt = .array t) : sSS κ pc0 pc1 (s_retR E) := by
  intro L σ r h
  obtain ⟨⟨a, σ2⟩, h1, h⟩ := s_map h
  cases h
  obtain ⟨l1, k1⟩ := hA _ _ _ _ h1
  exact ⟨l1, fun y hy hE k => k1 y hy [] s_ws0 hE (a_retR (stk := []) hy.1 hret hrt hd k.1 k.2)⟩
theorem ss_ret0 {κ : sCtx} {pc0 pc1 : Nat} (hd : decode κ.1 pc0 = .ok (.return_, 1)) (hret : κ.2.2.2.1 = none) : sSS κ pc0 pc1 s_ret0 := by
  intro L σ r h
  cases h
  exact ⟨s_le.rf, fun y hy hE k => a_ret0 (stk := []) hy.1 hret hd k.1 k.2⟩
theorem s_set_eq {σ : sSt} {b : Nat} {a : sAC} : h_set σ (some b) a = (σ.1.set b a, σ.2) := rfl
theorem ss_putI {κ : sCtx} {pc0 pcA pcB pc1 : Nat} {A : sEx (Option Nat)} {E : sEx Int32} {ci N k index : Nat} {C : String} {T : u_T} (hA : sSE κ 0 pc0 pcA q_r A) (hE0 : sSE κ 1 pcA pcB q_i E) (hc : κ.2.2.2.2.2.2.2.1[ci]? = some (C, T, N)) (hin : ∀ w ∈ u_ws C T N, w ∈ κ.2.1) (ty0 : Nat → FieldType) (hty : ∀ k, k < N → parseFieldDescriptor (T k).2.2.1 = some (ty0 k)) (hnm : ∀ a, a < N → ∀ b, b < N → a ≠ b → (T a).2.1 ≠ (T b).2.1) (hk : k < N) (hl : Cond.fieldLink κ.2.2.1 index C (T k).2.1 (T k).2.2.1 ∈ κ.2.1) (hT : (T k).1 = C) (hfin : (T k).2.2.2 = false) (ht0 : ty0 k = .int) (hd : decode κ.1 pcB = .ok (.putfield index, 3)) (hp : pcB + 3 = pc1) : sSS κ pc0 pc1 (s_putI ci k A E) := by
  intro L σ r h
  obtain ⟨⟨a, σ2⟩, h1, h⟩ := s_bind h
  obtain ⟨⟨x, σ3⟩, h2, h⟩ := s_bind h
  obtain ⟨fs, h3, h⟩ := s_bind h
  dsimp only at h
  split at h
  · next e5 =>
    cases h
    subst hp
    obtain ⟨b, e1, e2⟩ := h_obj_some h3
    have e1 : a = some b := e1
    subst e1
    obtain ⟨l1, k1⟩ := hA _ _ _ _ h1
    obtain ⟨l2, k2⟩ := hE0 _ _ _ _ h2
    refine ⟨l1.tr (l2.tr (s_le_set (σ := σ3) (r := some b))), fun y hy hE k => ?_⟩
    have hE3 : s_le σ3 (s_sE y) := s_le.tr (s_le_set (σ := σ3) (r := some b)) hE
    exact k1 y hy [] s_ws0 (l2.tr hE3) (k2 y hy _ (s_ws_c s_ws0 rfl) hE3 (a_put hy.1 (s_Cl_of hy.2.1 hc hin) ty0 hty hnm hk hl hT hfin (v := .int x) (fun b => by rw [ht0]; rfl) (fun b => by rw [ht0]; rfl) hd e2 e5 k))
  · cases h
theorem ss_putIF {κ : sCtx} {pc0 pcA pcB pc1 : Nat} {A : sEx (Option Nat)} {E : sEx Int32} {ci N k index : Nat} {C : String} {T : u_T} (hA : sSE κ 0 pc0 pcA q_r A) (hE0 : sSE κ 1 pcA pcB q_i E) (hc : κ.2.2.2.2.2.2.2.1[ci]? = some (C, T, N)) (hin : ∀ w ∈ u_ws C T N, w ∈ κ.2.1) (ty0 : Nat → FieldType) (hty : ∀ k, k < N → parseFieldDescriptor (T k).2.2.1 = some (ty0 k)) (hnm : ∀ a, a < N → ∀ b, b < N → a ≠ b → (T a).2.1 ≠ (T b).2.1) (hk : k < N) (hl : Cond.fieldLink κ.2.2.1 index C (T k).2.1 (T k).2.2.1 ∈ κ.2.1) (hT : (T k).1 = C) (hfin : (T k).2.2.2 = true) (hini : κ.2.2.2.2.2.2.2.2.2 = true) (hdecl : (T k).1 = κ.2.2.1) (ht0 : ty0 k = .int) (hd : decode κ.1 pcB = .ok (.putfield index, 3)) (hp : pcB + 3 = pc1) : sSS κ pc0 pc1 (s_putI ci k A E) := by
  intro L σ r h
  obtain ⟨⟨a, σ2⟩, h1, h⟩ := s_bind h
  obtain ⟨⟨x, σ3⟩, h2, h⟩ := s_bind h
  obtain ⟨fs, h3, h⟩ := s_bind h
  dsimp only at h
  split at h
  · next e5 =>
    cases h
    subst hp
    obtain ⟨b, e1, e2⟩ := h_obj_some h3
    have e1 : a = some b := e1
    subst e1
    obtain ⟨l1, k1⟩ := hA _ _ _ _ h1
    obtain ⟨l2, k2⟩ := hE0 _ _ _ _ h2
    refine ⟨l1.tr (l2.tr (s_le_set (σ := σ3) (r := some b))), fun y hy hE k => ?_⟩
    have hE3 : s_le σ3 (s_sE y) := s_le.tr (s_le_set (σ := σ3) (r := some b)) hE
    exact k1 y hy [] s_ws0 (l2.tr hE3) (k2 y hy _ (s_ws_c s_ws0 rfl) hE3 (a_putF hy.1 (s_Cl_of hy.2.1 hc hin) ty0 hty hnm hk hl hT hfin (hy.2.2.2 hini) hdecl (v := .int x) (fun b => by rw [ht0]; rfl) (fun b => by rw [ht0]; rfl) hd e2 e5 k))
  · cases h
theorem ss_putZ {κ : sCtx} {pc0 pcA pcB pc1 : Nat} {A : sEx (Option Nat)} {E : sEx Int32} {ci N k index : Nat} {C : String} {T : u_T} (hA : sSE κ 0 pc0 pcA q_r A) (hE0 : sSE κ 1 pcA pcB q_i E) (hc : κ.2.2.2.2.2.2.2.1[ci]? = some (C, T, N)) (hin : ∀ w ∈ u_ws C T N, w ∈ κ.2.1) (ty0 : Nat → FieldType) (hty : ∀ k, k < N → parseFieldDescriptor (T k).2.2.1 = some (ty0 k)) (hnm : ∀ a, a < N → ∀ b, b < N → a ≠ b → (T a).2.1 ≠ (T b).2.1) (hk : k < N) (hl : Cond.fieldLink κ.2.2.1 index C (T k).2.1 (T k).2.2.1 ∈ κ.2.1) (hT : (T k).1 = C) (hfin : (T k).2.2.2 = false) (ht0 : ty0 k = .boolean) (hd : decode κ.1 pcB = .ok (.putfield index, 3)) (hp : pcB + 3 = pc1) : sSS κ pc0 pc1 (s_putZ ci k A E) := by
  intro L σ r h
  obtain ⟨⟨a, σ2⟩, h1, h⟩ := s_bind h
  obtain ⟨⟨x, σ3⟩, h2, h⟩ := s_bind h
  obtain ⟨fs, h3, h⟩ := s_bind h
  dsimp only at h
  split at h
  · next e5 =>
    cases h
    subst hp
    obtain ⟨b, e1, e2⟩ := h_obj_some h3
    have e1 : a = some b := e1
    subst e1
    obtain ⟨l1, k1⟩ := hA _ _ _ _ h1
    obtain ⟨l2, k2⟩ := hE0 _ _ _ _ h2
    refine ⟨l1.tr (l2.tr (s_le_set (σ := σ3) (r := some b))), fun y hy hE k => ?_⟩
    have hE3 : s_le σ3 (s_sE y) := s_le.tr (s_le_set (σ := σ3) (r := some b)) hE
    exact k1 y hy [] s_ws0 (l2.tr hE3) (k2 y hy _ (s_ws_c s_ws0 rfl) hE3 (a_put hy.1 (s_Cl_of hy.2.1 hc hin) ty0 hty hnm hk hl hT hfin (v := .int x) (fun b => by rw [ht0]; rcases e5.2 with rfl | rfl <;> rfl) (fun b => by rw [ht0]; rcases e5.2 with rfl | rfl <;> rfl) hd e2 e5.1 k))
  · cases h
theorem ss_putR {κ : sCtx} {pc0 pcA pcB pc1 : Nat} {A : sEx (Option Nat)} {E : sEx (Option Nat)} {ci N k index : Nat} {C : String} {T : u_T} (hA : sSE κ 0 pc0 pcA q_r A) (hE0 : sSE κ 1 pcA pcB q_r E) (hc : κ.2.2.2.2.2.2.2.1[ci]? = some (C, T, N)) (hin : ∀ w ∈ u_ws C T N, w ∈ κ.2.1) (ty0 : Nat → FieldType) (hty : ∀ k, k < N → parseFieldDescriptor (T k).2.2.1 = some (ty0 k)) (hnm : ∀ a, a < N → ∀ b, b < N → a ≠ b → (T a).2.1 ≠ (T b).2.1) (hk : k < N) (hl : Cond.fieldLink κ.2.2.1 index C (T k).2.1 (T k).2.2.1 ∈ κ.2.1) (hT : (T k).1 = C) (hfin : (T k).2.2.2 = false) (ht0 : (∃ n, ty0 k = .object n) ∨ ∃ t, ty0 k = .array t) (hd : decode κ.1 pcB = .ok (.putfield index, 3)) (hp : pcB + 3 = pc1) : sSS κ pc0 pc1 (s_putR ci k A E) := by
  intro L σ r h
  obtain ⟨⟨a, σ2⟩, h1, h⟩ := s_bind h
  obtain ⟨⟨x, σ3⟩, h2, h⟩ := s_bind h
  obtain ⟨fs, h3, h⟩ := s_bind h
  dsimp only at h
  split at h
  · next e5 =>
    cases h
    subst hp
    obtain ⟨b, e1, e2⟩ := h_obj_some h3
    have e1 : a = some b := e1
    subst e1
    obtain ⟨l1, k1⟩ := hA _ _ _ _ h1
    obtain ⟨l2, k2⟩ := hE0 _ _ _ _ h2
    refine ⟨l1.tr (l2.tr (s_le_set (σ := σ3) (r := some b))), fun y hy hE k => ?_⟩
    have hE3 : s_le σ3 (s_sE y) := s_le.tr (s_le_set (σ := σ3) (r := some b)) hE
    exact k1 y hy [] s_ws0 (l2.tr hE3) (k2 y hy _ (s_ws_c s_ws0 rfl) hE3 (a_put hy.1 (s_Cl_of hy.2.1 hc hin) ty0 hty hnm hk hl hT hfin (v := va_rf x) (fun b => by rcases ht0 with ⟨n, q⟩ | ⟨n, q⟩ <;> rw [q] <;> cases x <;> rfl) (fun b => by rcases ht0 with ⟨n, q⟩ | ⟨n, q⟩ <;> rw [q] <;> cases x <;> rfl) hd e2 e5 k))
  · cases h
theorem ss_putRF {κ : sCtx} {pc0 pcA pcB pc1 : Nat} {A : sEx (Option Nat)} {E : sEx (Option Nat)} {ci N k index : Nat} {C : String} {T : u_T} (hA : sSE κ 0 pc0 pcA q_r A) (hE0 : sSE κ 1 pcA pcB q_r E) (hc : κ.2.2.2.2.2.2.2.1[ci]? = some (C, T, N)) (hin : ∀ w ∈ u_ws C T N, w ∈ κ.2.1) (ty0 : Nat → FieldType) (hty : ∀ k, k < N → parseFieldDescriptor (T k).2.2.1 = some (ty0 k)) (hnm : ∀ a, a < N → ∀ b, b < N → a ≠ b → (T a).2.1 ≠ (T b).2.1) (hk : k < N) (hl : Cond.fieldLink κ.2.2.1 index C (T k).2.1 (T k).2.2.1 ∈ κ.2.1) (hT : (T k).1 = C) (hfin : (T k).2.2.2 = true) (hini : κ.2.2.2.2.2.2.2.2.2 = true) (hdecl : (T k).1 = κ.2.2.1) (ht0 : (∃ n, ty0 k = .object n) ∨ ∃ t, ty0 k = .array t) (hd : decode κ.1 pcB = .ok (.putfield index, 3)) (hp : pcB + 3 = pc1) : sSS κ pc0 pc1 (s_putR ci k A E) := by
  intro L σ r h
  obtain ⟨⟨a, σ2⟩, h1, h⟩ := s_bind h
  obtain ⟨⟨x, σ3⟩, h2, h⟩ := s_bind h
  obtain ⟨fs, h3, h⟩ := s_bind h
  dsimp only at h
  split at h
  · next e5 =>
    cases h
    subst hp
    obtain ⟨b, e1, e2⟩ := h_obj_some h3
    have e1 : a = some b := e1
    subst e1
    obtain ⟨l1, k1⟩ := hA _ _ _ _ h1
    obtain ⟨l2, k2⟩ := hE0 _ _ _ _ h2
    refine ⟨l1.tr (l2.tr (s_le_set (σ := σ3) (r := some b))), fun y hy hE k => ?_⟩
    have hE3 : s_le σ3 (s_sE y) := s_le.tr (s_le_set (σ := σ3) (r := some b)) hE
    exact k1 y hy [] s_ws0 (l2.tr hE3) (k2 y hy _ (s_ws_c s_ws0 rfl) hE3 (a_putF hy.1 (s_Cl_of hy.2.1 hc hin) ty0 hty hnm hk hl hT hfin (hy.2.2.2 hini) hdecl (v := va_rf x) (fun b => by rcases ht0 with ⟨n, q⟩ | ⟨n, q⟩ <;> rw [q] <;> cases x <;> rfl) (fun b => by rcases ht0 with ⟨n, q⟩ | ⟨n, q⟩ <;> rw [q] <;> cases x <;> rfl) hd e2 e5 k))
  · cases h
theorem ss_putop {κ : sCtx} {pc0 pcA pcD pcG pcB pcO pc1 : Nat} {A : sEx (Option Nat)} {E : sEx Int32} {f : Int32 → Int32 → Int32} {ci N k index : Nat} {C : String} {T : u_T} (hA : sSE κ 0 pc0 pcA q_r A) (hdd : decode κ.1 pcA = .ok (.dup, 1)) (hpd : pcA + 1 = pcD) (hc : κ.2.2.2.2.2.2.2.1[ci]? = some (C, T, N)) (hin : ∀ w ∈ u_ws C T N, w ∈ κ.2.1) (ty0 : Nat → FieldType) (hty : ∀ k, k < N → parseFieldDescriptor (T k).2.2.1 = some (ty0 k)) (hnm : ∀ a, a < N → ∀ b, b < N → a ≠ b → (T a).2.1 ≠ (T b).2.1) (hk : k < N) (hl : Cond.fieldLink κ.2.2.1 index C (T k).2.1 (T k).2.2.1 ∈ κ.2.1) (hT : (T k).1 = C) (hdg : decode κ.1 pcD = .ok (.getfield index, 3)) (hpg : pcD + 3 = pcG) (hE0 : sSE κ 2 pcG pcB q_i E) (hop : (decode κ.1 pcB = .ok (.iadd, 1) ∧ f = fun x z => x + z) ∨ (decode κ.1 pcB = .ok (.isub, 1) ∧ f = fun x z => x - z)) (hpo : pcB + 1 = pcO) (hfin : (T k).2.2.2 = false) (ht0 : ty0 k = .int) (hd : decode κ.1 pcO = .ok (.putfield index, 3)) (hp : pcO + 3 = pc1) : sSS κ pc0 pc1 (s_putop ci k A f E) := by
  intro L σ r h
  obtain ⟨⟨a, σ2⟩, h1, h⟩ := s_bind h
  obtain ⟨fs0, h7, h⟩ := s_bind h
  obtain ⟨x0, h8, h⟩ := s_bind h
  obtain ⟨⟨x, σ3⟩, h2, h⟩ := s_bind h
  obtain ⟨fs, h3, h⟩ := s_bind h
  dsimp only at h
  split at h
  · next e5 =>
    cases h
    subst hp hpo hpg hpd
    obtain ⟨b, e1, e2⟩ := h_obj_some h3
    have e1 : a = some b := e1
    subst e1
    obtain ⟨b', e1, e4⟩ := h_obj_some h7
    cases e1
    obtain ⟨l1, k1⟩ := hA _ _ _ _ h1
    obtain ⟨l2, k2⟩ := hE0 _ _ _ _ h2
    refine ⟨l1.tr (l2.tr (s_le_set (σ := σ3) (r := some b))), fun y hy hE k => ?_⟩
    have hE3 : s_le σ3 (s_sE y) := s_le.tr (s_le_set (σ := σ3) (r := some b)) hE
    have hput := a_put hy.1 (s_Cl_of hy.2.1 hc hin) ty0 hty hnm hk hl hT hfin (stk := []) (v := .int (f x0 x)) (fun b => by rw [ht0]; rfl) (fun b => by rw [ht0]; rfl) hd e2 e5 k
    refine k1 y hy [] s_ws0 (l2.tr hE3) (a_dup hy.1 hdd rfl (a_get hy.1 (s_Cl_of hy.2.1 hc hin) hk hl hT hdg e4 (v_i_some h8) (k2 y hy _ (s_ws_c (s_ws_c s_ws0 rfl) rfl) hE3 ?_)))
    rcases hop with ⟨h9, rfl⟩ | ⟨h9, rfl⟩
    · exact a_iadd hy.1 h9 hput
    · exact a_isub hy.1 h9 hput
  · cases h
theorem ss_ast {κ : sCtx} {pc0 pcA pcI pcB pc1 : Nat} {A : sEx (Option Nat)} {I E : sEx Int32} (hA : sSE κ 0 pc0 pcA q_r A) (hI : sSE κ 1 pcA pcI q_i I) (hE0 : sSE κ 2 pcI pcB q_i E) (hd : decode κ.1 pcB = .ok (.iastore, 1)) (hp : pcB + 1 = pc1) : sSS κ pc0 pc1 (s_ast A I E) := by
  intro L σ r h
  obtain ⟨⟨a, σ2⟩, h1, h⟩ := s_bind h
  obtain ⟨⟨i, σ3⟩, h2, h⟩ := s_bind h
  obtain ⟨⟨x, σ4⟩, h3, h⟩ := s_bind h
  obtain ⟨z, h4, h⟩ := s_bind h
  obtain ⟨j, h5, h⟩ := s_map h
  cases h
  subst hp
  obtain ⟨b, e1, e2⟩ := h_arr_some h4
  have e1 : a = some b := e1
  subst e1
  obtain ⟨e3, -⟩ := h_ix_some h5
  obtain ⟨l1, k1⟩ := hA _ _ _ _ h1
  obtain ⟨l2, k2⟩ := hI _ _ _ _ h2
  obtain ⟨l3, k3⟩ := hE0 _ _ _ _ h3
  refine ⟨l1.tr (l2.tr (l3.tr (s_le_set (σ := σ4) (r := some b)))), fun y hy hE k => ?_⟩
  have hE4 : s_le σ4 (s_sE y) := s_le.tr (s_le_set (σ := σ4) (r := some b)) hE
  exact k1 y hy [] s_ws0 (l2.tr (l3.tr hE4)) (k2 y hy _ (s_ws_c s_ws0 rfl) (l3.tr hE4) (k3 y hy _ (s_ws_c (s_ws_c s_ws0 rfl) rfl) hE4 (a_iast hy.1 hd e2 e3 k)))
theorem ss_astop {κ : sCtx} {pc0 pcA pcI pcD pcL pcB pcO pc1 : Nat} {A : sEx (Option Nat)} {I E : sEx Int32} {f : Int32 → Int32 → Int32} (hA : sSE κ 0 pc0 pcA q_r A) (hI : sSE κ 1 pcA pcI q_i I) (hdd : decode κ.1 pcI = .ok (.dup2, 1)) (hpd : pcI + 1 = pcD) (hdl : decode κ.1 pcD = .ok (.iaload, 1)) (hpl : pcD + 1 = pcL) (hE0 : sSE κ 3 pcL pcB q_i E) (hop : (decode κ.1 pcB = .ok (.iadd, 1) ∧ f = fun x z => x + z) ∨ (decode κ.1 pcB = .ok (.isub, 1) ∧ f = fun x z => x - z)) (hpo : pcB + 1 = pcO) (hd : decode κ.1 pcO = .ok (.iastore, 1)) (hp : pcO + 1 = pc1) : sSS κ pc0 pc1 (s_astop A I f E) := by
  intro L σ r h
  obtain ⟨⟨a, σ2⟩, h1, h⟩ := s_bind h
  obtain ⟨⟨i, σ3⟩, h2, h⟩ := s_bind h
  obtain ⟨z0, h6, h⟩ := s_bind h
  obtain ⟨j0, h7, h⟩ := s_bind h
  obtain ⟨⟨x, σ4⟩, h3, h⟩ := s_bind h
  obtain ⟨z, h4, h⟩ := s_bind h
  obtain ⟨j, h5, h⟩ := s_map h
  cases h
  subst hp hpo hpl hpd
  obtain ⟨b, e1, e2⟩ := h_arr_some h4
  have e1 : a = some b := e1
  subst e1
  obtain ⟨b', e1, e6⟩ := h_arr_some h6
  cases e1
  obtain ⟨e3, -⟩ := h_ix_some h5
  obtain ⟨e7, e8⟩ := h_ix_some h7
  subst e8
  obtain ⟨l1, k1⟩ := hA _ _ _ _ h1
  obtain ⟨l2, k2⟩ := hI _ _ _ _ h2
  obtain ⟨l3, k3⟩ := hE0 _ _ _ _ h3
  refine ⟨l1.tr (l2.tr (l3.tr (s_le_set (σ := σ4) (r := some b)))), fun y hy hE k => ?_⟩
  have hE4 : s_le σ4 (s_sE y) := s_le.tr (s_le_set (σ := σ4) (r := some b)) hE
  have hput := a_iast hy.1 hd (x := f (z0.2 i.toNatClampNeg) x) e2 e3 k
  refine k1 y hy [] s_ws0 (l2.tr (l3.tr hE4)) (k2 y hy _ (s_ws_c s_ws0 rfl) (l3.tr hE4) (a_dup2 hy.1 hdd rfl rfl (a_iald hy.1 hdl e6 e7 (k3 y hy _ (s_ws_c (s_ws_c (s_ws_c s_ws0 rfl) rfl) rfl) hE4 ?_))))
  rcases hop with ⟨h9, rfl⟩ | ⟨h9, rfl⟩
  · exact a_iadd hy.1 h9 hput
  · exact a_isub hy.1 h9 hput
theorem ss_astR {κ : sCtx} {pc0 pcA pcI pcB pc1 ci cN : Nat} {cT : u_T} {A : sEx (Option Nat)} {I : sEx Int32} {E : sEx (Option Nat)} (hc : κ.2.2.2.2.2.2.2.1[ci]? = some (κ.2.2.2.2.2.2.2.2.1, cT, cN)) (hA : sSE κ 0 pc0 pcA q_r A) (hI : sSE κ 1 pcA pcI q_i I) (hE0 : sSE κ 2 pcI pcB q_r E) (hd : decode κ.1 pcB = .ok (.aastore, 1)) (hp : pcB + 1 = pc1) : sSS κ pc0 pc1 (s_astR ci A I E) := by
  intro L σ r h
  obtain ⟨⟨a, σ2⟩, h1, h⟩ := s_bind h
  obtain ⟨⟨i, σ3⟩, h2, h⟩ := s_bind h
  obtain ⟨⟨x, σ4⟩, h3, h⟩ := s_bind h
  obtain ⟨z, h4, h⟩ := s_bind h
  obtain ⟨o, h6, h⟩ := s_bind h
  obtain ⟨j, h5, h⟩ := s_map h
  cases h
  subst hp
  obtain ⟨b, e1, e2⟩ := h_rar_some h4
  have e1 : a = some b := e1
  subst e1
  obtain ⟨v, e1, e6⟩ := h_obj_some h6
  have e1 : x = some v := e1
  subst e1
  obtain ⟨e3, -⟩ := h_ix_some h5
  obtain ⟨l1, k1⟩ := hA _ _ _ _ h1
  obtain ⟨l2, k2⟩ := hI _ _ _ _ h2
  obtain ⟨l3, k3⟩ := hE0 _ _ _ _ h3
  refine ⟨l1.tr (l2.tr (l3.tr (s_le_set (σ := σ4) (r := some b)))), fun y hy hE k => ?_⟩
  have hE4 : s_le σ4 (s_sE y) := s_le.tr (s_le_set (σ := σ4) (r := some b)) hE
  exact k1 y hy [] s_ws0 (l2.tr (l3.tr hE4)) (k2 y hy _ (s_ws_c s_ws0 rfl) (l3.tr hE4) (k3 y hy _ (s_ws_c (s_ws_c s_ws0 rfl) rfl) hE4 (a_aast hy.1 (by rw [hy.2.1, hy.2.2.1]; exact hc) hd e2 e6 e3 k)))
/-- a switch: where each value goes -/
def s_Goes (cc : ByteArray) (pcA : Nat) (x : Int32) (tgt : Nat) : Prop := ∀ (κ : sCtx) (y : sCy), s_G2 y κ → κ.1 = cc → ∀ (L st : List Value) (σ : sSt), s_AW y tgt L st σ → s_AW y pcA L (.int x :: st) σ
theorem ss_sw {κ : sCtx} {pc0 pcA pc1 : Nat} {E : sEx Int32} {f : Int32 → sStm} (hA : sSE κ 0 pc0 pcA q_i E) (hf : ∀ x : Int32, ∃ tgt, s_Goes κ.1 pcA x tgt ∧ sSS κ tgt pc1 (f x)) : sSS κ pc0 pc1 (s_sw E f) := by
  intro L σ r h
  obtain ⟨⟨x, σ2⟩, h1, h⟩ := s_bind h
  obtain ⟨l1, k1⟩ := hA _ _ _ _ h1
  obtain ⟨tgt, g1, g2⟩ := hf x
  obtain ⟨l2, k2⟩ := g2 _ _ _ h
  exact ⟨l1.tr l2, fun y hy hE k => k1 y hy [] s_ws0 (l2.tr hE) (g1 κ y hy rfl _ _ _ (k2 y hy hE k))⟩
theorem s_Goes_tab {cc : ByteArray} {pcA tgt len : Nat} {x : Int32} {dflt lo hi off : Int} {offs : Array Int} (hd : decode cc pcA = .ok (.tableswitch dflt lo hi offs, len)) (h1 : ¬ x.toInt < lo) (h2 : ¬ hi < x.toInt) (ho : offs[(x.toInt - lo).toNat]? = some off) (ht : (pcA : Int) + off = (tgt : Int)) : s_Goes cc pcA x tgt := by
  intro κ y hy e L st σ k
  obtain ⟨p, l, ev, R, s, m, args, below, meth, c, G, nL, σ0, vE, σE⟩ := y
  obtain ⟨⟨hx, hb, -⟩, -⟩ := hy
  intro H locs ls h
  exact lv_tableIn hx (hb.trans e) hd h1 h2 ho ht (k H locs ls h)
theorem s_Goes_tabD {cc : ByteArray} {pcA tgt len : Nat} {x : Int32} {dflt lo hi : Int} {offs : Array Int} (hd : decode cc pcA = .ok (.tableswitch dflt lo hi offs, len)) (h1 : x.toInt < lo ∨ hi < x.toInt) (ht : (pcA : Int) + dflt = (tgt : Int)) : s_Goes cc pcA x tgt := by
  intro κ y hy e L st σ k
  obtain ⟨p, l, ev, R, s, m, args, below, meth, c, G, nL, σ0, vE, σE⟩ := y
  obtain ⟨⟨hx, hb, -⟩, -⟩ := hy
  intro H locs ls h
  exact lv_tableOut hx (hb.trans e) hd h1 ht (k H locs ls h)
theorem s_Goes_look {cc : ByteArray} {pcA tgt len : Nat} {x : Int32} {dflt off : Int} {ps : Array (Int × Int)} (hd : decode cc pcA = .ok (.lookupswitch dflt ps, len)) (hp : (ps.toList.zip (ps.toList.drop 1)).all (fun (a, next) => a.1 < next.1) = true) (ho : Op.lookupswitch.offset ps.toList dflt x.toInt = off) (ht : (pcA : Int) + off = (tgt : Int)) : s_Goes cc pcA x tgt := by
  intro κ y hy e L st σ k
  obtain ⟨p, l, ev, R, s, m, args, below, meth, c, G, nL, σ0, vE, σE⟩ := y
  obtain ⟨⟨hx, hb, -⟩, -⟩ := hy
  intro H locs ls h
  exact lv_lookup hx (hb.trans e) hd hp ho ht (k H locs ls h)
/-! a method's contract out of its body -/
theorem sMet_of {κ : sCtx} {cc : ByteArray} {ws ws' : List Cond} {own : String} {ret : Option FieldType} {fr lo nL pcZ : Nat} {cl : List vw_C} {comp : String} {ini : Bool} (hκ : κ = (cc, ws, own, ret, fr, lo, nL, cl, comp, ini)) {ym : MethodName} (hy : plainName ym.cls = true) (hw : ws = Cond.code ym cc nL ret :: ws') (hown : ym.cls = own) (hini : ini = true → ym.name = "<init>") {body : sStm} {sem : sSem}
    (hsem : ∀ (args : List Value) (σ : sSt) (r : Option Value × sSt), sem args σ = some r → body args σ = some (.inl r)) (hS : sSS κ 0 pcZ body) (hA : ∀ (args : List Value) (σ : sSt) (r : Option Value × sSt), sem args σ = some r → args.length ≤ nL ∧ ∀ v ∈ args, v.category = 1) : sMet cl comp ym ws fr lo sem := by
  intro args σ v σ' h
  have hb0 := hsem _ _ _ h
  obtain ⟨l1, k1⟩ := hS _ _ _ hb0
  refine ⟨l1, fun l G hcl hcm => ?_⟩
  refine Met.ofW (cc := cc) (maxL := nL) (ret := ret) hy hw ?_
  intro p e s m as below meth c s₁ B hml hv
  obtain ⟨rfl, hrel, hKn⟩ := hv
  have hown2 : s.vm.findClass own = some m.cls := by rw [← hown]; exact findClass_of_methodNamed B.named
  have hts := atoms_spec (ws := ws) B.pre
  obtain ⟨hlen, hcat⟩ := hA _ _ _ h
  have hsl : ∀ q : List Value, (∀ v ∈ q, v.category = 1) → lg_sl q = q.map Slot.val := by
    intro q
    induction q with
    | nil => intro _; rfl
    | cons a q ih =>
      intro hq
      have h1 := hq a List.mem_cons_self
      have h2 := ih (fun v hv => hq v (List.mem_cons_of_mem _ hv))
      show (if a.category = 2 then [Slot.val a, Slot.second] else [Slot.val a]) ++ lg_sl q = _
      rw [if_neg (by omega), h2]
      rfl
  have hcat2 : ∀ v ∈ args.map (s_cv G.1), v.category = 1 := by
    intro v hv
    obtain ⟨w, hw1, rfl⟩ := List.mem_map.mp hv
    rw [s_cv_cat]
    exact hcat w hw1
  have hsl2 := hsl _ hcat2
  have hl := lv_entry (args.map (s_cv G.1)) (n := nL) (by rw [hsl2]; simpa using hlen)
  rw [lg_entry_eq]
  generalize hls : (lg_sl (args.map (s_cv G.1)) ++ List.replicate (nL - (lg_sl (args.map (s_cv G.1))).length) Slot.unset).toArray = ls at hl ⊢
  have hhas : s_has G.1 nL ls args := by
    refine ⟨⟨hl.1, hl.2.1, fun q hq => ?_⟩, hcat⟩
    obtain ⟨v, hv, e⟩ := s_ls_mem.mp (show (q.1, q.2) ∈ s_ls G.1 args from hq)
    have hq1 : q.1 < args.length := (List.getElem?_eq_some_iff.mp hv).1
    rw [← hls, hsl2, List.getElem?_toArray, List.getElem?_append_left (by simpa using hq1), List.getElem?_map, List.getElem?_map, hv, e]
    rfl
  have hG2 : s_G2 (p, l, e, (headSpec ws { frames := fr, cells := σ'.1.length - σ.1.length, slots := σ'.2 - σ.2, locals := lo }).room, s, m, (args.map (s_cv G.1)).toArray, below, meth, c, G, nL, σ, v, σ') κ := by
    subst hκ
    refine ⟨⟨B.exec, B.bytes, hml, hown2, hts, hKn, B.notSynchronized, B.returns, rfl, rfl⟩, hcl, hcm, fun hi => ?_⟩
    exact (name_of_methodNamed B.named B.method).1.trans (hini hi)
  have h := k1 _ hG2 s_le.rf ⟨rfl, rfl⟩ s.heap [] ls ⟨hrel, va_S.rf, hhas, s_le.rf⟩
  rw [Nat.sub_self, Nat.sub_self] at h
  exact h
