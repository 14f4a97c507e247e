/-! Math.max, Math.min, and what methods are out of their bodies (own work) -/
def e_max (A B : sEx Int32) : sEx Int32 := fun L σ => (A L σ).bind fun a => (B L a.2).bind fun b => some (if a.1 < b.1 then b.1 else a.1, b.2)
def e_min (A B : sEx Int32) : sEx Int32 := fun L σ => (A L σ).bind fun a => (B L a.2).bind fun b => some (if b.1 < a.1 then b.1 else a.1, b.2)
theorem a_mmax {y : sCy} {cc : ByteArray} {ws : List Cond} {own : String} {ret : Option FieldType} {fr lo nL' : Nat} (hg : s_Gd y cc ws own ret fr lo nL') {pc : Nat} {L stk : List Value} {σ : sSt} {index : Nat} (hl : Cond.methodLink own index Lib.Math.max.name ∈ ws) (hst : Cond.static Lib.Math.max.name ∈ ws) (hini : Cond.initialized "java/lang/Math" ∈ ws) (hc : Cond.code Lib.Math.max.name Lib.Math.max.code 2 (some .int) ∈ ws) (hfr : 1 ≤ fr) (hlo : 21 ≤ lo) {x z : Int32} (hd : decode cc pc = .ok (.invokestatic index, 3)) (hws : s_ws stk ≤ 8) (hE : s_le σ (s_sE y)) (k : s_AW y (pc + 3) L (.int (if x < z then z else x) :: stk) σ) : s_AW y pc L (.int z :: .int x :: stk) σ := by
  obtain ⟨p, l, e, R, s, m, args, below, meth, c, G, nL, σ0, vE, σE⟩ := y
  obtain ⟨hx, hb, hml, hown, hts, ⟨hK, hNw⟩, hlk, hr, hR, hnL⟩ := hg
  have hE2 : s_le σ σE := hE
  intro H locs ls h
  exact va_mmax hx hb (hml.trans h.2.2.1.size.symm) hown (hts _ hl) (hts _ hst) (hts _ hini) (hts _ hc) (by rw [hR]; exact hfr) (by rw [s_ws_conc, hR]; show s_ws stk + 13 ≤ lo; omega) (by rw [hR]; exact Nat.sub_le_sub_right hE2.1 _) (by rw [hR]; exact Nat.sub_le_sub_right hE2.2 _) hd (k H locs ls h)
theorem se_max {κ : sCtx} {d pc0 pcA pcB pc1 index : Nat} {A B : sEx Int32} (hA : sSE κ d pc0 pcA q_i A) (hB : sSE κ (d + 1) pcA pcB q_i B) (hl : Cond.methodLink κ.2.2.1 index Lib.Math.max.name ∈ κ.2.1) (hst : Cond.static Lib.Math.max.name ∈ κ.2.1) (hini : Cond.initialized "java/lang/Math" ∈ κ.2.1) (hc : Cond.code Lib.Math.max.name Lib.Math.max.code 2 (some .int) ∈ κ.2.1) (hfr : 1 ≤ κ.2.2.2.2.1) (hlo : 21 ≤ κ.2.2.2.2.2.1) (h8 : d ≤ 8) (hd : decode κ.1 pcB = .ok (.invokestatic index, 3)) (hp : pcB + 3 = pc1) : sSE κ d pc0 pc1 q_i (e_max A B) := by
  intro L σ v σ1 h
  obtain ⟨a, h1, h⟩ := s_bind h
  obtain ⟨b, h2, h⟩ := s_bind h
  cases h
  subst hp
  obtain ⟨l1, k1⟩ := hA _ _ _ _ h1
  obtain ⟨l2, k2⟩ := hB _ _ _ _ h2
  exact ⟨l1.tr l2, fun y hy st hs hE k => k1 y hy st hs (l2.tr hE) (k2 y hy _ (s_ws_c hs rfl) hE (a_mmax hy.1 hl hst hini hc hfr hlo hd (Nat.le_trans hs h8) hE k))⟩
theorem a_mmin {y : sCy} {cc : ByteArray} {ws : List Cond} {own : String} {ret : Option FieldType} {fr lo nL' : Nat} (hg : s_Gd y cc ws own ret fr lo nL') {pc : Nat} {L stk : List Value} {σ : sSt} {index : Nat} (hl : Cond.methodLink own index Lib.Math.min.name ∈ ws) (hst : Cond.static Lib.Math.min.name ∈ ws) (hini : Cond.initialized "java/lang/Math" ∈ ws) (hc : Cond.code Lib.Math.min.name Lib.Math.min.code 2 (some .int) ∈ ws) (hfr : 1 ≤ fr) (hlo : 21 ≤ lo) {x z : Int32} (hd : decode cc pc = .ok (.invokestatic index, 3)) (hws : s_ws stk ≤ 8) (hE : s_le σ (s_sE y)) (k : s_AW y (pc + 3) L (.int (if z < x then z else x) :: stk) σ) : s_AW y pc L (.int z :: .int x :: stk) σ := by
  obtain ⟨p, l, e, R, s, m, args, below, meth, c, G, nL, σ0, vE, σE⟩ := y
  obtain ⟨hx, hb, hml, hown, hts, ⟨hK, hNw⟩, hlk, hr, hR, hnL⟩ := hg
  have hE2 : s_le σ σE := hE
  intro H locs ls h
  exact va_mmin hx hb (hml.trans h.2.2.1.size.symm) hown (hts _ hl) (hts _ hst) (hts _ hini) (hts _ hc) (by rw [hR]; exact hfr) (by rw [s_ws_conc, hR]; show s_ws stk + 13 ≤ lo; omega) (by rw [hR]; exact Nat.sub_le_sub_right hE2.1 _) (by rw [hR]; exact Nat.sub_le_sub_right hE2.2 _) hd (k H locs ls h)
theorem se_min {κ : sCtx} {d pc0 pcA pcB pc1 index : Nat} {A B : sEx Int32} (hA : sSE κ d pc0 pcA q_i A) (hB : sSE κ (d + 1) pcA pcB q_i B) (hl : Cond.methodLink κ.2.2.1 index Lib.Math.min.name ∈ κ.2.1) (hst : Cond.static Lib.Math.min.name ∈ κ.2.1) (hini : Cond.initialized "java/lang/Math" ∈ κ.2.1) (hc : Cond.code Lib.Math.min.name Lib.Math.min.code 2 (some .int) ∈ κ.2.1) (hfr : 1 ≤ κ.2.2.2.2.1) (hlo : 21 ≤ κ.2.2.2.2.2.1) (h8 : d ≤ 8) (hd : decode κ.1 pcB = .ok (.invokestatic index, 3)) (hp : pcB + 3 = pc1) : sSE κ d pc0 pc1 q_i (e_min A B) := by
  intro L σ v σ1 h
  obtain ⟨a, h1, h⟩ := s_bind h
  obtain ⟨b, h2, h⟩ := s_bind h
  cases h
  subst hp
  obtain ⟨l1, k1⟩ := hA _ _ _ _ h1
  obtain ⟨l2, k2⟩ := hB _ _ _ _ h2
  exact ⟨l1.tr l2, fun y hy st hs hE k => k1 y hy st hs (l2.tr hE) (k2 y hy _ (s_ws_c hs rfl) hE (a_mmin hy.1 hl hst hini hc hfr hlo hd (Nat.le_trans hs h8) hE k))⟩
def m_run (body : sStm) : sSem := fun args σ => match body args σ with
  | some (.inl r) => some r
  | _ => none
/-- a method out of its body: so many arguments, none of them of two places -/
def m_of (n : Nat) (body : sStm) : sSem := fun args σ => if args.length = n ∧ (args.all fun v => v.category == 1) = true then m_run body args σ else none
/-- a method of an object: its receiver is one of its class -/
def m_ofV (ci n : Nat) (body : sStm) : sSem := fun args σ => match args with
  | .ref b :: _ => (h_obj σ (some b) ci).bind fun _ => m_of n body args σ
  | _ => none
theorem s_Rcv_of (ci n : Nat) (body : sStm) : s_Rcv ci (m_ofV ci n body) := by
  intro args σ r h
  unfold m_ofV at h
  split at h
  · next b As =>
    obtain ⟨fs, h1, -⟩ := s_bind h
    obtain ⟨b', e1, e2⟩ := h_obj_some h1
    cases e1
    exact ⟨b, As, fs, rfl, e2⟩
  · cases h
theorem m_run_run {body : sStm} {args : List Value} {σ : sSt} {r : Option Value × sSt} (h : m_run body args σ = some r) : body args σ = some (.inl r) := by
  unfold m_run at h
  split at h
  · next q e => cases h; exact e
  · cases h
theorem m_of_run (n : Nat) (body : sStm) : ∀ (args : List Value) (σ : sSt) (r : Option Value × sSt), m_of n body args σ = some r → body args σ = some (.inl r) := by
  intro args σ r h
  unfold m_of at h
  split at h
  · exact m_run_run h
  · cases h
theorem m_of_cat (n : Nat) (body : sStm) {nL : Nat} (hn : n ≤ nL) : ∀ (args : List Value) (σ : sSt) (r : Option Value × sSt), m_of n body args σ = some r → args.length ≤ nL ∧ ∀ v ∈ args, v.category = 1 := by
  intro args σ r h
  unfold m_of at h
  split at h
  · next e => exact ⟨by omega, fun v hv => by have := List.all_eq_true.mp e.2 v hv; simpa using this⟩
  · cases h
theorem m_ofV_of {ci n : Nat} {body : sStm} {args : List Value} {σ : sSt} {r : Option Value × sSt} (h : m_ofV ci n body args σ = some r) : m_of n body args σ = some r := by
  unfold m_ofV at h
  split at h
  · obtain ⟨fs, -, h2⟩ := s_bind h
    exact h2
  · cases h
theorem m_ofV_run (ci n : Nat) (body : sStm) : ∀ (args : List Value) (σ : sSt) (r : Option Value × sSt), m_ofV ci n body args σ = some r → body args σ = some (.inl r) := fun args σ r h => m_of_run n body args σ r (m_ofV_of h)
theorem m_ofV_cat (ci n : Nat) (body : sStm) {nL : Nat} (hn : n ≤ nL) : ∀ (args : List Value) (σ : sSt) (r : Option Value × sSt), m_ofV ci n body args σ = some r → args.length ≤ nL ∧ ∀ v ∈ args, v.category = 1 := fun args σ r h => m_of_cat n body hn args σ r (m_ofV_of h)
/-! switches: which values are none of the keys -/
theorem i_tn {x : Int32} (k : Int32) (h : ¬ x = k) : x.toInt ≠ k.toInt := fun e => h (Int32.toInt_inj.mp e)
theorem i_out2 {x : Int32} (h0 : ¬ x = nI 0) (h1 : ¬ x = nI 1) : x.toInt < 0 ∨ 1 < x.toInt := by
  have e0 : x.toInt ≠ 0 := i_tn (nI 0) h0
  have e1 : x.toInt ≠ 1 := i_tn (nI 1) h1
  omega
theorem i_out3 {x : Int32} (h0 : ¬ x = nI 0) (h1 : ¬ x = nI 1) (h2 : ¬ x = nI 2) : x.toInt < 0 ∨ 2 < x.toInt := by
  have e0 : x.toInt ≠ 0 := i_tn (nI 0) h0
  have e1 : x.toInt ≠ 1 := i_tn (nI 1) h1
  have e2 : x.toInt ≠ 2 := i_tn (nI 2) h2
  omega
theorem i_out4 {x : Int32} (h0 : ¬ x = nI 0) (h1 : ¬ x = nI 1) (h2 : ¬ x = nI 2) (h3 : ¬ x = nI 3) : x.toInt < 0 ∨ 3 < x.toInt := by
  have e0 : x.toInt ≠ 0 := i_tn (nI 0) h0
  have e1 : x.toInt ≠ 1 := i_tn (nI 1) h1
  have e2 : x.toInt ≠ 2 := i_tn (nI 2) h2
  have e3 : x.toInt ≠ 3 := i_tn (nI 3) h3
  omega
theorem i_out5 {x : Int32} (h0 : ¬ x = nI 0) (h1 : ¬ x = nI 1) (h2 : ¬ x = nI 2) (h3 : ¬ x = nI 3) (h4 : ¬ x = nI 4) : x.toInt < 0 ∨ 4 < x.toInt := by
  have e0 : x.toInt ≠ 0 := i_tn (nI 0) h0
  have e1 : x.toInt ≠ 1 := i_tn (nI 1) h1
  have e2 : x.toInt ≠ 2 := i_tn (nI 2) h2
  have e3 : x.toInt ≠ 3 := i_tn (nI 3) h3
  have e4 : x.toInt ≠ 4 := i_tn (nI 4) h4
  omega
theorem i_out7 {x : Int32} (h0 : ¬ x = nI 0) (h1 : ¬ x = nI 1) (h2 : ¬ x = nI 2) (h3 : ¬ x = nI 3) (h4 : ¬ x = nI 4) (h5 : ¬ x = nI 5) (h6 : ¬ x = nI 6) : x.toInt < 0 ∨ 6 < x.toInt := by
  have e0 : x.toInt ≠ 0 := i_tn (nI 0) h0
  have e1 : x.toInt ≠ 1 := i_tn (nI 1) h1
  have e2 : x.toInt ≠ 2 := i_tn (nI 2) h2
  have e3 : x.toInt ≠ 3 := i_tn (nI 3) h3
  have e4 : x.toInt ≠ 4 := i_tn (nI 4) h4
  have e5 : x.toInt ≠ 5 := i_tn (nI 5) h5
  have e6 : x.toInt ≠ 6 := i_tn (nI 6) h6
  omega
theorem i_out8 {x : Int32} (h0 : ¬ x = nI 0) (h1 : ¬ x = nI 1) (h2 : ¬ x = nI 2) (h3 : ¬ x = nI 3) (h4 : ¬ x = nI 4) (h5 : ¬ x = nI 5) (h6 : ¬ x = nI 6) (h7 : ¬ x = nI 7) : x.toInt < 0 ∨ 7 < x.toInt := by
  have e0 : x.toInt ≠ 0 := i_tn (nI 0) h0
  have e1 : x.toInt ≠ 1 := i_tn (nI 1) h1
  have e2 : x.toInt ≠ 2 := i_tn (nI 2) h2
  have e3 : x.toInt ≠ 3 := i_tn (nI 3) h3
  have e4 : x.toInt ≠ 4 := i_tn (nI 4) h4
  have e5 : x.toInt ≠ 5 := i_tn (nI 5) h5
  have e6 : x.toInt ≠ 6 := i_tn (nI 6) h6
  have e7 : x.toInt ≠ 7 := i_tn (nI 7) h7
  omega
theorem i_out14 {x : Int32} (h0 : ¬ x = nI 0) (h1 : ¬ x = nI 1) (h2 : ¬ x = nI 2) (h3 : ¬ x = nI 3) (h4 : ¬ x = nI 4) (h5 : ¬ x = nI 5) (h6 : ¬ x = nI 6) (h7 : ¬ x = nI 7) (h8 : ¬ x = nI 8) (h9 : ¬ x = nI 9) (h10 : ¬ x = nI 10) (h11 : ¬ x = nI 11) (h12 : ¬ x = nI 12) (h13 : ¬ x = nI 13) : x.toInt < 0 ∨ 13 < x.toInt := by
  have e0 : x.toInt ≠ 0 := i_tn (nI 0) h0
  have e1 : x.toInt ≠ 1 := i_tn (nI 1) h1
  have e2 : x.toInt ≠ 2 := i_tn (nI 2) h2
  have e3 : x.toInt ≠ 3 := i_tn (nI 3) h3
  have e4 : x.toInt ≠ 4 := i_tn (nI 4) h4
  have e5 : x.toInt ≠ 5 := i_tn (nI 5) h5
  have e6 : x.toInt ≠ 6 := i_tn (nI 6) h6
  have e7 : x.toInt ≠ 7 := i_tn (nI 7) h7
  have e8 : x.toInt ≠ 8 := i_tn (nI 8) h8
  have e9 : x.toInt ≠ 9 := i_tn (nI 9) h9
  have e10 : x.toInt ≠ 10 := i_tn (nI 10) h10
  have e11 : x.toInt ≠ 11 := i_tn (nI 11) h11
  have e12 : x.toInt ≠ 12 := i_tn (nI 12) h12
  have e13 : x.toInt ≠ 13 := i_tn (nI 13) h13
  omega
