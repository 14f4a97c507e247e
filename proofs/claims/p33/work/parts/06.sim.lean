/-! MY SIMULATION ROWS (own work) -/
abbrev sCtx : Type := ByteArray × List Cond × String × Option FieldType × Nat × Nat × Nat × List vw_C × String × Bool
def s_G2 (y : sCy) (κ : sCtx) : Prop := s_Gd y κ.1 κ.2.1 κ.2.2.1 κ.2.2.2.1 κ.2.2.2.2.1 κ.2.2.2.2.2.1 κ.2.2.2.2.2.2.1 ∧ s_cl y = κ.2.2.2.2.2.2.2.1 ∧ s_comp y = κ.2.2.2.2.2.2.2.2.1 ∧ (κ.2.2.2.2.2.2.2.2.2 = true → s_ini y)
def s_ws (st : List Value) : Nat := (st.map Value.category).sum
theorem s_ws_c {v : Value} {st : List Value} {d : Nat} (h : s_ws st ≤ d) (hv : v.category = 1) : s_ws (v :: st) ≤ d + 1 := by
  unfold s_ws at *
  rw [List.map_cons, List.sum_cons, hv]
  omega
theorem s_ws_d {v : Value} {st : List Value} {d : Nat} (h : s_ws st ≤ d) (hv : v.category = 2) : s_ws (v :: st) ≤ d + 2 := by
  unfold s_ws at *
  rw [List.map_cons, List.sum_cons, hv]
  omega
def sSE {α : Type} (κ : sCtx) (d pc0 pc1 : Nat) (inj : α → Value) (E : sEx α) : Prop := ∀ (L : List Value) (σ : sSt) (v : α) (σ1 : sSt), E L σ = some (v, σ1) → s_le σ σ1 ∧ ∀ y : sCy, s_G2 y κ → ∀ st : List Value, s_ws st ≤ d → s_le σ1 (s_sE y) → s_AW y pc1 L (inj v :: st) σ1 → s_AW y pc0 L st σ
def sSA (κ : sCtx) (d pc0 pc1 : Nat) (E : sEx (List Value)) : Prop := ∀ (L : List Value) (σ : sSt) (vs : List Value) (σ1 : sSt), E L σ = some (vs, σ1) → s_le σ σ1 ∧ (∀ v ∈ vs, v.category = 1) ∧ ∀ y : sCy, s_G2 y κ → ∀ st : List Value, s_ws st ≤ d → s_le σ1 (s_sE y) → s_AW y pc1 L (vs.reverse ++ st) σ1 → s_AW y pc0 L st σ
def sSC (κ : sCtx) (d pc0 pcT pcF : Nat) (C : sCd) : Prop := ∀ (L : List Value) (σ : sSt) (b : Bool) (σ1 : sSt), C L σ = some (b, σ1) → s_le σ σ1 ∧ ∀ y : sCy, s_G2 y κ → ∀ st : List Value, s_ws st ≤ d → s_le σ1 (s_sE y) → (b = true → s_AW y pcT L st σ1) → (b = false → s_AW y pcF L st σ1) → s_AW y pc0 L st σ
def s_out (r : sRes) : sSt := match r with
  | .inl v => v.2
  | .inr q => q.2
def s_fin (y : sCy) (pc1 : Nat) (r : sRes) : Prop := match r with
  | .inl v => v.1 = s_vE y ∧ v.2 = s_sE y
  | .inr q => s_AW y pc1 q.1 [] q.2
def sSS (κ : sCtx) (pc0 pc1 : Nat) (S : sStm) : Prop := ∀ (L : List Value) (σ : sSt) (r : sRes), S L σ = some r → s_le σ (s_out r) ∧ ∀ y : sCy, s_G2 y κ → s_le (s_out r) (s_sE y) → s_fin y pc1 r → s_AW y pc0 L [] σ
theorem v_i_some {v : Option Value} {x : Int32} (h : v_i v = some x) : v = some (.int x) := by
  unfold v_i at h
  split at h
  · cases h; rfl
  · cases h
theorem v_r_some {v : Option Value} {x : Option Nat} (h : v_r v = some x) : v = some (va_rf x) := by
  unfold v_r at h
  split at h
  · cases h; rfl
  · cases h; rfl
  · cases h
theorem h_obj_some {σ : sSt} {r : Option Nat} {ci : Nat} {fs : List Value} (h : h_obj σ r ci = some fs) : ∃ b, r = some b ∧ σ.1[b]? = some (.inl (ci, fs)) := by
  unfold h_obj at h
  split at h
  · cases h
  · next b =>
    split at h
    · next c fs' hq =>
      split at h
      · next e => cases h; exact ⟨b, rfl, by rw [hq, e]⟩
      · cases h
    · cases h
theorem h_arr_some {σ : sSt} {r : Option Nat} {x : Nat × (Nat → Int32)} (h : h_arr σ r = some x) : ∃ b, r = some b ∧ σ.1[b]? = some (.inr (.inl x)) := by
  unfold h_arr at h
  split at h
  · cases h
  · next b =>
    split at h
    · next x' hq => cases h; exact ⟨b, rfl, hq⟩
    · cases h
theorem h_rar_some {σ : sSt} {r : Option Nat} {x : Nat × (Nat → Option Nat)} (h : h_rar σ r = some x) : ∃ b, r = some b ∧ σ.1[b]? = some (.inr (.inr x)) := by
  unfold h_rar at h
  split at h
  · cases h
  · next b =>
    split at h
    · next x' hq => cases h; exact ⟨b, rfl, hq⟩
    · cases h
theorem h_ix_some {i : Int32} {n j : Nat} (h : h_ix i n = some j) : vp_in i n ∧ i.toNatClampNeg = j := by
  unfold h_ix at h
  split at h
  · next e => cases h; exact ⟨vp_in_iff.mpr e, rfl⟩
  · cases h
theorem s_le_set {σ : sSt} {r : Option Nat} {a : sAC} : s_le σ (h_set σ r a) := by
  unfold h_set
  split
  · exact s_le.rf
  · exact ⟨by rw [List.length_set]; exact Nat.le_refl _, Nat.le_refl _⟩
theorem s_bind {α β : Type} {x : Option α} {f : α → Option β} {z : β} (h : x.bind f = some z) : ∃ a, x = some a ∧ f a = some z := Option.bind_eq_some_iff.mp h
theorem s_map {α β : Type} {x : Option α} {f : α → β} {z : β} (h : x.map f = some z) : ∃ a, x = some a ∧ f a = z := Option.map_eq_some_iff.mp h
abbrev q_i : Int32 → Value := Value.int
abbrev q_r : Option Nat → Value := va_rf
abbrev q_d : UInt64 → Value := Value.double

theorem se_iconst {κ : sCtx} {d pc0 pc1 : Nat} {n : Int} {v0 : Int32} (hd : decode κ.1 pc0 = .ok (.iconst n, 1)) (hv : Int32.ofInt n = v0) (hp : pc0 + 1 = pc1) : sSE κ d pc0 pc1 q_i (e_k v0) := by
  intro L σ v σ1 h
  cases h
  subst hp
  refine ⟨s_le.rf, fun y hy st hs hE k => ?_⟩
  exact a_iconst hy.1 hd hv k
theorem se_bipush {κ : sCtx} {d pc0 pc1 : Nat} {n : Int} {v0 : Int32} (hd : decode κ.1 pc0 = .ok (.bipush n, 2)) (hv : (Int8.ofInt n).toInt32 = v0) (hp : pc0 + 2 = pc1) : sSE κ d pc0 pc1 q_i (e_k v0) := by
  intro L σ v σ1 h
  cases h
  subst hp
  refine ⟨s_le.rf, fun y hy st hs hE k => ?_⟩
  exact a_bipush hy.1 hd hv k
theorem se_sipush {κ : sCtx} {d pc0 pc1 : Nat} {n : Int} {v0 : Int32} (hd : decode κ.1 pc0 = .ok (.sipush n, 3)) (hv : (Int16.ofInt n).toInt32 = v0) (hp : pc0 + 3 = pc1) : sSE κ d pc0 pc1 q_i (e_k v0) := by
  intro L σ v σ1 h
  cases h
  subst hp
  refine ⟨s_le.rf, fun y hy st hs hE k => ?_⟩
  exact a_sipush hy.1 hd hv k
theorem se_iload_n {κ : sCtx} {d pc0 pc1 : Nat} {j : Fin 4} {i : Nat} (hd : decode κ.1 pc0 = .ok (.iload_n j, 1)) (hj : (j : Nat) = i) (hp : pc0 + 1 = pc1) : sSE κ d pc0 pc1 q_i (e_i i) := by
  intro L σ v σ1 h
  obtain ⟨x, h1, h2⟩ := s_map h
  cases h2
  subst hp
  refine ⟨s_le.rf, fun y hy st hs hE k => ?_⟩
  exact a_iload_n hy.1 hd hj (v_i_some h1) k
theorem se_iload {κ : sCtx} {d pc0 pc1 : Nat} {i : Nat} (hd : decode κ.1 pc0 = .ok (.iload i, 2)) (hp : pc0 + 2 = pc1) : sSE κ d pc0 pc1 q_i (e_i i) := by
  intro L σ v σ1 h
  obtain ⟨x, h1, h2⟩ := s_map h
  cases h2
  subst hp
  refine ⟨s_le.rf, fun y hy st hs hE k => ?_⟩
  exact a_iload hy.1 hd (v_i_some h1) k
theorem se_aload_n {κ : sCtx} {d pc0 pc1 : Nat} {j : Fin 4} {i : Nat} (hd : decode κ.1 pc0 = .ok (.aload_n j, 1)) (hj : (j : Nat) = i) (hp : pc0 + 1 = pc1) : sSE κ d pc0 pc1 q_r (e_r i) := by
  intro L σ v σ1 h
  obtain ⟨x, h1, h2⟩ := s_map h
  cases h2
  subst hp
  refine ⟨s_le.rf, fun y hy st hs hE k => ?_⟩
  exact a_aload_n hy.1 hd hj (v_r_some h1) k
theorem se_aload {κ : sCtx} {d pc0 pc1 : Nat} {i : Nat} (hd : decode κ.1 pc0 = .ok (.aload i, 2)) (hp : pc0 + 2 = pc1) : sSE κ d pc0 pc1 q_r (e_r i) := by
  intro L σ v σ1 h
  obtain ⟨x, h1, h2⟩ := s_map h
  cases h2
  subst hp
  refine ⟨s_le.rf, fun y hy st hs hE k => ?_⟩
  exact a_aload hy.1 hd (v_r_some h1) k
theorem se_null {κ : sCtx} {d pc0 pc1 : Nat} (hd : decode κ.1 pc0 = .ok (.aconst_null, 1)) (hp : pc0 + 1 = pc1) : sSE κ d pc0 pc1 q_r (e_nil) := by
  intro L σ v σ1 h
  cases h
  subst hp
  refine ⟨s_le.rf, fun y hy st hs hE k => ?_⟩
  exact a_null hy.1 hd k
theorem se_d0 {κ : sCtx} {d pc0 pc1 : Nat} (hd : decode κ.1 pc0 = .ok (.dconst 0, 1)) (hp : pc0 + 1 = pc1) : sSE κ d pc0 pc1 q_d (e_d0) := by
  intro L σ v σ1 h
  cases h
  subst hp
  refine ⟨s_le.rf, fun y hy st hs hE k => ?_⟩
  exact a_dconst0 hy.1 hd k
theorem se_add {κ : sCtx} {d pc0 pcA pcB pc1 : Nat} {A B : sEx Int32} (hA : sSE κ d pc0 pcA q_i A) (hB : sSE κ (d + 1) pcA pcB q_i B) (hd : decode κ.1 pcB = .ok (.iadd, 1)) (hp : pcB + 1 = pc1) : sSE κ d pc0 pc1 q_i (e_add A B) := by
  intro L σ v σ1 h
  obtain ⟨a, h1, h⟩ := s_bind h
  obtain ⟨b, h2, h⟩ := s_bind h
  cases h
  subst hp
  obtain ⟨l1, k1⟩ := hA _ _ _ _ h1
  obtain ⟨l2, k2⟩ := hB _ _ _ _ h2
  exact ⟨l1.tr l2, fun y hy st hs hE k => k1 y hy st hs (l2.tr hE) (k2 y hy _ (s_ws_c hs rfl) hE (a_iadd hy.1 hd k))⟩
theorem se_sub {κ : sCtx} {d pc0 pcA pcB pc1 : Nat} {A B : sEx Int32} (hA : sSE κ d pc0 pcA q_i A) (hB : sSE κ (d + 1) pcA pcB q_i B) (hd : decode κ.1 pcB = .ok (.isub, 1)) (hp : pcB + 1 = pc1) : sSE κ d pc0 pc1 q_i (e_sub A B) := by
  intro L σ v σ1 h
  obtain ⟨a, h1, h⟩ := s_bind h
  obtain ⟨b, h2, h⟩ := s_bind h
  cases h
  subst hp
  obtain ⟨l1, k1⟩ := hA _ _ _ _ h1
  obtain ⟨l2, k2⟩ := hB _ _ _ _ h2
  exact ⟨l1.tr l2, fun y hy st hs hE k => k1 y hy st hs (l2.tr hE) (k2 y hy _ (s_ws_c hs rfl) hE (a_isub hy.1 hd k))⟩
theorem se_mul {κ : sCtx} {d pc0 pcA pcB pc1 : Nat} {A B : sEx Int32} (hA : sSE κ d pc0 pcA q_i A) (hB : sSE κ (d + 1) pcA pcB q_i B) (hd : decode κ.1 pcB = .ok (.imul, 1)) (hp : pcB + 1 = pc1) : sSE κ d pc0 pc1 q_i (e_mul A B) := by
  intro L σ v σ1 h
  obtain ⟨a, h1, h⟩ := s_bind h
  obtain ⟨b, h2, h⟩ := s_bind h
  cases h
  subst hp
  obtain ⟨l1, k1⟩ := hA _ _ _ _ h1
  obtain ⟨l2, k2⟩ := hB _ _ _ _ h2
  exact ⟨l1.tr l2, fun y hy st hs hE k => k1 y hy st hs (l2.tr hE) (k2 y hy _ (s_ws_c hs rfl) hE (a_imul hy.1 hd k))⟩
theorem se_div {κ : sCtx} {d pc0 pcA pcB pc1 : Nat} {A B : sEx Int32} (hA : sSE κ d pc0 pcA q_i A) (hB : sSE κ (d + 1) pcA pcB q_i B) (hd : decode κ.1 pcB = .ok (.idiv, 1)) (hp : pcB + 1 = pc1) : sSE κ d pc0 pc1 q_i (e_div A B) := by
  intro L σ v σ1 h
  obtain ⟨a, h1, h⟩ := s_bind h
  obtain ⟨b, h2, h⟩ := s_bind h
  obtain ⟨x, h3, h⟩ := s_map h
  cases h
  subst hp
  unfold o_div at h3
  split at h3
  · cases h3
  next hne =>
  cases h3
  obtain ⟨l1, k1⟩ := hA _ _ _ _ h1
  obtain ⟨l2, k2⟩ := hB _ _ _ _ h2
  exact ⟨l1.tr l2, fun y hy st hs hE k => k1 y hy st hs (l2.tr hE) (k2 y hy _ (s_ws_c hs rfl) hE (a_idiv hy.1 hd hne k))⟩
theorem se_rem {κ : sCtx} {d pc0 pcA pcB pc1 : Nat} {A B : sEx Int32} (hA : sSE κ d pc0 pcA q_i A) (hB : sSE κ (d + 1) pcA pcB q_i B) (hd : decode κ.1 pcB = .ok (.irem, 1)) (hp : pcB + 1 = pc1) : sSE κ d pc0 pc1 q_i (e_rem A B) := by
  intro L σ v σ1 h
  obtain ⟨a, h1, h⟩ := s_bind h
  obtain ⟨b, h2, h⟩ := s_bind h
  obtain ⟨x, h3, h⟩ := s_map h
  cases h
  subst hp
  unfold o_rem at h3
  split at h3
  · cases h3
  next hne =>
  cases h3
  obtain ⟨l1, k1⟩ := hA _ _ _ _ h1
  obtain ⟨l2, k2⟩ := hB _ _ _ _ h2
  exact ⟨l1.tr l2, fun y hy st hs hE k => k1 y hy st hs (l2.tr hE) (k2 y hy _ (s_ws_c hs rfl) hE (a_irem hy.1 hd hne k))⟩
theorem se_ddiv {κ : sCtx} {d pc0 pcA pcB pc1 : Nat} {A B : sEx UInt64} (hA : sSE κ d pc0 pcA q_d A) (hB : sSE κ (d + 2) pcA pcB q_d B) (hd : decode κ.1 pcB = .ok (.ddiv, 1)) (hp : pcB + 1 = pc1) : sSE κ d pc0 pc1 q_d (e_ddiv A B) := by
  intro L σ v σ1 h
  obtain ⟨a, h1, h⟩ := s_bind h
  obtain ⟨b, h2, h⟩ := s_bind h
  obtain ⟨x, h3, h⟩ := s_map h
  cases h
  subst hp
  unfold o_ddiv at h3
  split at h3
  · next hne =>
    cases h3
    obtain ⟨l1, k1⟩ := hA _ _ _ _ h1
    obtain ⟨l2, k2⟩ := hB _ _ _ _ h2
    exact ⟨l1.tr l2, fun y hy st hs hE k => k1 y hy st hs (l2.tr hE) (k2 y hy _ (s_ws_d hs rfl) hE (a_ddiv hy.1 hd hne k))⟩
  · cases h3
theorem se_i2d {κ : sCtx} {d pc0 pcA pc1 : Nat} {A : sEx Int32} (hA : sSE κ d pc0 pcA q_i A) (hd : decode κ.1 pcA = .ok (.i2d, 1)) (hp : pcA + 1 = pc1) : sSE κ d pc0 pc1 q_d (e_i2d A) := by
  intro L σ v σ1 h
  obtain ⟨a, h1, h⟩ := s_map h
  cases h
  subst hp
  obtain ⟨l1, k1⟩ := hA _ _ _ _ h1
  exact ⟨l1, fun y hy st hs hE k => k1 y hy st hs hE (a_i2d hy.1 hd k)⟩
theorem s_Cl_of {y : sCy} {ws : List Cond} {cl : List vw_C} {ci : Nat} {C : String} {T : u_T} {N : Nat} (e : s_cl y = cl) (hc : cl[ci]? = some (C, T, N)) (hin : ∀ w ∈ u_ws C T N, w ∈ ws) : s_Cl y ws ci C T N := ⟨by rw [e]; exact hc, hin⟩
theorem se_get {κ : sCtx} {d pc0 pcA pc1 : Nat} {A : sEx (Option Nat)} {ci N k index : Nat} {C : String} {T : u_T} (hA : sSE κ d pc0 pcA q_r A) (hc : κ.2.2.2.2.2.2.2.1[ci]? = some (C, T, N)) (hin : ∀ w ∈ u_ws C T N, w ∈ κ.2.1) (hk : k < N) (hl : Cond.fieldLink κ.2.2.1 index C (T k).2.1 (T k).2.2.1 ∈ κ.2.1) (hT : (T k).1 = C) (hd : decode κ.1 pcA = .ok (.getfield index, 3)) (hp : pcA + 3 = pc1) : sSE κ d pc0 pc1 q_i (e_get ci k A) := by
  intro L σ v σ1 h
  obtain ⟨a, h1, h⟩ := s_bind h
  obtain ⟨fs, h2, h⟩ := s_bind h
  obtain ⟨x, h3, h⟩ := s_map h
  cases h
  subst hp
  obtain ⟨a, σ2⟩ := a
  obtain ⟨b, e1, e2⟩ := h_obj_some h2
  have e1 : a = some b := e1
  subst e1
  obtain ⟨l1, k1⟩ := hA _ _ _ _ h1
  exact ⟨l1, fun y hy st hs hE kk => k1 y hy st hs hE (a_get hy.1 (s_Cl_of hy.2.1 hc hin) hk hl hT hd e2 (v_i_some h3) kk)⟩
theorem se_getR {κ : sCtx} {d pc0 pcA pc1 : Nat} {A : sEx (Option Nat)} {ci N k index : Nat} {C : String} {T : u_T} (hA : sSE κ d pc0 pcA q_r A) (hc : κ.2.2.2.2.2.2.2.1[ci]? = some (C, T, N)) (hin : ∀ w ∈ u_ws C T N, w ∈ κ.2.1) (hk : k < N) (hl : Cond.fieldLink κ.2.2.1 index C (T k).2.1 (T k).2.2.1 ∈ κ.2.1) (hT : (T k).1 = C) (hd : decode κ.1 pcA = .ok (.getfield index, 3)) (hp : pcA + 3 = pc1) : sSE κ d pc0 pc1 q_r (e_getR ci k A) := by
  intro L σ v σ1 h
  obtain ⟨a, h1, h⟩ := s_bind h
  obtain ⟨fs, h2, h⟩ := s_bind h
  obtain ⟨x, h3, h⟩ := s_map h
  cases h
  subst hp
  obtain ⟨a, σ2⟩ := a
  obtain ⟨b, e1, e2⟩ := h_obj_some h2
  have e1 : a = some b := e1
  subst e1
  obtain ⟨l1, k1⟩ := hA _ _ _ _ h1
  exact ⟨l1, fun y hy st hs hE kk => k1 y hy st hs hE (a_get hy.1 (s_Cl_of hy.2.1 hc hin) hk hl hT hd e2 (v_r_some h3) kk)⟩
theorem se_getN {κ : sCtx} {d pc0 pcA pc1 : Nat} {A : sEx (Option Nat)} {ci N k index : Nat} {C host : String} {T : u_T} (hA : sSE κ d pc0 pcA q_r A) (hc : κ.2.2.2.2.2.2.2.1[ci]? = some (C, T, N)) (hin : ∀ w ∈ u_ws C T N, w ∈ κ.2.1) (hk : k < N) (hl : Cond.fieldLinkNest κ.2.2.1 index C (T k).2.1 (T k).2.2.1 host ∈ s_nest) (hT : (T k).1 = C) (hd : decode κ.1 pcA = .ok (.getfield index, 3)) (hp : pcA + 3 = pc1) : sSE κ d pc0 pc1 q_i (e_get ci k A) := by
  intro L σ v σ1 h
  obtain ⟨a, h1, h⟩ := s_bind h
  obtain ⟨fs, h2, h⟩ := s_bind h
  obtain ⟨x, h3, h⟩ := s_map h
  cases h
  subst hp
  obtain ⟨a, σ2⟩ := a
  obtain ⟨b, e1, e2⟩ := h_obj_some h2
  have e1 : a = some b := e1
  subst e1
  obtain ⟨l1, k1⟩ := hA _ _ _ _ h1
  exact ⟨l1, fun y hy st hs hE kk => k1 y hy st hs hE (a_getN hy.1 (s_Cl_of hy.2.1 hc hin) hk hl hT hd e2 (v_i_some h3) kk)⟩
theorem se_getRN {κ : sCtx} {d pc0 pcA pc1 : Nat} {A : sEx (Option Nat)} {ci N k index : Nat} {C host : String} {T : u_T} (hA : sSE κ d pc0 pcA q_r A) (hc : κ.2.2.2.2.2.2.2.1[ci]? = some (C, T, N)) (hin : ∀ w ∈ u_ws C T N, w ∈ κ.2.1) (hk : k < N) (hl : Cond.fieldLinkNest κ.2.2.1 index C (T k).2.1 (T k).2.2.1 host ∈ s_nest) (hT : (T k).1 = C) (hd : decode κ.1 pcA = .ok (.getfield index, 3)) (hp : pcA + 3 = pc1) : sSE κ d pc0 pc1 q_r (e_getR ci k A) := by
  intro L σ v σ1 h
  obtain ⟨a, h1, h⟩ := s_bind h
  obtain ⟨fs, h2, h⟩ := s_bind h
  obtain ⟨x, h3, h⟩ := s_map h
  cases h
  subst hp
  obtain ⟨a, σ2⟩ := a
  obtain ⟨b, e1, e2⟩ := h_obj_some h2
  have e1 : a = some b := e1
  subst e1
  obtain ⟨l1, k1⟩ := hA _ _ _ _ h1
  exact ⟨l1, fun y hy st hs hE kk => k1 y hy st hs hE (a_getN hy.1 (s_Cl_of hy.2.1 hc hin) hk hl hT hd e2 (v_r_some h3) kk)⟩
theorem se_ald {κ : sCtx} {d pc0 pcA pcB pc1 : Nat} {A : sEx (Option Nat)} {I : sEx Int32} (hA : sSE κ d pc0 pcA q_r A) (hI : sSE κ (d + 1) pcA pcB q_i I) (hd : decode κ.1 pcB = .ok (.iaload, 1)) (hp : pcB + 1 = pc1) : sSE κ d pc0 pc1 q_i (e_ald A I) := by
  intro L σ v σ1 h
  obtain ⟨⟨a, σ2⟩, h1, h⟩ := s_bind h
  obtain ⟨⟨i, σ3⟩, h2, h⟩ := s_bind h
  obtain ⟨x, h3, h⟩ := s_bind h
  obtain ⟨j, h4, h⟩ := s_map h
  cases h
  subst hp
  obtain ⟨b, e1, e2⟩ := h_arr_some h3
  have e1 : a = some b := e1
  subst e1
  obtain ⟨e3, e4⟩ := h_ix_some h4
  subst e4
  obtain ⟨l1, k1⟩ := hA _ _ _ _ h1
  obtain ⟨l2, k2⟩ := hI _ _ _ _ h2
  exact ⟨l1.tr l2, fun y hy st hs hE k => k1 y hy st hs (l2.tr hE) (k2 y hy _ (s_ws_c hs rfl) hE (a_iald hy.1 hd e2 e3 k))⟩
theorem va_rf_c (r : Option Nat) : (va_rf r).category = 1 := by cases r <;> rfl
theorem se_aldR {κ : sCtx} {d pc0 pcA pcB pc1 : Nat} {A : sEx (Option Nat)} {I : sEx Int32} (hA : sSE κ d pc0 pcA q_r A) (hI : sSE κ (d + 1) pcA pcB q_i I) (hd : decode κ.1 pcB = .ok (.aaload, 1)) (hp : pcB + 1 = pc1) : sSE κ d pc0 pc1 q_r (e_aldR A I) := by
  intro L σ v σ1 h
  obtain ⟨⟨a, σ2⟩, h1, h⟩ := s_bind h
  obtain ⟨⟨i, σ3⟩, h2, h⟩ := s_bind h
  obtain ⟨x, h3, h⟩ := s_bind h
  obtain ⟨j, h4, h⟩ := s_map h
  cases h
  subst hp
  obtain ⟨b, e1, e2⟩ := h_rar_some h3
  have e1 : a = some b := e1
  subst e1
  obtain ⟨e3, e4⟩ := h_ix_some h4
  subst e4
  obtain ⟨l1, k1⟩ := hA _ _ _ _ h1
  obtain ⟨l2, k2⟩ := hI _ _ _ _ h2
  exact ⟨l1.tr l2, fun y hy st hs hE k => k1 y hy st hs (l2.tr hE) (k2 y hy _ (s_ws_c hs rfl) hE (a_aald hy.1 hd e2 e3 k))⟩
theorem se_len {κ : sCtx} {d pc0 pcA pc1 : Nat} {A : sEx (Option Nat)} (hA : sSE κ d pc0 pcA q_r A) (hd : decode κ.1 pcA = .ok (.arraylength, 1)) (hp : pcA + 1 = pc1) : sSE κ d pc0 pc1 q_i (e_len A) := by
  intro L σ v σ1 h
  obtain ⟨⟨a, σ2⟩, h1, h⟩ := s_bind h
  obtain ⟨x, h3, h⟩ := s_map h
  cases h
  subst hp
  obtain ⟨b, e1, e2⟩ := h_arr_some h3
  have e1 : a = some b := e1
  subst e1
  obtain ⟨l1, k1⟩ := hA _ _ _ _ h1
  exact ⟨l1, fun y hy st hs hE k => k1 y hy st hs hE (a_ilen hy.1 hd e2 k)⟩
theorem se_lenR {κ : sCtx} {d pc0 pcA pc1 : Nat} {A : sEx (Option Nat)} (hA : sSE κ d pc0 pcA q_r A) (hd : decode κ.1 pcA = .ok (.arraylength, 1)) (hp : pcA + 1 = pc1) : sSE κ d pc0 pc1 q_i (e_lenR A) := by
  intro L σ v σ1 h
  obtain ⟨⟨a, σ2⟩, h1, h⟩ := s_bind h
  obtain ⟨x, h3, h⟩ := s_map h
  cases h
  subst hp
  obtain ⟨b, e1, e2⟩ := h_rar_some h3
  have e1 : a = some b := e1
  subst e1
  obtain ⟨l1, k1⟩ := hA _ _ _ _ h1
  exact ⟨l1, fun y hy st hs hE k => k1 y hy st hs hE (a_rlen hy.1 hd e2 k)⟩
theorem se_if {α : Type} {inj : α → Value} {κ : sCtx} {d pc0 pcT pcF pcG pc1 : Nat} {C : sCd} {A B : sEx α} {off : Int} (hC : sSC κ d pc0 pcT pcF C) (hA : sSE κ d pcT pcG inj A) (hg : decode κ.1 pcG = .ok (.goto off, 3)) (ht : (pcG : Int) + off = (pc1 : Int)) (hB : sSE κ d pcF pc1 inj B) : sSE κ d pc0 pc1 inj (e_if C A B) := by
  intro L σ v σ1 h
  obtain ⟨⟨b, σ2⟩, h1, h⟩ := s_bind h
  obtain ⟨l1, k1⟩ := hC _ _ _ _ h1
  cases b with
  | true =>
    obtain ⟨l2, k2⟩ := hA _ _ _ _ (show A L σ2 = some (v, σ1) from h)
    exact ⟨l1.tr l2, fun y hy st hs hE k => k1 y hy st hs (l2.tr hE) (fun _ => k2 y hy st hs hE (a_goto hy.1 hg ht k)) (fun q => by cases q)⟩
  | false =>
    obtain ⟨l2, k2⟩ := hB _ _ _ _ (show B L σ2 = some (v, σ1) from h)
    exact ⟨l1.tr l2, fun y hy st hs hE k => k1 y hy st hs (l2.tr hE) (fun q => by cases q) (fun _ => k2 y hy st hs hE k)⟩
/-- the same where the first value's end has jumped already -/
theorem se_ifN {α : Type} {inj : α → Value} {κ : sCtx} {d pc0 pcT pcF pc1 : Nat} {C : sCd} {A B : sEx α} (hC : sSC κ d pc0 pcT pcF C) (hA : sSE κ d pcT pc1 inj A) (hB : sSE κ d pcF pc1 inj B) : sSE κ d pc0 pc1 inj (e_if C A B) := by
  intro L σ v σ1 h
  obtain ⟨⟨b, σ2⟩, h1, h⟩ := s_bind h
  obtain ⟨l1, k1⟩ := hC _ _ _ _ h1
  cases b with
  | true =>
    obtain ⟨l2, k2⟩ := hA _ _ _ _ (show A L σ2 = some (v, σ1) from h)
    exact ⟨l1.tr l2, fun y hy st hs hE k => k1 y hy st hs (l2.tr hE) (fun _ => k2 y hy st hs hE k) (fun q => by cases q)⟩
  | false =>
    obtain ⟨l2, k2⟩ := hB _ _ _ _ (show B L σ2 = some (v, σ1) from h)
    exact ⟨l1.tr l2, fun y hy st hs hE k => k1 y hy st hs (l2.tr hE) (fun q => by cases q) (fun _ => k2 y hy st hs hE k)⟩
/-- an expression's end jumps on -/
theorem se_goto {α : Type} {inj : α → Value} {κ : sCtx} {d pc0 pcG pc1 : Nat} {E : sEx α} {off : Int} (hA : sSE κ d pc0 pcG inj E) (hg : decode κ.1 pcG = .ok (.goto off, 3)) (ht : (pcG : Int) + off = (pc1 : Int)) : sSE κ d pc0 pc1 inj E := by
  intro L σ v σ1 h
  obtain ⟨l1, k1⟩ := hA _ _ _ _ h
  exact ⟨l1, fun y hy st hs hE k => k1 y hy st hs hE (a_goto hy.1 hg ht k)⟩
theorem se_newa {κ : sCtx} {d pc0 pcA pc1 : Nat} {A : sEx Int32} (hA : sSE κ d pc0 pcA q_i A) (harr : Cond.arrayClass .int ∈ κ.2.1) (hd : decode κ.1 pcA = .ok (.newarray .int, 2)) (hp : pcA + 2 = pc1) : sSE κ d pc0 pc1 q_r (e_newa A) := by
  intro L σ v σ1 h
  obtain ⟨⟨a, σ2⟩, h1, h⟩ := s_bind h
  obtain ⟨l1, k1⟩ := hA _ _ _ _ h1
  dsimp only at h
  split at h
  next hn =>
    cases h
    subst hp
    refine ⟨l1.tr ⟨by simp, by simp⟩, fun y hy st hs hE k => k1 y hy st hs (s_le.tr ⟨by simp, by simp⟩ hE) (a_newa hy.1 harr hd ?_ rfl ?_ hE k)⟩
    · rw [Int32.lt_iff_toInt_lt, Int32.toInt_zero]; omega
    · have : a.toNatClampNeg = a.toInt.toNat := rfl
      omega
  · cases h
theorem se_newq {κ : sCtx} {d pc0 pcA pc1 : Nat} {A : sEx Int32} (hA : sSE κ d pc0 pcA q_i A) {index : Nat} {C : String} (hcl : Cond.classLink κ.2.2.1 index C ∈ κ.2.1) (hover : Cond.arrayOver (.object C) ∈ s_nest) (hC : κ.2.2.2.2.2.2.2.2.1 = C) (hd : decode κ.1 pcA = .ok (.anewarray index, 3)) (hp : pcA + 3 = pc1) : sSE κ d pc0 pc1 q_r (e_newq A) := by
  intro L σ v σ1 h
  obtain ⟨⟨a, σ2⟩, h1, h⟩ := s_bind h
  obtain ⟨l1, k1⟩ := hA _ _ _ _ h1
  dsimp only at h
  split at h
  next hn =>
    cases h
    subst hp
    refine ⟨l1.tr ⟨by simp, by simp⟩, fun y hy st hs hE k => k1 y hy st hs (s_le.tr ⟨by simp, by simp⟩ hE) (a_newq hy.1 hcl hover (hy.2.2.1.trans hC) hd ?_ rfl ?_ hE k)⟩
    · rw [Int32.lt_iff_toInt_lt, Int32.toInt_zero]; omega
    · have : a.toNatClampNeg = a.toInt.toNat := rfl
      omega
  · cases h
-- arguments
theorem sa_nil {κ : sCtx} {d pc0 : Nat} : sSA κ d pc0 pc0 a_nil := by
  intro L σ vs σ1 h
  cases h
  exact ⟨s_le.rf, fun v hv => (by cases hv), fun y hy st hs hE k => k⟩
theorem sa_ci {κ : sCtx} {d pc0 pcA pc1 : Nat} {A : sEx Int32} {As : sEx (List Value)} (hA : sSE κ d pc0 pcA q_i A) (hs : sSA κ (d + 1) pcA pc1 As) : sSA κ d pc0 pc1 (a_ci A As) := by
  intro L σ vs σ1 h
  obtain ⟨⟨a, σ2⟩, h1, h⟩ := s_bind h
  obtain ⟨⟨r, σ3⟩, h2, h⟩ := s_bind h
  cases h
  obtain ⟨l1, k1⟩ := hA _ _ _ _ h1
  obtain ⟨l2, c2, k2⟩ := hs _ _ _ _ h2
  refine ⟨l1.tr l2, fun v hv => ?_, fun y hy st hs hE k => k1 y hy st hs (l2.tr hE) (k2 y hy _ (s_ws_c hs rfl) hE (by simpa using k))⟩
  rcases List.mem_cons.mp hv with rfl | h
  · rfl
  · exact c2 v h
theorem sa_cr {κ : sCtx} {d pc0 pcA pc1 : Nat} {A : sEx (Option Nat)} {As : sEx (List Value)} (hA : sSE κ d pc0 pcA q_r A) (hs : sSA κ (d + 1) pcA pc1 As) : sSA κ d pc0 pc1 (a_cr A As) := by
  intro L σ vs σ1 h
  obtain ⟨⟨a, σ2⟩, h1, h⟩ := s_bind h
  obtain ⟨⟨r, σ3⟩, h2, h⟩ := s_bind h
  cases h
  obtain ⟨l1, k1⟩ := hA _ _ _ _ h1
  obtain ⟨l2, c2, k2⟩ := hs _ _ _ _ h2
  refine ⟨l1.tr l2, fun v hv => ?_, fun y hy st hs hE k => k1 y hy st hs (l2.tr hE) (k2 y hy _ (s_ws_c hs (va_rf_c _)) hE (by simpa using k))⟩
  rcases List.mem_cons.mp hv with rfl | h
  · exact va_rf_c _
  · exact c2 v h
-- conditions
theorem i_nle {x z : Int32} : ¬ x ≤ z → z < x := Int32.not_le.mp
theorem i_nlt {x z : Int32} : ¬ x < z → z ≤ x := Int32.not_lt.mp
theorem i_len {x z : Int32} : z < x → ¬ x ≤ z := Int32.not_le.mpr
theorem i_ltn {x z : Int32} : z ≤ x → ¬ x < z := Int32.not_lt.mpr
theorem sc_Teq {κ : sCtx} {d pc0 pcA pcB pcT pcF : Nat} {A B : sEx Int32} (hA : sSE κ d pc0 pcA q_i A) (hB : sSE κ (d + 1) pcA pcB q_i B) {off : Int} (hd : decode κ.1 pcB = .ok (.if_icmp .eq off, 3)) (ht : (pcB : Int) + off = (pcT : Int)) (hp : pcB + 3 = pcF) : sSC κ d pc0 pcT pcF (c_cmp i_eq A B) := by
  intro L σ b σ1 h
  obtain ⟨⟨x, σ2⟩, h1, h⟩ := s_bind h
  obtain ⟨⟨z, σ3⟩, h2, h⟩ := s_bind h
  cases h
  subst hp
  obtain ⟨l1, k1⟩ := hA _ _ _ _ h1
  obtain ⟨l2, k2⟩ := hB _ _ _ _ h2
  exact ⟨l1.tr l2, fun y hy st hs hE k g => k1 y hy st hs (l2.tr hE) (k2 y hy _ (s_ws_c hs rfl) hE (a_icmp_eq hy.1 hd ht (fun q => k (decide_eq_true q)) (fun q => g (decide_eq_false (by first | exact q | exact fun w => w q)))))⟩
theorem sc_Feq {κ : sCtx} {d pc0 pcA pcB pcT pcF : Nat} {A B : sEx Int32} (hA : sSE κ d pc0 pcA q_i A) (hB : sSE κ (d + 1) pcA pcB q_i B) {off : Int} (hd : decode κ.1 pcB = .ok (.if_icmp .ne off, 3)) (ht : (pcB : Int) + off = (pcF : Int)) (hp : pcB + 3 = pcT) : sSC κ d pc0 pcT pcF (c_cmp i_eq A B) := by
  intro L σ b σ1 h
  obtain ⟨⟨x, σ2⟩, h1, h⟩ := s_bind h
  obtain ⟨⟨z, σ3⟩, h2, h⟩ := s_bind h
  cases h
  subst hp
  obtain ⟨l1, k1⟩ := hA _ _ _ _ h1
  obtain ⟨l2, k2⟩ := hB _ _ _ _ h2
  exact ⟨l1.tr l2, fun y hy st hs hE k g => k1 y hy st hs (l2.tr hE) (k2 y hy _ (s_ws_c hs rfl) hE (a_icmp_ne hy.1 hd ht (fun q => g (decide_eq_false (q))) (fun q => k (decide_eq_true (q)))))⟩
theorem sc_Teq0 {κ : sCtx} {d pc0 pcB pcT pcF : Nat} {A : sEx Int32} (hA : sSE κ d pc0 pcB q_i A) {off : Int} (hd : decode κ.1 pcB = .ok (.ifCond .eq off, 3)) (ht : (pcB : Int) + off = (pcT : Int)) (hp : pcB + 3 = pcF) : sSC κ d pc0 pcT pcF (c_cmp0 i_eq A) := by
  intro L σ b σ1 h
  obtain ⟨⟨x, σ2⟩, h1, h⟩ := s_bind h
  cases h
  subst hp
  obtain ⟨l1, k1⟩ := hA _ _ _ _ h1
  exact ⟨l1, fun y hy st hs hE k g => k1 y hy st hs hE (a_if_eq hy.1 hd ht (fun q => k (decide_eq_true q)) (fun q => g (decide_eq_false (by first | exact q | exact fun w => w q))))⟩
theorem sc_Feq0 {κ : sCtx} {d pc0 pcB pcT pcF : Nat} {A : sEx Int32} (hA : sSE κ d pc0 pcB q_i A) {off : Int} (hd : decode κ.1 pcB = .ok (.ifCond .ne off, 3)) (ht : (pcB : Int) + off = (pcF : Int)) (hp : pcB + 3 = pcT) : sSC κ d pc0 pcT pcF (c_cmp0 i_eq A) := by
  intro L σ b σ1 h
  obtain ⟨⟨x, σ2⟩, h1, h⟩ := s_bind h
  cases h
  subst hp
  obtain ⟨l1, k1⟩ := hA _ _ _ _ h1
  exact ⟨l1, fun y hy st hs hE k g => k1 y hy st hs hE (a_if_ne hy.1 hd ht (fun q => g (decide_eq_false (q))) (fun q => k (decide_eq_true (q))))⟩
theorem sc_Tne {κ : sCtx} {d pc0 pcA pcB pcT pcF : Nat} {A B : sEx Int32} (hA : sSE κ d pc0 pcA q_i A) (hB : sSE κ (d + 1) pcA pcB q_i B) {off : Int} (hd : decode κ.1 pcB = .ok (.if_icmp .ne off, 3)) (ht : (pcB : Int) + off = (pcT : Int)) (hp : pcB + 3 = pcF) : sSC κ d pc0 pcT pcF (c_cmp i_ne A B) := by
  intro L σ b σ1 h
  obtain ⟨⟨x, σ2⟩, h1, h⟩ := s_bind h
  obtain ⟨⟨z, σ3⟩, h2, h⟩ := s_bind h
  cases h
  subst hp
  obtain ⟨l1, k1⟩ := hA _ _ _ _ h1
  obtain ⟨l2, k2⟩ := hB _ _ _ _ h2
  exact ⟨l1.tr l2, fun y hy st hs hE k g => k1 y hy st hs (l2.tr hE) (k2 y hy _ (s_ws_c hs rfl) hE (a_icmp_ne hy.1 hd ht (fun q => k (decide_eq_true q)) (fun q => g (decide_eq_false (by first | exact q | exact fun w => w q)))))⟩
theorem sc_Fne {κ : sCtx} {d pc0 pcA pcB pcT pcF : Nat} {A B : sEx Int32} (hA : sSE κ d pc0 pcA q_i A) (hB : sSE κ (d + 1) pcA pcB q_i B) {off : Int} (hd : decode κ.1 pcB = .ok (.if_icmp .eq off, 3)) (ht : (pcB : Int) + off = (pcF : Int)) (hp : pcB + 3 = pcT) : sSC κ d pc0 pcT pcF (c_cmp i_ne A B) := by
  intro L σ b σ1 h
  obtain ⟨⟨x, σ2⟩, h1, h⟩ := s_bind h
  obtain ⟨⟨z, σ3⟩, h2, h⟩ := s_bind h
  cases h
  subst hp
  obtain ⟨l1, k1⟩ := hA _ _ _ _ h1
  obtain ⟨l2, k2⟩ := hB _ _ _ _ h2
  exact ⟨l1.tr l2, fun y hy st hs hE k g => k1 y hy st hs (l2.tr hE) (k2 y hy _ (s_ws_c hs rfl) hE (a_icmp_eq hy.1 hd ht (fun q => g (decide_eq_false (fun w => w q))) (fun q => k (decide_eq_true (q)))))⟩
theorem sc_Tne0 {κ : sCtx} {d pc0 pcB pcT pcF : Nat} {A : sEx Int32} (hA : sSE κ d pc0 pcB q_i A) {off : Int} (hd : decode κ.1 pcB = .ok (.ifCond .ne off, 3)) (ht : (pcB : Int) + off = (pcT : Int)) (hp : pcB + 3 = pcF) : sSC κ d pc0 pcT pcF (c_cmp0 i_ne A) := by
  intro L σ b σ1 h
  obtain ⟨⟨x, σ2⟩, h1, h⟩ := s_bind h
  cases h
  subst hp
  obtain ⟨l1, k1⟩ := hA _ _ _ _ h1
  exact ⟨l1, fun y hy st hs hE k g => k1 y hy st hs hE (a_if_ne hy.1 hd ht (fun q => k (decide_eq_true q)) (fun q => g (decide_eq_false (by first | exact q | exact fun w => w q))))⟩
theorem sc_Fne0 {κ : sCtx} {d pc0 pcB pcT pcF : Nat} {A : sEx Int32} (hA : sSE κ d pc0 pcB q_i A) {off : Int} (hd : decode κ.1 pcB = .ok (.ifCond .eq off, 3)) (ht : (pcB : Int) + off = (pcF : Int)) (hp : pcB + 3 = pcT) : sSC κ d pc0 pcT pcF (c_cmp0 i_ne A) := by
  intro L σ b σ1 h
  obtain ⟨⟨x, σ2⟩, h1, h⟩ := s_bind h
  cases h
  subst hp
  obtain ⟨l1, k1⟩ := hA _ _ _ _ h1
  exact ⟨l1, fun y hy st hs hE k g => k1 y hy st hs hE (a_if_eq hy.1 hd ht (fun q => g (decide_eq_false (fun w => w q))) (fun q => k (decide_eq_true (q))))⟩
theorem sc_Tlt {κ : sCtx} {d pc0 pcA pcB pcT pcF : Nat} {A B : sEx Int32} (hA : sSE κ d pc0 pcA q_i A) (hB : sSE κ (d + 1) pcA pcB q_i B) {off : Int} (hd : decode κ.1 pcB = .ok (.if_icmp .lt off, 3)) (ht : (pcB : Int) + off = (pcT : Int)) (hp : pcB + 3 = pcF) : sSC κ d pc0 pcT pcF (c_cmp i_lt A B) := by
  intro L σ b σ1 h
  obtain ⟨⟨x, σ2⟩, h1, h⟩ := s_bind h
  obtain ⟨⟨z, σ3⟩, h2, h⟩ := s_bind h
  cases h
  subst hp
  obtain ⟨l1, k1⟩ := hA _ _ _ _ h1
  obtain ⟨l2, k2⟩ := hB _ _ _ _ h2
  exact ⟨l1.tr l2, fun y hy st hs hE k g => k1 y hy st hs (l2.tr hE) (k2 y hy _ (s_ws_c hs rfl) hE (a_icmp_lt hy.1 hd ht (fun q => k (decide_eq_true q)) (fun q => g (decide_eq_false (by first | exact q | exact fun w => w q)))))⟩
theorem sc_Flt {κ : sCtx} {d pc0 pcA pcB pcT pcF : Nat} {A B : sEx Int32} (hA : sSE κ d pc0 pcA q_i A) (hB : sSE κ (d + 1) pcA pcB q_i B) {off : Int} (hd : decode κ.1 pcB = .ok (.if_icmp .ge off, 3)) (ht : (pcB : Int) + off = (pcF : Int)) (hp : pcB + 3 = pcT) : sSC κ d pc0 pcT pcF (c_cmp i_lt A B) := by
  intro L σ b σ1 h
  obtain ⟨⟨x, σ2⟩, h1, h⟩ := s_bind h
  obtain ⟨⟨z, σ3⟩, h2, h⟩ := s_bind h
  cases h
  subst hp
  obtain ⟨l1, k1⟩ := hA _ _ _ _ h1
  obtain ⟨l2, k2⟩ := hB _ _ _ _ h2
  exact ⟨l1.tr l2, fun y hy st hs hE k g => k1 y hy st hs (l2.tr hE) (k2 y hy _ (s_ws_c hs rfl) hE (a_icmp_ge hy.1 hd ht (fun q => g (decide_eq_false (i_ltn q))) (fun q => k (decide_eq_true (i_nle q)))))⟩
theorem sc_Tlt0 {κ : sCtx} {d pc0 pcB pcT pcF : Nat} {A : sEx Int32} (hA : sSE κ d pc0 pcB q_i A) {off : Int} (hd : decode κ.1 pcB = .ok (.ifCond .lt off, 3)) (ht : (pcB : Int) + off = (pcT : Int)) (hp : pcB + 3 = pcF) : sSC κ d pc0 pcT pcF (c_cmp0 i_lt A) := by
  intro L σ b σ1 h
  obtain ⟨⟨x, σ2⟩, h1, h⟩ := s_bind h
  cases h
  subst hp
  obtain ⟨l1, k1⟩ := hA _ _ _ _ h1
  exact ⟨l1, fun y hy st hs hE k g => k1 y hy st hs hE (a_if_lt hy.1 hd ht (fun q => k (decide_eq_true q)) (fun q => g (decide_eq_false (by first | exact q | exact fun w => w q))))⟩
theorem sc_Flt0 {κ : sCtx} {d pc0 pcB pcT pcF : Nat} {A : sEx Int32} (hA : sSE κ d pc0 pcB q_i A) {off : Int} (hd : decode κ.1 pcB = .ok (.ifCond .ge off, 3)) (ht : (pcB : Int) + off = (pcF : Int)) (hp : pcB + 3 = pcT) : sSC κ d pc0 pcT pcF (c_cmp0 i_lt A) := by
  intro L σ b σ1 h
  obtain ⟨⟨x, σ2⟩, h1, h⟩ := s_bind h
  cases h
  subst hp
  obtain ⟨l1, k1⟩ := hA _ _ _ _ h1
  exact ⟨l1, fun y hy st hs hE k g => k1 y hy st hs hE (a_if_ge hy.1 hd ht (fun q => g (decide_eq_false (i_ltn q))) (fun q => k (decide_eq_true (i_nle q))))⟩
theorem sc_Tge {κ : sCtx} {d pc0 pcA pcB pcT pcF : Nat} {A B : sEx Int32} (hA : sSE κ d pc0 pcA q_i A) (hB : sSE κ (d + 1) pcA pcB q_i B) {off : Int} (hd : decode κ.1 pcB = .ok (.if_icmp .ge off, 3)) (ht : (pcB : Int) + off = (pcT : Int)) (hp : pcB + 3 = pcF) : sSC κ d pc0 pcT pcF (c_cmp i_ge A B) := by
  intro L σ b σ1 h
  obtain ⟨⟨x, σ2⟩, h1, h⟩ := s_bind h
  obtain ⟨⟨z, σ3⟩, h2, h⟩ := s_bind h
  cases h
  subst hp
  obtain ⟨l1, k1⟩ := hA _ _ _ _ h1
  obtain ⟨l2, k2⟩ := hB _ _ _ _ h2
  exact ⟨l1.tr l2, fun y hy st hs hE k g => k1 y hy st hs (l2.tr hE) (k2 y hy _ (s_ws_c hs rfl) hE (a_icmp_ge hy.1 hd ht (fun q => k (decide_eq_true q)) (fun q => g (decide_eq_false (by first | exact q | exact fun w => w q)))))⟩
theorem sc_Fge {κ : sCtx} {d pc0 pcA pcB pcT pcF : Nat} {A B : sEx Int32} (hA : sSE κ d pc0 pcA q_i A) (hB : sSE κ (d + 1) pcA pcB q_i B) {off : Int} (hd : decode κ.1 pcB = .ok (.if_icmp .lt off, 3)) (ht : (pcB : Int) + off = (pcF : Int)) (hp : pcB + 3 = pcT) : sSC κ d pc0 pcT pcF (c_cmp i_ge A B) := by
  intro L σ b σ1 h
  obtain ⟨⟨x, σ2⟩, h1, h⟩ := s_bind h
  obtain ⟨⟨z, σ3⟩, h2, h⟩ := s_bind h
  cases h
  subst hp
  obtain ⟨l1, k1⟩ := hA _ _ _ _ h1
  obtain ⟨l2, k2⟩ := hB _ _ _ _ h2
  exact ⟨l1.tr l2, fun y hy st hs hE k g => k1 y hy st hs (l2.tr hE) (k2 y hy _ (s_ws_c hs rfl) hE (a_icmp_lt hy.1 hd ht (fun q => g (decide_eq_false (i_len q))) (fun q => k (decide_eq_true (i_nlt q)))))⟩
theorem sc_Tge0 {κ : sCtx} {d pc0 pcB pcT pcF : Nat} {A : sEx Int32} (hA : sSE κ d pc0 pcB q_i A) {off : Int} (hd : decode κ.1 pcB = .ok (.ifCond .ge off, 3)) (ht : (pcB : Int) + off = (pcT : Int)) (hp : pcB + 3 = pcF) : sSC κ d pc0 pcT pcF (c_cmp0 i_ge A) := by
  intro L σ b σ1 h
  obtain ⟨⟨x, σ2⟩, h1, h⟩ := s_bind h
  cases h
  subst hp
  obtain ⟨l1, k1⟩ := hA _ _ _ _ h1
  exact ⟨l1, fun y hy st hs hE k g => k1 y hy st hs hE (a_if_ge hy.1 hd ht (fun q => k (decide_eq_true q)) (fun q => g (decide_eq_false (by first | exact q | exact fun w => w q))))⟩
theorem sc_Fge0 {κ : sCtx} {d pc0 pcB pcT pcF : Nat} {A : sEx Int32} (hA : sSE κ d pc0 pcB q_i A) {off : Int} (hd : decode κ.1 pcB = .ok (.ifCond .lt off, 3)) (ht : (pcB : Int) + off = (pcF : Int)) (hp : pcB + 3 = pcT) : sSC κ d pc0 pcT pcF (c_cmp0 i_ge A) := by
  intro L σ b σ1 h
  obtain ⟨⟨x, σ2⟩, h1, h⟩ := s_bind h
  cases h
  subst hp
  obtain ⟨l1, k1⟩ := hA _ _ _ _ h1
  exact ⟨l1, fun y hy st hs hE k g => k1 y hy st hs hE (a_if_lt hy.1 hd ht (fun q => g (decide_eq_false (i_len q))) (fun q => k (decide_eq_true (i_nlt q))))⟩
theorem sc_Tgt {κ : sCtx} {d pc0 pcA pcB pcT pcF : Nat} {A B : sEx Int32} (hA : sSE κ d pc0 pcA q_i A) (hB : sSE κ (d + 1) pcA pcB q_i B) {off : Int} (hd : decode κ.1 pcB = .ok (.if_icmp .gt off, 3)) (ht : (pcB : Int) + off = (pcT : Int)) (hp : pcB + 3 = pcF) : sSC κ d pc0 pcT pcF (c_cmp i_gt A B) := by
  intro L σ b σ1 h
  obtain ⟨⟨x, σ2⟩, h1, h⟩ := s_bind h
  obtain ⟨⟨z, σ3⟩, h2, h⟩ := s_bind h
  cases h
  subst hp
  obtain ⟨l1, k1⟩ := hA _ _ _ _ h1
  obtain ⟨l2, k2⟩ := hB _ _ _ _ h2
  exact ⟨l1.tr l2, fun y hy st hs hE k g => k1 y hy st hs (l2.tr hE) (k2 y hy _ (s_ws_c hs rfl) hE (a_icmp_gt hy.1 hd ht (fun q => k (decide_eq_true q)) (fun q => g (decide_eq_false (by first | exact q | exact fun w => w q)))))⟩
theorem sc_Fgt {κ : sCtx} {d pc0 pcA pcB pcT pcF : Nat} {A B : sEx Int32} (hA : sSE κ d pc0 pcA q_i A) (hB : sSE κ (d + 1) pcA pcB q_i B) {off : Int} (hd : decode κ.1 pcB = .ok (.if_icmp .le off, 3)) (ht : (pcB : Int) + off = (pcF : Int)) (hp : pcB + 3 = pcT) : sSC κ d pc0 pcT pcF (c_cmp i_gt A B) := by
  intro L σ b σ1 h
  obtain ⟨⟨x, σ2⟩, h1, h⟩ := s_bind h
  obtain ⟨⟨z, σ3⟩, h2, h⟩ := s_bind h
  cases h
  subst hp
  obtain ⟨l1, k1⟩ := hA _ _ _ _ h1
  obtain ⟨l2, k2⟩ := hB _ _ _ _ h2
  exact ⟨l1.tr l2, fun y hy st hs hE k g => k1 y hy st hs (l2.tr hE) (k2 y hy _ (s_ws_c hs rfl) hE (a_icmp_le hy.1 hd ht (fun q => g (decide_eq_false (i_ltn q))) (fun q => k (decide_eq_true (i_nle q)))))⟩
theorem sc_Tgt0 {κ : sCtx} {d pc0 pcB pcT pcF : Nat} {A : sEx Int32} (hA : sSE κ d pc0 pcB q_i A) {off : Int} (hd : decode κ.1 pcB = .ok (.ifCond .gt off, 3)) (ht : (pcB : Int) + off = (pcT : Int)) (hp : pcB + 3 = pcF) : sSC κ d pc0 pcT pcF (c_cmp0 i_gt A) := by
  intro L σ b σ1 h
  obtain ⟨⟨x, σ2⟩, h1, h⟩ := s_bind h
  cases h
  subst hp
  obtain ⟨l1, k1⟩ := hA _ _ _ _ h1
  exact ⟨l1, fun y hy st hs hE k g => k1 y hy st hs hE (a_if_gt hy.1 hd ht (fun q => k (decide_eq_true q)) (fun q => g (decide_eq_false (by first | exact q | exact fun w => w q))))⟩
theorem sc_Fgt0 {κ : sCtx} {d pc0 pcB pcT pcF : Nat} {A : sEx Int32} (hA : sSE κ d pc0 pcB q_i A) {off : Int} (hd : decode κ.1 pcB = .ok (.ifCond .le off, 3)) (ht : (pcB : Int) + off = (pcF : Int)) (hp : pcB + 3 = pcT) : sSC κ d pc0 pcT pcF (c_cmp0 i_gt A) := by
  intro L σ b σ1 h
  obtain ⟨⟨x, σ2⟩, h1, h⟩ := s_bind h
  cases h
  subst hp
  obtain ⟨l1, k1⟩ := hA _ _ _ _ h1
  exact ⟨l1, fun y hy st hs hE k g => k1 y hy st hs hE (a_if_le hy.1 hd ht (fun q => g (decide_eq_false (i_ltn q))) (fun q => k (decide_eq_true (i_nle q))))⟩
theorem sc_Tle {κ : sCtx} {d pc0 pcA pcB pcT pcF : Nat} {A B : sEx Int32} (hA : sSE κ d pc0 pcA q_i A) (hB : sSE κ (d + 1) pcA pcB q_i B) {off : Int} (hd : decode κ.1 pcB = .ok (.if_icmp .le off, 3)) (ht : (pcB : Int) + off = (pcT : Int)) (hp : pcB + 3 = pcF) : sSC κ d pc0 pcT pcF (c_cmp i_le A B) := by
  intro L σ b σ1 h
  obtain ⟨⟨x, σ2⟩, h1, h⟩ := s_bind h
  obtain ⟨⟨z, σ3⟩, h2, h⟩ := s_bind h
  cases h
  subst hp
  obtain ⟨l1, k1⟩ := hA _ _ _ _ h1
  obtain ⟨l2, k2⟩ := hB _ _ _ _ h2
  exact ⟨l1.tr l2, fun y hy st hs hE k g => k1 y hy st hs (l2.tr hE) (k2 y hy _ (s_ws_c hs rfl) hE (a_icmp_le hy.1 hd ht (fun q => k (decide_eq_true q)) (fun q => g (decide_eq_false (by first | exact q | exact fun w => w q)))))⟩
theorem sc_Fle {κ : sCtx} {d pc0 pcA pcB pcT pcF : Nat} {A B : sEx Int32} (hA : sSE κ d pc0 pcA q_i A) (hB : sSE κ (d + 1) pcA pcB q_i B) {off : Int} (hd : decode κ.1 pcB = .ok (.if_icmp .gt off, 3)) (ht : (pcB : Int) + off = (pcF : Int)) (hp : pcB + 3 = pcT) : sSC κ d pc0 pcT pcF (c_cmp i_le A B) := by
  intro L σ b σ1 h
  obtain ⟨⟨x, σ2⟩, h1, h⟩ := s_bind h
  obtain ⟨⟨z, σ3⟩, h2, h⟩ := s_bind h
  cases h
  subst hp
  obtain ⟨l1, k1⟩ := hA _ _ _ _ h1
  obtain ⟨l2, k2⟩ := hB _ _ _ _ h2
  exact ⟨l1.tr l2, fun y hy st hs hE k g => k1 y hy st hs (l2.tr hE) (k2 y hy _ (s_ws_c hs rfl) hE (a_icmp_gt hy.1 hd ht (fun q => g (decide_eq_false (i_len q))) (fun q => k (decide_eq_true (i_nlt q)))))⟩
theorem sc_Tle0 {κ : sCtx} {d pc0 pcB pcT pcF : Nat} {A : sEx Int32} (hA : sSE κ d pc0 pcB q_i A) {off : Int} (hd : decode κ.1 pcB = .ok (.ifCond .le off, 3)) (ht : (pcB : Int) + off = (pcT : Int)) (hp : pcB + 3 = pcF) : sSC κ d pc0 pcT pcF (c_cmp0 i_le A) := by
  intro L σ b σ1 h
  obtain ⟨⟨x, σ2⟩, h1, h⟩ := s_bind h
  cases h
  subst hp
  obtain ⟨l1, k1⟩ := hA _ _ _ _ h1
  exact ⟨l1, fun y hy st hs hE k g => k1 y hy st hs hE (a_if_le hy.1 hd ht (fun q => k (decide_eq_true q)) (fun q => g (decide_eq_false (by first | exact q | exact fun w => w q))))⟩
theorem sc_Fle0 {κ : sCtx} {d pc0 pcB pcT pcF : Nat} {A : sEx Int32} (hA : sSE κ d pc0 pcB q_i A) {off : Int} (hd : decode κ.1 pcB = .ok (.ifCond .gt off, 3)) (ht : (pcB : Int) + off = (pcF : Int)) (hp : pcB + 3 = pcT) : sSC κ d pc0 pcT pcF (c_cmp0 i_le A) := by
  intro L σ b σ1 h
  obtain ⟨⟨x, σ2⟩, h1, h⟩ := s_bind h
  cases h
  subst hp
  obtain ⟨l1, k1⟩ := hA _ _ _ _ h1
  exact ⟨l1, fun y hy st hs hE k g => k1 y hy st hs hE (a_if_gt hy.1 hd ht (fun q => g (decide_eq_false (i_len q))) (fun q => k (decide_eq_true (i_nlt q))))⟩
theorem sc_Tnull {κ : sCtx} {d pc0 pcB pcT pcF : Nat} {A : sEx (Option Nat)} (hA : sSE κ d pc0 pcB q_r A) {off : Int} (hd : decode κ.1 pcB = .ok (.ifnull off, 3)) (ht : (pcB : Int) + off = (pcT : Int)) (hp : pcB + 3 = pcF) : sSC κ d pc0 pcT pcF (c_null A) := by
  intro L σ b σ1 h
  obtain ⟨⟨x, σ2⟩, h1, h⟩ := s_bind h
  cases h
  subst hp
  obtain ⟨l1, k1⟩ := hA _ _ _ _ h1
  exact ⟨l1, fun y hy st hs hE k g => k1 y hy st hs hE (a_ifnull hy.1 hd ht (fun q => k (by rw [q]; rfl)) (fun q => g (by cases x with | none => exact absurd rfl q | some _ => rfl)))⟩
theorem sc_Fnull {κ : sCtx} {d pc0 pcB pcT pcF : Nat} {A : sEx (Option Nat)} (hA : sSE κ d pc0 pcB q_r A) {off : Int} (hd : decode κ.1 pcB = .ok (.ifnonnull off, 3)) (ht : (pcB : Int) + off = (pcF : Int)) (hp : pcB + 3 = pcT) : sSC κ d pc0 pcT pcF (c_null A) := by
  intro L σ b σ1 h
  obtain ⟨⟨x, σ2⟩, h1, h⟩ := s_bind h
  cases h
  subst hp
  obtain ⟨l1, k1⟩ := hA _ _ _ _ h1
  exact ⟨l1, fun y hy st hs hE k g => k1 y hy st hs hE (a_ifnonnull hy.1 hd ht (fun q => g (by cases x with | none => exact absurd rfl q | some _ => rfl)) (fun q => k (by rw [q]; rfl)))⟩
theorem sc_Tnn {κ : sCtx} {d pc0 pcB pcT pcF : Nat} {A : sEx (Option Nat)} (hA : sSE κ d pc0 pcB q_r A) {off : Int} (hd : decode κ.1 pcB = .ok (.ifnonnull off, 3)) (ht : (pcB : Int) + off = (pcT : Int)) (hp : pcB + 3 = pcF) : sSC κ d pc0 pcT pcF (c_nn A) := by
  intro L σ b σ1 h
  obtain ⟨⟨x, σ2⟩, h1, h⟩ := s_bind h
  cases h
  subst hp
  obtain ⟨l1, k1⟩ := hA _ _ _ _ h1
  exact ⟨l1, fun y hy st hs hE k g => k1 y hy st hs hE (a_ifnonnull hy.1 hd ht (fun q => k (by cases x with | none => exact absurd rfl q | some _ => rfl)) (fun q => g (by rw [q]; rfl)))⟩
theorem sc_Fnn {κ : sCtx} {d pc0 pcB pcT pcF : Nat} {A : sEx (Option Nat)} (hA : sSE κ d pc0 pcB q_r A) {off : Int} (hd : decode κ.1 pcB = .ok (.ifnull off, 3)) (ht : (pcB : Int) + off = (pcF : Int)) (hp : pcB + 3 = pcT) : sSC κ d pc0 pcT pcF (c_nn A) := by
  intro L σ b σ1 h
  obtain ⟨⟨x, σ2⟩, h1, h⟩ := s_bind h
  cases h
  subst hp
  obtain ⟨l1, k1⟩ := hA _ _ _ _ h1
  exact ⟨l1, fun y hy st hs hE k g => k1 y hy st hs hE (a_ifnull hy.1 hd ht (fun q => g (by rw [q]; rfl)) (fun q => k (by cases x with | none => exact absurd rfl q | some _ => rfl)))⟩
theorem sc_not {κ : sCtx} {d pc0 pcT pcF : Nat} {C : sCd} (hC : sSC κ d pc0 pcF pcT C) : sSC κ d pc0 pcT pcF (c_not C) := by
  intro L σ b σ1 h
  obtain ⟨⟨x, σ2⟩, h1, h⟩ := s_map h
  cases h
  obtain ⟨l1, k1⟩ := hC _ _ _ _ h1
  exact ⟨l1, fun y hy st hs hE k g => k1 y hy st hs hE (fun q => g (by rw [q]; rfl)) (fun q => k (by rw [q]; rfl))⟩
theorem sc_and {κ : sCtx} {d pc0 pcA pcT pcF : Nat} {C D : sCd} (hC : sSC κ d pc0 pcA pcF C) (hD : sSC κ d pcA pcT pcF D) : sSC κ d pc0 pcT pcF (c_and C D) := by
  intro L σ b σ1 h
  obtain ⟨⟨x, σ2⟩, h1, h⟩ := s_bind h
  obtain ⟨l1, k1⟩ := hC _ _ _ _ h1
  cases x with
  | true =>
    obtain ⟨l2, k2⟩ := hD _ _ _ _ (show D L σ2 = some (b, σ1) from h)
    exact ⟨l1.tr l2, fun y hy st hs hE k g => k1 y hy st hs (l2.tr hE) (fun _ => k2 y hy st hs hE k g) (fun q => by cases q)⟩
  | false =>
    cases h
    exact ⟨l1, fun y hy st hs hE k g => k1 y hy st hs hE (fun q => by cases q) (fun _ => g rfl)⟩
theorem sc_or {κ : sCtx} {d pc0 pcA pcT pcF : Nat} {C D : sCd} (hC : sSC κ d pc0 pcT pcA C) (hD : sSC κ d pcA pcT pcF D) : sSC κ d pc0 pcT pcF (c_or C D) := by
  intro L σ b σ1 h
  obtain ⟨⟨x, σ2⟩, h1, h⟩ := s_bind h
  obtain ⟨l1, k1⟩ := hC _ _ _ _ h1
  cases x with
  | true =>
    cases h
    exact ⟨l1, fun y hy st hs hE k g => k1 y hy st hs hE (fun _ => k rfl) (fun q => by cases q)⟩
  | false =>
    obtain ⟨l2, k2⟩ := hD _ _ _ _ (show D L σ2 = some (b, σ1) from h)
    exact ⟨l1.tr l2, fun y hy st hs hE k g => k1 y hy st hs (l2.tr hE) (fun q => by cases q) (fun _ => k2 y hy st hs hE k g)⟩
theorem sc_if {κ : sCtx} {d pc0 pcA pcB pcT pcF : Nat} {C D E : sCd} (hC : sSC κ d pc0 pcA pcB C) (hD : sSC κ d pcA pcT pcF D) (hE : sSC κ d pcB pcT pcF E) : sSC κ d pc0 pcT pcF (c_if C D E) := by
  intro L σ b σ1 h
  obtain ⟨⟨x, σ2⟩, h1, h⟩ := s_bind h
  obtain ⟨l1, k1⟩ := hC _ _ _ _ h1
  cases x with
  | true =>
    obtain ⟨l2, k2⟩ := hD _ _ _ _ (show D L σ2 = some (b, σ1) from h)
    exact ⟨l1.tr l2, fun y hy st hs hE k g => k1 y hy st hs (l2.tr hE) (fun _ => k2 y hy st hs hE k g) (fun q => by cases q)⟩
  | false =>
    obtain ⟨l2, k2⟩ := hE _ _ _ _ (show E L σ2 = some (b, σ1) from h)
    exact ⟨l1.tr l2, fun y hy st hs hE k g => k1 y hy st hs (l2.tr hE) (fun q => by cases q) (fun _ => k2 y hy st hs hE k g)⟩
/-- where a condition ends, a jump may stand -/
theorem sc_gotoT {κ : sCtx} {d pc0 pcG pcT pcF : Nat} {C : sCd} {off : Int} (hC : sSC κ d pc0 pcG pcF C) (hg : decode κ.1 pcG = .ok (.goto off, 3)) (ht : (pcG : Int) + off = (pcT : Int)) : sSC κ d pc0 pcT pcF C := by
  intro L σ b σ1 h
  obtain ⟨l1, k1⟩ := hC _ _ _ _ h
  exact ⟨l1, fun y hy st hs hE k g => k1 y hy st hs hE (fun q => a_goto hy.1 hg ht (k q)) g⟩
theorem sc_gotoF {κ : sCtx} {d pc0 pcG pcT pcF : Nat} {C : sCd} {off : Int} (hC : sSC κ d pc0 pcT pcG C) (hg : decode κ.1 pcG = .ok (.goto off, 3)) (ht : (pcG : Int) + off = (pcF : Int)) : sSC κ d pc0 pcT pcF C := by
  intro L σ b σ1 h
  obtain ⟨l1, k1⟩ := hC _ _ _ _ h
  exact ⟨l1, fun y hy st hs hE k g => k1 y hy st hs hE k (fun q => a_goto hy.1 hg ht (g q))⟩
-- statements
theorem s_ws0 {d : Nat} : s_ws [] ≤ d := Nat.zero_le _
theorem ss_skip {κ : sCtx} {pc0 : Nat} : sSS κ pc0 pc0 s_skip := by
  intro L σ r h
  cases h
  exact ⟨s_le.rf, fun y hy hE k => k⟩
theorem ss_seq {κ : sCtx} {pc0 pcA pc1 : Nat} {S T : sStm} (hS : sSS κ pc0 pcA S) (hT : sSS κ pcA pc1 T) : sSS κ pc0 pc1 (s_seq S T) := by
  intro L σ r h
  obtain ⟨x, h1, h⟩ := s_bind h
  obtain ⟨l1, k1⟩ := hS _ _ _ h1
  cases x with
  | inl v =>
    cases h
    exact ⟨l1, fun y hy hE k => k1 y hy hE k⟩
  | inr q =>
    obtain ⟨l2, k2⟩ := hT _ _ _ (show T q.1 q.2 = some r from h)
    exact ⟨l1.tr l2, fun y hy hE k => k1 y hy (l2.tr hE) (k2 y hy hE k)⟩
theorem ss_goto {κ : sCtx} {pc0 pcG pc1 : Nat} {S : sStm} {off : Int} (hS : sSS κ pc0 pcG S) (hg : decode κ.1 pcG = .ok (.goto off, 3)) (ht : (pcG : Int) + off = (pc1 : Int)) : sSS κ pc0 pc1 S := by
  intro L σ r h
  obtain ⟨l1, k1⟩ := hS _ _ _ h
  refine ⟨l1, fun y hy hE k => k1 y hy hE ?_⟩
  cases r with
  | inl v => exact k
  | inr q => exact a_goto hy.1 hg ht k
theorem ss_if {κ : sCtx} {pc0 pcT pcF pc1 : Nat} {C : sCd} {S T : sStm} (hC : sSC κ 0 pc0 pcT pcF C) (hS : sSS κ pcT pc1 S) (hT : sSS κ pcF pc1 T) : sSS κ pc0 pc1 (s_if C S T) := by
  intro L σ r h
  obtain ⟨⟨b, σ2⟩, h1, h⟩ := s_bind h
  obtain ⟨l1, k1⟩ := hC _ _ _ _ h1
  cases b with
  | true =>
    obtain ⟨l2, k2⟩ := hS _ _ _ (show S L σ2 = some r from h)
    exact ⟨l1.tr l2, fun y hy hE k => k1 y hy [] s_ws0 (l2.tr hE) (fun _ => k2 y hy hE k) (fun q => by cases q)⟩
  | false =>
    obtain ⟨l2, k2⟩ := hT _ _ _ (show T L σ2 = some r from h)
    exact ⟨l1.tr l2, fun y hy hE k => k1 y hy [] s_ws0 (l2.tr hE) (fun q => by cases q) (fun _ => k2 y hy hE k)⟩
theorem ss_wh {κ : sCtx} {pc0 pcB pc1 : Nat} {C : sCd} {S : sStm} (hC : sSC κ 0 pc0 pcB pc1 C) (hS : sSS κ pcB pc0 S) : ∀ n : Nat, sSS κ pc0 pc1 (s_wh C S n) := by
  intro n
  induction n with
  | zero => intro L σ r h; cases h
  | succ n ih =>
    intro L σ r h
    obtain ⟨⟨b, σ2⟩, h1, h⟩ := s_bind h
    obtain ⟨l1, k1⟩ := hC _ _ _ _ h1
    cases b with
    | true =>
      obtain ⟨x, h2, h⟩ := s_bind (show (S L σ2).bind (fun r => s_go r (s_wh C S n)) = some r from h)
      obtain ⟨l2, k2⟩ := hS _ _ _ h2
      cases x with
      | inl v =>
        cases h
        exact ⟨l1.tr l2, fun y hy hE k => k1 y hy [] s_ws0 (l2.tr hE) (fun _ => k2 y hy hE k) (fun q => by cases q)⟩
      | inr q =>
        obtain ⟨l3, k3⟩ := ih _ _ _ (show s_wh C S n q.1 q.2 = some r from h)
        exact ⟨l1.tr (l2.tr l3), fun y hy hE k => k1 y hy [] s_ws0 (l2.tr (l3.tr hE)) (fun _ => k2 y hy (l3.tr hE) (k3 y hy hE k)) (fun q => by cases q)⟩
    | false =>
      cases h
      exact ⟨l1, fun y hy hE k => k1 y hy [] s_ws0 hE (fun q => by cases q) (fun _ => k)⟩
theorem ss_while {κ : sCtx} {pc0 pcB pc1 : Nat} {C : sCd} {S : sStm} (hC : sSC κ 0 pc0 pcB pc1 C) (hS : sSS κ pcB pc0 S) : sSS κ pc0 pc1 (s_while C S) := ss_wh hC hS s_FUEL
theorem s_AW.drop {y : sCy} {κ : sCtx} (hy : s_G2 y κ) {pc n : Nat} {L st : List Value} {σ : sSt} (h : s_AW y pc (L.take n) st σ) : s_AW y pc L st σ := by
  obtain ⟨p, l, e, R, s, m, args, below, meth, c, G, nL, σ0, vE, σE⟩ := y
  intro H locs ls k
  refine h H locs ls ⟨k.1, k.2.1, k.2.2.1.sub (fun i v hi => ?_), k.2.2.2⟩
  rw [List.getElem?_take] at hi
  split at hi
  · exact hi
  · cases hi
theorem ss_blk {κ : sCtx} {pc0 pc1 n : Nat} {S : sStm} (hS : sSS κ pc0 pc1 S) : sSS κ pc0 pc1 (s_blk n S) := by
  intro L σ r h
  obtain ⟨x, h1, h⟩ := s_map h
  obtain ⟨l1, k1⟩ := hS _ _ _ h1
  cases x with
  | inl v =>
    cases h
    exact ⟨l1, k1⟩
  | inr q =>
    cases h
    exact ⟨l1, fun y hy hE k => k1 y hy hE (s_AW.drop hy k)⟩
theorem ss_decI_n {κ : sCtx} {pc0 pcA pc1 : Nat} {E : sEx Int32} {j : Fin 4} {i : Nat} (hA : sSE κ 0 pc0 pcA q_i E) (hd : decode κ.1 pcA = .ok (.istore_n j, 1)) (hj : (j : Nat) = i) (hi : i < κ.2.2.2.2.2.2.1) (hp : pcA + 1 = pc1) : sSS κ pc0 pc1 (s_decI i E) := by
  intro L σ r h
  unfold s_decI at h
  split at h
  next hL =>
    obtain ⟨⟨a, σ2⟩, h1, h⟩ := s_map h
    cases h
    subst hp
    obtain ⟨l1, k1⟩ := hA _ _ _ _ h1
    exact ⟨l1, fun y hy hE k => k1 y hy [] s_ws0 hE (a_istore_n hy.1 hd hj hi (s_app_at hL.symm) k)⟩
  · cases h
theorem ss_decI {κ : sCtx} {pc0 pcA pc1 : Nat} {E : sEx Int32} {i : Nat} (hA : sSE κ 0 pc0 pcA q_i E) (hd : decode κ.1 pcA = .ok (.istore i, 2)) (hi : i < κ.2.2.2.2.2.2.1) (hp : pcA + 2 = pc1) : sSS κ pc0 pc1 (s_decI i E) := by
  intro L σ r h
  unfold s_decI at h
  split at h
  next hL =>
    obtain ⟨⟨a, σ2⟩, h1, h⟩ := s_map h
    cases h
    subst hp
    obtain ⟨l1, k1⟩ := hA _ _ _ _ h1
    exact ⟨l1, fun y hy hE k => k1 y hy [] s_ws0 hE (a_istore hy.1 hd hi (s_app_at hL.symm) k)⟩
  · cases h
theorem ss_decR_n {κ : sCtx} {pc0 pcA pc1 : Nat} {E : sEx (Option Nat)} {j : Fin 4} {i : Nat} (hA : sSE κ 0 pc0 pcA q_r E) (hd : decode κ.1 pcA = .ok (.astore_n j, 1)) (hj : (j : Nat) = i) (hi : i < κ.2.2.2.2.2.2.1) (hp : pcA + 1 = pc1) : sSS κ pc0 pc1 (s_decR i E) := by
  intro L σ r h
  unfold s_decR at h
  split at h
  next hL =>
    obtain ⟨⟨a, σ2⟩, h1, h⟩ := s_map h
    cases h
    subst hp
    obtain ⟨l1, k1⟩ := hA _ _ _ _ h1
    exact ⟨l1, fun y hy hE k => k1 y hy [] s_ws0 hE (a_astore_n hy.1 hd hj hi (s_app_at hL.symm) k)⟩
  · cases h
theorem ss_decR {κ : sCtx} {pc0 pcA pc1 : Nat} {E : sEx (Option Nat)} {i : Nat} (hA : sSE κ 0 pc0 pcA q_r E) (hd : decode κ.1 pcA = .ok (.astore i, 2)) (hi : i < κ.2.2.2.2.2.2.1) (hp : pcA + 2 = pc1) : sSS κ pc0 pc1 (s_decR i E) := by
  intro L σ r h
  unfold s_decR at h
  split at h
  next hL =>
    obtain ⟨⟨a, σ2⟩, h1, h⟩ := s_map h
    cases h
    subst hp
    obtain ⟨l1, k1⟩ := hA _ _ _ _ h1
    exact ⟨l1, fun y hy hE k => k1 y hy [] s_ws0 hE (a_astore hy.1 hd hi (s_app_at hL.symm) k)⟩
  · cases h
theorem ss_setI_n {κ : sCtx} {pc0 pcA pc1 : Nat} {E : sEx Int32} {j : Fin 4} {i : Nat} (hA : sSE κ 0 pc0 pcA q_i E) (hd : decode κ.1 pcA = .ok (.istore_n j, 1)) (hj : (j : Nat) = i) (hi : i < κ.2.2.2.2.2.2.1) (hp : pcA + 1 = pc1) : sSS κ pc0 pc1 (s_setI i E) := by
  intro L σ r h
  obtain ⟨⟨a, σ2⟩, h1, h⟩ := s_map h
  cases h
  subst hp
  obtain ⟨l1, k1⟩ := hA _ _ _ _ h1
  exact ⟨l1, fun y hy hE k => k1 y hy [] s_ws0 hE (a_istore_n hy.1 hd hj hi s_set_at k)⟩
theorem ss_setI {κ : sCtx} {pc0 pcA pc1 : Nat} {E : sEx Int32} {i : Nat} (hA : sSE κ 0 pc0 pcA q_i E) (hd : decode κ.1 pcA = .ok (.istore i, 2)) (hi : i < κ.2.2.2.2.2.2.1) (hp : pcA + 2 = pc1) : sSS κ pc0 pc1 (s_setI i E) := by
  intro L σ r h
  obtain ⟨⟨a, σ2⟩, h1, h⟩ := s_map h
  cases h
  subst hp
  obtain ⟨l1, k1⟩ := hA _ _ _ _ h1
  exact ⟨l1, fun y hy hE k => k1 y hy [] s_ws0 hE (a_istore hy.1 hd hi s_set_at k)⟩
theorem ss_inc {κ : sCtx} {pc0 pc1 i : Nat} {n : Int} {kk : Int32} (hd : decode κ.1 pc0 = .ok (.iinc i n, 3)) (hi : i < κ.2.2.2.2.2.2.1) (hn : Int32.ofInt n = kk) (hp : pc0 + 3 = pc1) : sSS κ pc0 pc1 (s_inc i kk) := by
  intro L σ r h
  obtain ⟨x, h1, h⟩ := s_map h
  cases h
  subst hp hn
  exact ⟨s_le.rf, fun y hy hE k => a_iinc hy.1 hd hi (v_i_some h1) rfl s_set_at k⟩
