/-! MY FRAME (own work). A store of cells counted from a base address: cell number i lies at base + i; methods are functions over the store; the machine follows them. -/
abbrev sAC : Type := (Nat × List Value) ⊕ ((Nat × (Nat → Int32)) ⊕ (Nat × (Nat → Option Nat)))
abbrev sSt : Type := List sAC × Nat
/-- base; the classes of int[] and of the array of references; the tables' places; the classes; the component's name -/
abbrev sGeo : Type := Nat × (ClassId × ClassId) × va_G × List vw_C × String
def s_cv (b : Nat) : Value → Value := fun v => match v with
  | .ref k => .ref (b + k)
  | v => v
def s_ce (G : sGeo) : sAC → va_E := fun a => match a with
  | .inl o => .inr (o.1, o.2.map (s_cv G.1))
  | .inr (.inl x) => .inl (G.2.1.1, (x.1, .inl x.2))
  | .inr (.inr x) => .inl (G.2.1.2, (x.1, .inr (.inr (.inr (.inr (fun k => (x.2 k).map (G.1 + ·)))))))
def s_Rel (G : sGeo) (σ : sSt) (H : Heap) : Prop := H.size = G.1 + σ.1.length ∧ ∀ (i : Nat) (a : sAC), σ.1[i]? = some a → va_at G.2.2.1 G.2.2.2.1 (G.1 + i, s_ce G a) H
def s_Kn (G : sGeo) (U : State) : Prop := va_K G.2.2.1 G.2.2.2.1 [(G.2.1.1, .int), (G.2.1.2, .object G.2.2.2.2)] U ∧ ∀ w ∈ s_nest, va_Nw w U
theorem s_Kn.warm {G : sGeo} {s U : State} (hW : s.WarmedH U.vm) (h : s_Kn G s) : s_Kn G U := ⟨va_K.moved hW.alike h.1, fun w hw => s_nest_warm (s_nest_ok w hw) hW (h.2 w hw)⟩
def s_le (a b : sSt) : Prop := a.1.length ≤ b.1.length ∧ a.2 ≤ b.2
theorem s_le.rf {a : sSt} : s_le a a := ⟨Nat.le_refl _, Nat.le_refl _⟩
theorem s_le.tr {a b c : sSt} (h : s_le a b) (k : s_le b c) : s_le a c := ⟨Nat.le_trans h.1 k.1, Nat.le_trans h.2 k.2⟩
theorem s_one {G : sGeo} {σ : sSt} {H : Heap} (h : s_Rel G σ H) {i : Nat} {a : sAC} (ha : σ.1[i]? = some a) : va_P G.2.2.1 G.2.2.2.1 [(G.1 + i, s_ce G a)] H := by
  intro k q hk
  have hz : k < 1 := (List.getElem?_eq_some_iff.mp hk).1
  rw [show k = 0 by omega] at hk
  cases hk
  exact h.2 i a ha
/-- a cell is written -/
theorem s_Rel.put {G : sGeo} {σ : sSt} {H H1 : Heap} (h : s_Rel G σ H) {i : Nat} {a : sAC} (hi : i < σ.1.length) (he : va_at G.2.2.1 G.2.2.2.1 (G.1 + i, s_ce G a) H1) (z : H1.size = H.size) (oq : ∀ q : Nat, q ≠ G.1 + i → H1[q]? = H[q]?) : s_Rel G (σ.1.set i a, σ.2) H1 := by
  refine ⟨by rw [z, h.1, List.length_set], fun j c hj => ?_⟩
  by_cases e : i = j
  · subst e
    rw [List.getElem?_set_self hi] at hj
    cases hj
    exact he
  · rw [List.getElem?_set_ne e] at hj
    exact (h.2 j c hj).kept (oq _ (fun q => e (by have q' : G.1 + j = G.1 + i := q; omega)))
/-- a cell comes -/
theorem s_Rel.push {G : sGeo} {σ : sSt} {H H1 : Heap} (h : s_Rel G σ H) {a : sAC} {n : Nat} (he : va_at G.2.2.1 G.2.2.2.1 (H.size, s_ce G a) H1) (z : H1.size = H.size + 1) (oq : ∀ q : Nat, q < H.size → H1[q]? = H[q]?) : s_Rel G (σ.1 ++ [a], σ.2 + n) H1 := by
  refine ⟨by rw [z, h.1, List.length_append, List.length_singleton]; omega, fun j c hj => ?_⟩
  by_cases e : j < σ.1.length
  · rw [List.getElem?_append_left e] at hj
    exact (h.2 j c hj).kept (oq _ (by show G.1 + j < H.size; rw [h.1]; omega))
  · rw [List.getElem?_append_right (by omega)] at hj
    have hz : j - σ.1.length < 1 := (List.getElem?_eq_some_iff.mp hj).1
    rw [show j - σ.1.length = 0 by omega] at hj
    cases hj
    rw [show G.1 + j = H.size by rw [h.1]; omega]
    exact he
/-! the locals -/
def s_ls (b : Nat) (L : List Value) : List (Nat × Value) := L.zipIdx.map (fun q => (q.2, s_cv b q.1))
def s_has (b nL : Nat) (ls : Array Slot) (L : List Value) : Prop := lv_has ls nL (s_ls b L) ∧ ∀ v ∈ L, v.category = 1
theorem s_ls_mem {b : Nat} {L : List Value} {j : Nat} {w : Value} : (j, w) ∈ s_ls b L ↔ ∃ v, L[j]? = some v ∧ w = s_cv b v := by
  unfold s_ls
  rw [List.mem_map]
  constructor
  · rintro ⟨⟨v, i⟩, hm, he⟩
    rw [List.mem_zipIdx_iff_getElem?] at hm
    cases he
    exact ⟨v, hm, rfl⟩
  · rintro ⟨v, hv, rfl⟩
    exact ⟨(v, j), List.mem_zipIdx_iff_getElem?.mpr hv, rfl⟩
theorem s_has.at {b nL : Nat} {ls : Array Slot} {L : List Value} (h : s_has b nL ls L) {i : Nat} {v : Value} (hi : L[i]? = some v) : ls[i]? = some (.val (s_cv b v)) := h.1.2.2 (i, s_cv b v) (s_ls_mem.mpr ⟨v, hi, rfl⟩)
theorem s_has.size {b nL : Nat} {ls : Array Slot} {L : List Value} (h : s_has b nL ls L) : ls.size = nL := h.1.1
theorem s_has.sub {b nL : Nat} {ls : Array Slot} {L L' : List Value} (h : s_has b nL ls L) (hs : ∀ (i : Nat) (v : Value), L'[i]? = some v → L[i]? = some v) : s_has b nL ls L' := by
  refine ⟨⟨h.1.1, h.1.2.1, fun q hq => ?_⟩, fun v hv => ?_⟩
  · obtain ⟨v, hv, e⟩ := s_ls_mem.mp (show (q.1, q.2) ∈ s_ls b L' from hq)
    rw [e]
    exact h.at (hs _ _ hv)
  · obtain ⟨i, hi⟩ := List.getElem?_of_mem hv
    exact h.2 v (List.mem_of_getElem? (hs i v hi))
theorem s_cv_cat (b : Nat) (v : Value) : (s_cv b v).category = v.category := by cases v <;> rfl
/-- what a store into place i leaves -/
theorem s_has.put {b nL : Nat} {ls' : Array Slot} {L L' : List Value} {i : Nat} {x : Value} (hc : ∀ v ∈ L, v.category = 1) (hx : x.category = 1)
    (h : lv_has ls' nL ((i, s_cv b x) :: (s_ls b L).filter (fun q => !(q.1 == i) && !(q.1 + 1 == i && q.2.category == 2))))
    (hs : ∀ (j : Nat) (v : Value), L'[j]? = some v → (j = i ∧ v = x) ∨ (j ≠ i ∧ L[j]? = some v)) : s_has b nL ls' L' := by
  refine ⟨⟨h.1, h.2.1, fun q hq => ?_⟩, fun v hv => ?_⟩
  · obtain ⟨v, hv, e⟩ := s_ls_mem.mp (show (q.1, q.2) ∈ s_ls b L' from hq)
    rcases hs _ _ hv with ⟨h1, h2⟩ | ⟨h1, h2⟩
    · subst h2
      have := h.2.2 (i, s_cv b v) List.mem_cons_self
      rw [e, h1]
      exact this
    · refine h.2.2 q (List.mem_cons_of_mem _ (List.mem_filter.mpr ⟨s_ls_mem.mpr ⟨v, h2, e⟩, ?_⟩))
      have hcat : q.2.category = 1 := by rw [e, s_cv_cat]; exact hc v (List.mem_of_getElem? h2)
      simp [h1, hcat]
  · obtain ⟨j, hj⟩ := List.getElem?_of_mem hv
    rcases hs j v hj with ⟨-, h2⟩ | ⟨-, h2⟩
    · rw [h2]; exact hx
    · exact hc v (List.mem_of_getElem? h2)
theorem s_app_at {L : List Value} {x : Value} {i : Nat} (hi : i = L.length) : ∀ (j : Nat) (v : Value), (L ++ [x])[j]? = some v → (j = i ∧ v = x) ∨ (j ≠ i ∧ L[j]? = some v) := by
  intro j v h
  by_cases e : j < L.length
  · rw [List.getElem?_append_left e] at h
    exact Or.inr ⟨by omega, h⟩
  · rw [List.getElem?_append_right (by omega)] at h
    have hz : j - L.length < 1 := (List.getElem?_eq_some_iff.mp h).1
    rw [show j - L.length = 0 by omega] at h
    cases h
    exact Or.inl ⟨by omega, rfl⟩
theorem s_set_at {L : List Value} {x : Value} {i : Nat} : ∀ (j : Nat) (v : Value), (L.set i x)[j]? = some v → (j = i ∧ v = x) ∨ (j ≠ i ∧ L[j]? = some v) := by
  intro j v h
  by_cases e : i = j
  · subst e
    have hl := (List.getElem?_eq_some_iff.mp h).1
    rw [List.length_set] at hl
    rw [List.getElem?_set_self hl] at h
    cases h
    exact Or.inl ⟨rfl, rfl⟩
  · rw [List.getElem?_set_ne e] at h
    exact Or.inr ⟨fun q => e q.symm, h⟩
/-! what stands still while a body runs, and what the machine is asked at a place of it -/
abbrev sCy : Type := Program × Launch × Jvm.Env × Room × State × MethodId × Array Value × List Frame × Method × Code × sGeo × Nat × sSt × Option Value × sSt
def s_Qc (G : sGeo) (v : Option Value) (σ : sSt) : Array Value → State → Outcome → State → Prop := fun _ st o t => o = .returned (v.map (s_cv G.1)) ∧ s_Rel G σ t.heap ∧ va_F (fun q => G.1 ≤ q) st t
def s_AW (y : sCy) (pc : Nat) (L stk : List Value) (σ : sSt) : Prop := match y with
  | (p, l, e, R, s, m, args, below, meth, c, G, nL, σ0, vE, σE) => ∀ (H : Heap) (locs : List Loc) (ls : Array Slot), s_Rel G σ H ∧ va_S (fun q => G.1 ≤ q) s.heap H locs ∧ s_has G.1 nL ls L ∧ s_le σ0 σ →
      W p l e R s m args below meth c H locs (σ.1.length - σ0.1.length) (σ.2 - σ0.2) (MQ below (s_Qc G vE σE) args s (σE.1.length - σ0.1.length) (σE.2 - σ0.2) (fun q => G.1 ≤ q)) (F0 m pc ls (stk.map (s_cv G.1)))
def s_Gd (y : sCy) (cc : ByteArray) (ws : List Cond) (own : String) (ret : Option FieldType) (fr lo nL' : Nat) : Prop := match y with
  | (p, l, e, R, s, m, args, below, meth, c, G, nL, σ0, vE, σE) => p.tables.exec = Jvm.exec ∧ c.code = cc ∧ c.maxLocals = nL ∧ s.vm.findClass own = some m.cls ∧ (∀ w ∈ ws, w.before args s = true) ∧ s_Kn G s ∧ meth.locks = false ∧ meth.sig.returnType = ret ∧ R = { frames := fr, cells := σE.1.length - σ0.1.length, slots := σE.2 - σ0.2, locals := lo } ∧ nL = nL'
def s_vE (y : sCy) : Option Value := y.2.2.2.2.2.2.2.2.2.2.2.2.2.1
def s_sE (y : sCy) : sSt := y.2.2.2.2.2.2.2.2.2.2.2.2.2.2
def s_cl (y : sCy) : List vw_C := y.2.2.2.2.2.2.2.2.2.2.1.2.2.2.1
def s_comp (y : sCy) : String := y.2.2.2.2.2.2.2.2.2.2.1.2.2.2.2
def s_ini (y : sCy) : Prop := y.2.2.2.2.2.2.2.2.1.name = "<init>"
