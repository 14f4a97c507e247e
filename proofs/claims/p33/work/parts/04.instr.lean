theorem a_iconst {y : sCy} {cc : ByteArray} {ws : List Cond} {own : String} {ret : Option FieldType} {fr lo nL' : Nat} (hg : s_Gd y cc ws own ret fr lo nL') {pc : Nat} {L stk : List Value} {σ : sSt} {n : Int} {v : Int32} (hd : decode cc pc = .ok (.iconst n, 1)) (hv : Int32.ofInt n = v) (k : s_AW y (pc + 1) L (.int v :: stk) σ) : s_AW y pc L stk σ := by
  obtain ⟨p, l, e, R, s, m, args, below, meth, c, G, nL, σ0, vE, σE⟩ := y
  obtain ⟨hx, hb, hml, hown, hts, ⟨hK, hNw⟩, hlk, hr, hR, hnL⟩ := hg
  intro H locs ls h
  exact lv_iconst hx hb hd hv (k H locs ls h)
theorem a_bipush {y : sCy} {cc : ByteArray} {ws : List Cond} {own : String} {ret : Option FieldType} {fr lo nL' : Nat} (hg : s_Gd y cc ws own ret fr lo nL') {pc : Nat} {L stk : List Value} {σ : sSt} {n : Int} {v : Int32} (hd : decode cc pc = .ok (.bipush n, 2)) (hv : (Int8.ofInt n).toInt32 = v) (k : s_AW y (pc + 2) L (.int v :: stk) σ) : s_AW y pc L stk σ := by
  obtain ⟨p, l, e, R, s, m, args, below, meth, c, G, nL, σ0, vE, σE⟩ := y
  obtain ⟨hx, hb, hml, hown, hts, ⟨hK, hNw⟩, hlk, hr, hR, hnL⟩ := hg
  intro H locs ls h
  exact lv_bipush hx hb hd hv (k H locs ls h)
theorem a_sipush {y : sCy} {cc : ByteArray} {ws : List Cond} {own : String} {ret : Option FieldType} {fr lo nL' : Nat} (hg : s_Gd y cc ws own ret fr lo nL') {pc : Nat} {L stk : List Value} {σ : sSt} {n : Int} {v : Int32} (hd : decode cc pc = .ok (.sipush n, 3)) (hv : (Int16.ofInt n).toInt32 = v) (k : s_AW y (pc + 3) L (.int v :: stk) σ) : s_AW y pc L stk σ := by
  obtain ⟨p, l, e, R, s, m, args, below, meth, c, G, nL, σ0, vE, σE⟩ := y
  obtain ⟨hx, hb, hml, hown, hts, ⟨hK, hNw⟩, hlk, hr, hR, hnL⟩ := hg
  intro H locs ls h
  exact lv_sipush hx hb hd hv (k H locs ls h)
theorem a_iload_n {y : sCy} {cc : ByteArray} {ws : List Cond} {own : String} {ret : Option FieldType} {fr lo nL' : Nat} (hg : s_Gd y cc ws own ret fr lo nL') {pc : Nat} {L stk : List Value} {σ : sSt} {j : Fin 4} {i : Nat} {x : Int32} (hd : decode cc pc = .ok (.iload_n j, 1)) (hj : (j : Nat) = i) (hi : L[i]? = some (.int x)) (k : s_AW y (pc + 1) L (.int x :: stk) σ) : s_AW y pc L stk σ := by
  obtain ⟨p, l, e, R, s, m, args, below, meth, c, G, nL, σ0, vE, σE⟩ := y
  obtain ⟨hx, hb, hml, hown, hts, ⟨hK, hNw⟩, hlk, hr, hR, hnL⟩ := hg
  intro H locs ls h
  exact lv_iload_n hx hb hd hj (h.2.2.1.at hi) (k H locs ls h)
theorem a_iload {y : sCy} {cc : ByteArray} {ws : List Cond} {own : String} {ret : Option FieldType} {fr lo nL' : Nat} (hg : s_Gd y cc ws own ret fr lo nL') {pc : Nat} {L stk : List Value} {σ : sSt} {i : Nat} {x : Int32} (hd : decode cc pc = .ok (.iload i, 2)) (hi : L[i]? = some (.int x)) (k : s_AW y (pc + 2) L (.int x :: stk) σ) : s_AW y pc L stk σ := by
  obtain ⟨p, l, e, R, s, m, args, below, meth, c, G, nL, σ0, vE, σE⟩ := y
  obtain ⟨hx, hb, hml, hown, hts, ⟨hK, hNw⟩, hlk, hr, hR, hnL⟩ := hg
  intro H locs ls h
  exact lv_iload hx hb hd (h.2.2.1.at hi) (k H locs ls h)
theorem a_aload_n {y : sCy} {cc : ByteArray} {ws : List Cond} {own : String} {ret : Option FieldType} {fr lo nL' : Nat} (hg : s_Gd y cc ws own ret fr lo nL') {pc : Nat} {L stk : List Value} {σ : sSt} {j : Fin 4} {i : Nat} {x : Option Nat} (hd : decode cc pc = .ok (.aload_n j, 1)) (hj : (j : Nat) = i) (hi : L[i]? = some (va_rf x)) (k : s_AW y (pc + 1) L (va_rf x :: stk) σ) : s_AW y pc L stk σ := by
  obtain ⟨p, l, e, R, s, m, args, below, meth, c, G, nL, σ0, vE, σE⟩ := y
  obtain ⟨hx, hb, hml, hown, hts, ⟨hK, hNw⟩, hlk, hr, hR, hnL⟩ := hg
  intro H locs ls h
  cases x with
  | none => exact lv_aload_nN hx hb hd hj (h.2.2.1.at hi) (k H locs ls h)
  | some x => exact lv_aload_n hx hb hd hj (h.2.2.1.at hi) (k H locs ls h)
theorem a_aload {y : sCy} {cc : ByteArray} {ws : List Cond} {own : String} {ret : Option FieldType} {fr lo nL' : Nat} (hg : s_Gd y cc ws own ret fr lo nL') {pc : Nat} {L stk : List Value} {σ : sSt} {i : Nat} {x : Option Nat} (hd : decode cc pc = .ok (.aload i, 2)) (hi : L[i]? = some (va_rf x)) (k : s_AW y (pc + 2) L (va_rf x :: stk) σ) : s_AW y pc L stk σ := by
  obtain ⟨p, l, e, R, s, m, args, below, meth, c, G, nL, σ0, vE, σE⟩ := y
  obtain ⟨hx, hb, hml, hown, hts, ⟨hK, hNw⟩, hlk, hr, hR, hnL⟩ := hg
  intro H locs ls h
  cases x with
  | none => exact lv_aloadN hx hb hd (h.2.2.1.at hi) (k H locs ls h)
  | some x => exact lv_aload hx hb hd (h.2.2.1.at hi) (k H locs ls h)
theorem a_istore_n {y : sCy} {cc : ByteArray} {ws : List Cond} {own : String} {ret : Option FieldType} {fr lo nL' : Nat} (hg : s_Gd y cc ws own ret fr lo nL') {pc : Nat} {L stk : List Value} {σ : sSt} {j : Fin 4} {i : Nat} {x : Int32} {L' : List Value} (hd : decode cc pc = .ok (.istore_n j, 1)) (hj : (j : Nat) = i) (hi : i < nL') (hs : ∀ (j : Nat) (v : Value), L'[j]? = some v → (j = i ∧ v = .int x) ∨ (j ≠ i ∧ L[j]? = some v)) (k : s_AW y (pc + 1) L' stk σ) : s_AW y pc L (.int x :: stk) σ := by
  obtain ⟨p, l, e, R, s, m, args, below, meth, c, G, nL, σ0, vE, σE⟩ := y
  obtain ⟨hx, hb, hml, hown, hts, ⟨hK, hNw⟩, hlk, hr, hR, hnL⟩ := hg
  intro H locs ls h
  exact lv_istore_n hx hb hd hj h.2.2.1.1 (by omega) rfl (fun ls' hl' => k H locs ls' ⟨h.1, h.2.1, s_has.put (x := .int x) h.2.2.1.2 rfl hl' hs, h.2.2.2⟩)
theorem a_istore {y : sCy} {cc : ByteArray} {ws : List Cond} {own : String} {ret : Option FieldType} {fr lo nL' : Nat} (hg : s_Gd y cc ws own ret fr lo nL') {pc : Nat} {L stk : List Value} {σ : sSt} {i : Nat} {x : Int32} {L' : List Value} (hd : decode cc pc = .ok (.istore i, 2)) (hi : i < nL') (hs : ∀ (j : Nat) (v : Value), L'[j]? = some v → (j = i ∧ v = .int x) ∨ (j ≠ i ∧ L[j]? = some v)) (k : s_AW y (pc + 2) L' stk σ) : s_AW y pc L (.int x :: stk) σ := by
  obtain ⟨p, l, e, R, s, m, args, below, meth, c, G, nL, σ0, vE, σE⟩ := y
  obtain ⟨hx, hb, hml, hown, hts, ⟨hK, hNw⟩, hlk, hr, hR, hnL⟩ := hg
  intro H locs ls h
  exact lv_istore hx hb hd h.2.2.1.1 (by omega) rfl (fun ls' hl' => k H locs ls' ⟨h.1, h.2.1, s_has.put (x := .int x) h.2.2.1.2 rfl hl' hs, h.2.2.2⟩)
theorem a_astore_n {y : sCy} {cc : ByteArray} {ws : List Cond} {own : String} {ret : Option FieldType} {fr lo nL' : Nat} (hg : s_Gd y cc ws own ret fr lo nL') {pc : Nat} {L stk : List Value} {σ : sSt} {j : Fin 4} {i : Nat} {x : Option Nat} {L' : List Value} (hd : decode cc pc = .ok (.astore_n j, 1)) (hj : (j : Nat) = i) (hi : i < nL') (hs : ∀ (j : Nat) (v : Value), L'[j]? = some v → (j = i ∧ v = va_rf x) ∨ (j ≠ i ∧ L[j]? = some v)) (k : s_AW y (pc + 1) L' stk σ) : s_AW y pc L (va_rf x :: stk) σ := by
  obtain ⟨p, l, e, R, s, m, args, below, meth, c, G, nL, σ0, vE, σE⟩ := y
  obtain ⟨hx, hb, hml, hown, hts, ⟨hK, hNw⟩, hlk, hr, hR, hnL⟩ := hg
  intro H locs ls h
  cases x with
  | none => exact lv_astore_nN hx hb hd hj h.2.2.1.1 (by omega) rfl (fun ls' hl' => k H locs ls' ⟨h.1, h.2.1, s_has.put (x := .null) h.2.2.1.2 rfl hl' hs, h.2.2.2⟩)
  | some x => exact lv_astore_n hx hb hd hj h.2.2.1.1 (by omega) rfl (fun ls' hl' => k H locs ls' ⟨h.1, h.2.1, s_has.put (x := .ref x) h.2.2.1.2 rfl hl' hs, h.2.2.2⟩)
theorem a_astore {y : sCy} {cc : ByteArray} {ws : List Cond} {own : String} {ret : Option FieldType} {fr lo nL' : Nat} (hg : s_Gd y cc ws own ret fr lo nL') {pc : Nat} {L stk : List Value} {σ : sSt} {i : Nat} {x : Option Nat} {L' : List Value} (hd : decode cc pc = .ok (.astore i, 2)) (hi : i < nL') (hs : ∀ (j : Nat) (v : Value), L'[j]? = some v → (j = i ∧ v = va_rf x) ∨ (j ≠ i ∧ L[j]? = some v)) (k : s_AW y (pc + 2) L' stk σ) : s_AW y pc L (va_rf x :: stk) σ := by
  obtain ⟨p, l, e, R, s, m, args, below, meth, c, G, nL, σ0, vE, σE⟩ := y
  obtain ⟨hx, hb, hml, hown, hts, ⟨hK, hNw⟩, hlk, hr, hR, hnL⟩ := hg
  intro H locs ls h
  cases x with
  | none => exact lv_astoreN hx hb hd h.2.2.1.1 (by omega) rfl (fun ls' hl' => k H locs ls' ⟨h.1, h.2.1, s_has.put (x := .null) h.2.2.1.2 rfl hl' hs, h.2.2.2⟩)
  | some x => exact lv_astore hx hb hd h.2.2.1.1 (by omega) rfl (fun ls' hl' => k H locs ls' ⟨h.1, h.2.1, s_has.put (x := .ref x) h.2.2.1.2 rfl hl' hs, h.2.2.2⟩)
theorem a_iinc {y : sCy} {cc : ByteArray} {ws : List Cond} {own : String} {ret : Option FieldType} {fr lo nL' : Nat} (hg : s_Gd y cc ws own ret fr lo nL') {pc : Nat} {L stk : List Value} {σ : sSt} {i : Nat} {n : Int} {x v : Int32} {L' : List Value} (hd : decode cc pc = .ok (.iinc i n, 3)) (hi : i < nL') (hx0 : L[i]? = some (.int x)) (hv : x + Int32.ofInt n = v) (hs : ∀ (j : Nat) (w : Value), L'[j]? = some w → (j = i ∧ w = .int v) ∨ (j ≠ i ∧ L[j]? = some w)) (k : s_AW y (pc + 3) L' stk σ) : s_AW y pc L stk σ := by
  obtain ⟨p, l, e, R, s, m, args, below, meth, c, G, nL, σ0, vE, σE⟩ := y
  obtain ⟨hx, hb, hml, hown, hts, ⟨hK, hNw⟩, hlk, hr, hR, hnL⟩ := hg
  intro H locs ls h
  obtain ⟨q, hq⟩ := List.getElem?_of_mem (s_ls_mem.mpr ⟨_, hx0, rfl⟩ : (i, s_cv G.1 (.int x)) ∈ s_ls G.1 L)
  exact lv_iinc hx hb hd h.2.2.1.1 hq hv (by omega) rfl (fun ls' hl' => k H locs ls' ⟨h.1, h.2.1, s_has.put (x := .int v) h.2.2.1.2 rfl hl' hs, h.2.2.2⟩)
theorem a_iadd {y : sCy} {cc : ByteArray} {ws : List Cond} {own : String} {ret : Option FieldType} {fr lo nL' : Nat} (hg : s_Gd y cc ws own ret fr lo nL') {pc : Nat} {L stk : List Value} {σ : sSt} {x z : Int32} (hd : decode cc pc = .ok (.iadd, 1)) (k : s_AW y (pc + 1) L (.int (x + z) :: stk) σ) : s_AW y pc L (.int z :: .int x :: stk) σ := by
  obtain ⟨p, l, e, R, s, m, args, below, meth, c, G, nL, σ0, vE, σE⟩ := y
  obtain ⟨hx, hb, hml, hown, hts, ⟨hK, hNw⟩, hlk, hr, hR, hnL⟩ := hg
  intro H locs ls h
  exact lv_iadd hx hb hd (k H locs ls h)
theorem a_isub {y : sCy} {cc : ByteArray} {ws : List Cond} {own : String} {ret : Option FieldType} {fr lo nL' : Nat} (hg : s_Gd y cc ws own ret fr lo nL') {pc : Nat} {L stk : List Value} {σ : sSt} {x z : Int32} (hd : decode cc pc = .ok (.isub, 1)) (k : s_AW y (pc + 1) L (.int (x - z) :: stk) σ) : s_AW y pc L (.int z :: .int x :: stk) σ := by
  obtain ⟨p, l, e, R, s, m, args, below, meth, c, G, nL, σ0, vE, σE⟩ := y
  obtain ⟨hx, hb, hml, hown, hts, ⟨hK, hNw⟩, hlk, hr, hR, hnL⟩ := hg
  intro H locs ls h
  exact lv_isub hx hb hd (k H locs ls h)
theorem a_imul {y : sCy} {cc : ByteArray} {ws : List Cond} {own : String} {ret : Option FieldType} {fr lo nL' : Nat} (hg : s_Gd y cc ws own ret fr lo nL') {pc : Nat} {L stk : List Value} {σ : sSt} {x z : Int32} (hd : decode cc pc = .ok (.imul, 1)) (k : s_AW y (pc + 1) L (.int (x * z) :: stk) σ) : s_AW y pc L (.int z :: .int x :: stk) σ := by
  obtain ⟨p, l, e, R, s, m, args, below, meth, c, G, nL, σ0, vE, σE⟩ := y
  obtain ⟨hx, hb, hml, hown, hts, ⟨hK, hNw⟩, hlk, hr, hR, hnL⟩ := hg
  intro H locs ls h
  exact lv_imul hx hb hd (k H locs ls h)
theorem a_idiv {y : sCy} {cc : ByteArray} {ws : List Cond} {own : String} {ret : Option FieldType} {fr lo nL' : Nat} (hg : s_Gd y cc ws own ret fr lo nL') {pc : Nat} {L stk : List Value} {σ : sSt} {x z : Int32} (hd : decode cc pc = .ok (.idiv, 1)) (hne : ¬ z = 0) (k : s_AW y (pc + 1) L (.int (x / z) :: stk) σ) : s_AW y pc L (.int z :: .int x :: stk) σ := by
  obtain ⟨p, l, e, R, s, m, args, below, meth, c, G, nL, σ0, vE, σE⟩ := y
  obtain ⟨hx, hb, hml, hown, hts, ⟨hK, hNw⟩, hlk, hr, hR, hnL⟩ := hg
  intro H locs ls h
  exact lv_idiv hx hb hd hne (k H locs ls h)
theorem a_irem {y : sCy} {cc : ByteArray} {ws : List Cond} {own : String} {ret : Option FieldType} {fr lo nL' : Nat} (hg : s_Gd y cc ws own ret fr lo nL') {pc : Nat} {L stk : List Value} {σ : sSt} {x z : Int32} (hd : decode cc pc = .ok (.irem, 1)) (hne : ¬ z = 0) (k : s_AW y (pc + 1) L (.int (x - x / z * z) :: stk) σ) : s_AW y pc L (.int z :: .int x :: stk) σ := by
  obtain ⟨p, l, e, R, s, m, args, below, meth, c, G, nL, σ0, vE, σE⟩ := y
  obtain ⟨hx, hb, hml, hown, hts, ⟨hK, hNw⟩, hlk, hr, hR, hnL⟩ := hg
  intro H locs ls h
  exact lv_irem hx hb hd hne (k H locs ls h)
theorem a_pop {y : sCy} {cc : ByteArray} {ws : List Cond} {own : String} {ret : Option FieldType} {fr lo nL' : Nat} (hg : s_Gd y cc ws own ret fr lo nL') {pc : Nat} {L stk : List Value} {σ : sSt} {v : Value} (hd : decode cc pc = .ok (.pop, 1)) (hv : v.category = 1) (k : s_AW y (pc + 1) L stk σ) : s_AW y pc L (v :: stk) σ := by
  obtain ⟨p, l, e, R, s, m, args, below, meth, c, G, nL, σ0, vE, σE⟩ := y
  obtain ⟨hx, hb, hml, hown, hts, ⟨hK, hNw⟩, hlk, hr, hR, hnL⟩ := hg
  intro H locs ls h
  exact lv_pop hx hb hd ((s_cv_cat _ _).trans hv) (k H locs ls h)
theorem a_dup {y : sCy} {cc : ByteArray} {ws : List Cond} {own : String} {ret : Option FieldType} {fr lo nL' : Nat} (hg : s_Gd y cc ws own ret fr lo nL') {pc : Nat} {L stk : List Value} {σ : sSt} {v : Value} (hd : decode cc pc = .ok (.dup, 1)) (hv : v.category = 1) (k : s_AW y (pc + 1) L (v :: v :: stk) σ) : s_AW y pc L (v :: stk) σ := by
  obtain ⟨p, l, e, R, s, m, args, below, meth, c, G, nL, σ0, vE, σE⟩ := y
  obtain ⟨hx, hb, hml, hown, hts, ⟨hK, hNw⟩, hlk, hr, hR, hnL⟩ := hg
  intro H locs ls h
  exact lv_dup hx hb hd ((s_cv_cat _ _).trans hv) (k H locs ls h)
theorem a_dup2 {y : sCy} {cc : ByteArray} {ws : List Cond} {own : String} {ret : Option FieldType} {fr lo nL' : Nat} (hg : s_Gd y cc ws own ret fr lo nL') {pc : Nat} {L stk : List Value} {σ : sSt} {v w : Value} (hd : decode cc pc = .ok (.dup2, 1)) (hv : v.category = 1) (hw : w.category = 1) (k : s_AW y (pc + 1) L (v :: w :: v :: w :: stk) σ) : s_AW y pc L (v :: w :: stk) σ := by
  obtain ⟨p, l, e, R, s, m, args, below, meth, c, G, nL, σ0, vE, σE⟩ := y
  obtain ⟨hx, hb, hml, hown, hts, ⟨hK, hNw⟩, hlk, hr, hR, hnL⟩ := hg
  intro H locs ls h
  exact lv_dup2_11 hx hb hd ((s_cv_cat _ _).trans hv) ((s_cv_cat _ _).trans hw) (k H locs ls h)
theorem a_null {y : sCy} {cc : ByteArray} {ws : List Cond} {own : String} {ret : Option FieldType} {fr lo nL' : Nat} (hg : s_Gd y cc ws own ret fr lo nL') {pc : Nat} {L stk : List Value} {σ : sSt} (hd : decode cc pc = .ok (.aconst_null, 1)) (k : s_AW y (pc + 1) L (va_rf none :: stk) σ) : s_AW y pc L stk σ := by
  obtain ⟨p, l, e, R, s, m, args, below, meth, c, G, nL, σ0, vE, σE⟩ := y
  obtain ⟨hx, hb, hml, hown, hts, ⟨hK, hNw⟩, hlk, hr, hR, hnL⟩ := hg
  intro H locs ls h
  exact lv_null hx hb hd (k H locs ls h)
theorem a_dconst0 {y : sCy} {cc : ByteArray} {ws : List Cond} {own : String} {ret : Option FieldType} {fr lo nL' : Nat} (hg : s_Gd y cc ws own ret fr lo nL') {pc : Nat} {L stk : List Value} {σ : sSt} (hd : decode cc pc = .ok (.dconst 0, 1)) (k : s_AW y (pc + 1) L (.double 0 :: stk) σ) : s_AW y pc L stk σ := by
  obtain ⟨p, l, e, R, s, m, args, below, meth, c, G, nL, σ0, vE, σE⟩ := y
  obtain ⟨hx, hb, hml, hown, hts, ⟨hK, hNw⟩, hlk, hr, hR, hnL⟩ := hg
  intro H locs ls h
  exact lv_dconst0 hx hb hd (k H locs ls h)
theorem a_i2d {y : sCy} {cc : ByteArray} {ws : List Cond} {own : String} {ret : Option FieldType} {fr lo nL' : Nat} (hg : s_Gd y cc ws own ret fr lo nL') {pc : Nat} {L stk : List Value} {σ : sSt} {x : Int32} (hd : decode cc pc = .ok (.i2d, 1)) (k : s_AW y (pc + 1) L (.double (FP.i2d x) :: stk) σ) : s_AW y pc L (.int x :: stk) σ := by
  obtain ⟨p, l, e, R, s, m, args, below, meth, c, G, nL, σ0, vE, σE⟩ := y
  obtain ⟨hx, hb, hml, hown, hts, ⟨hK, hNw⟩, hlk, hr, hR, hnL⟩ := hg
  intro H locs ls h
  exact lv_i2d hx hb hd (k H locs ls h)
theorem a_ddiv {y : sCy} {cc : ByteArray} {ws : List Cond} {own : String} {ret : Option FieldType} {fr lo nL' : Nat} (hg : s_Gd y cc ws own ret fr lo nL') {pc : Nat} {L stk : List Value} {σ : sSt} {x z : UInt64} (hd : decode cc pc = .ok (.ddiv, 1)) (hn : vf_n64 (FP.ddiv x z)) (k : s_AW y (pc + 1) L (.double (FP.ddiv x z) :: stk) σ) : s_AW y pc L (.double z :: .double x :: stk) σ := by
  obtain ⟨p, l, e, R, s, m, args, below, meth, c, G, nL, σ0, vE, σE⟩ := y
  obtain ⟨hx, hb, hml, hown, hts, ⟨hK, hNw⟩, hlk, hr, hR, hnL⟩ := hg
  intro H locs ls h
  exact lv_ddiv hx hb hd hn (k H locs ls h)
theorem a_goto {y : sCy} {cc : ByteArray} {ws : List Cond} {own : String} {ret : Option FieldType} {fr lo nL' : Nat} (hg : s_Gd y cc ws own ret fr lo nL') {pc : Nat} {L stk : List Value} {σ : sSt} {off : Int} {tgt : Nat} (hd : decode cc pc = .ok (.goto off, 3)) (ht : (pc : Int) + off = (tgt : Int)) (k : s_AW y tgt L stk σ) : s_AW y pc L stk σ := by
  obtain ⟨p, l, e, R, s, m, args, below, meth, c, G, nL, σ0, vE, σE⟩ := y
  obtain ⟨hx, hb, hml, hown, hts, ⟨hK, hNw⟩, hlk, hr, hR, hnL⟩ := hg
  intro H locs ls h
  exact lv_goto hx hb hd ht (k H locs ls h)
theorem a_icmp_eq {y : sCy} {cc : ByteArray} {ws : List Cond} {own : String} {ret : Option FieldType} {fr lo nL' : Nat} (hg : s_Gd y cc ws own ret fr lo nL') {pc : Nat} {L stk : List Value} {σ : sSt} {x z : Int32} {off : Int} {tgt : Nat} (hd : decode cc pc = .ok (.if_icmp .eq off, 3)) (ht : (pc : Int) + off = (tgt : Int)) (kt : x = z → s_AW y tgt L stk σ) (kf : ¬ x = z → s_AW y (pc + 3) L stk σ) : s_AW y pc L (.int z :: .int x :: stk) σ := by
  obtain ⟨p, l, e, R, s, m, args, below, meth, c, G, nL, σ0, vE, σE⟩ := y
  obtain ⟨hx, hb, hml, hown, hts, ⟨hK, hNw⟩, hlk, hr, hR, hnL⟩ := hg
  intro H locs ls h
  exact lv_icmp_eq hx hb hd ht (fun q => kt q H locs ls h) (fun q => kf q H locs ls h)
theorem a_icmp_ne {y : sCy} {cc : ByteArray} {ws : List Cond} {own : String} {ret : Option FieldType} {fr lo nL' : Nat} (hg : s_Gd y cc ws own ret fr lo nL') {pc : Nat} {L stk : List Value} {σ : sSt} {x z : Int32} {off : Int} {tgt : Nat} (hd : decode cc pc = .ok (.if_icmp .ne off, 3)) (ht : (pc : Int) + off = (tgt : Int)) (kt : ¬ x = z → s_AW y tgt L stk σ) (kf : x = z → s_AW y (pc + 3) L stk σ) : s_AW y pc L (.int z :: .int x :: stk) σ := by
  obtain ⟨p, l, e, R, s, m, args, below, meth, c, G, nL, σ0, vE, σE⟩ := y
  obtain ⟨hx, hb, hml, hown, hts, ⟨hK, hNw⟩, hlk, hr, hR, hnL⟩ := hg
  intro H locs ls h
  exact lv_icmp_ne hx hb hd ht (fun q => kt q H locs ls h) (fun q => kf q H locs ls h)
theorem a_icmp_lt {y : sCy} {cc : ByteArray} {ws : List Cond} {own : String} {ret : Option FieldType} {fr lo nL' : Nat} (hg : s_Gd y cc ws own ret fr lo nL') {pc : Nat} {L stk : List Value} {σ : sSt} {x z : Int32} {off : Int} {tgt : Nat} (hd : decode cc pc = .ok (.if_icmp .lt off, 3)) (ht : (pc : Int) + off = (tgt : Int)) (kt : x < z → s_AW y tgt L stk σ) (kf : ¬ x < z → s_AW y (pc + 3) L stk σ) : s_AW y pc L (.int z :: .int x :: stk) σ := by
  obtain ⟨p, l, e, R, s, m, args, below, meth, c, G, nL, σ0, vE, σE⟩ := y
  obtain ⟨hx, hb, hml, hown, hts, ⟨hK, hNw⟩, hlk, hr, hR, hnL⟩ := hg
  intro H locs ls h
  exact lv_icmp_lt hx hb hd ht (fun q => kt q H locs ls h) (fun q => kf q H locs ls h)
theorem a_icmp_ge {y : sCy} {cc : ByteArray} {ws : List Cond} {own : String} {ret : Option FieldType} {fr lo nL' : Nat} (hg : s_Gd y cc ws own ret fr lo nL') {pc : Nat} {L stk : List Value} {σ : sSt} {x z : Int32} {off : Int} {tgt : Nat} (hd : decode cc pc = .ok (.if_icmp .ge off, 3)) (ht : (pc : Int) + off = (tgt : Int)) (kt : z ≤ x → s_AW y tgt L stk σ) (kf : ¬ z ≤ x → s_AW y (pc + 3) L stk σ) : s_AW y pc L (.int z :: .int x :: stk) σ := by
  obtain ⟨p, l, e, R, s, m, args, below, meth, c, G, nL, σ0, vE, σE⟩ := y
  obtain ⟨hx, hb, hml, hown, hts, ⟨hK, hNw⟩, hlk, hr, hR, hnL⟩ := hg
  intro H locs ls h
  exact lv_icmp_ge hx hb hd ht (fun q => kt q H locs ls h) (fun q => kf q H locs ls h)
theorem a_icmp_gt {y : sCy} {cc : ByteArray} {ws : List Cond} {own : String} {ret : Option FieldType} {fr lo nL' : Nat} (hg : s_Gd y cc ws own ret fr lo nL') {pc : Nat} {L stk : List Value} {σ : sSt} {x z : Int32} {off : Int} {tgt : Nat} (hd : decode cc pc = .ok (.if_icmp .gt off, 3)) (ht : (pc : Int) + off = (tgt : Int)) (kt : z < x → s_AW y tgt L stk σ) (kf : ¬ z < x → s_AW y (pc + 3) L stk σ) : s_AW y pc L (.int z :: .int x :: stk) σ := by
  obtain ⟨p, l, e, R, s, m, args, below, meth, c, G, nL, σ0, vE, σE⟩ := y
  obtain ⟨hx, hb, hml, hown, hts, ⟨hK, hNw⟩, hlk, hr, hR, hnL⟩ := hg
  intro H locs ls h
  exact lv_icmp_gt hx hb hd ht (fun q => kt q H locs ls h) (fun q => kf q H locs ls h)
theorem a_icmp_le {y : sCy} {cc : ByteArray} {ws : List Cond} {own : String} {ret : Option FieldType} {fr lo nL' : Nat} (hg : s_Gd y cc ws own ret fr lo nL') {pc : Nat} {L stk : List Value} {σ : sSt} {x z : Int32} {off : Int} {tgt : Nat} (hd : decode cc pc = .ok (.if_icmp .le off, 3)) (ht : (pc : Int) + off = (tgt : Int)) (kt : x ≤ z → s_AW y tgt L stk σ) (kf : ¬ x ≤ z → s_AW y (pc + 3) L stk σ) : s_AW y pc L (.int z :: .int x :: stk) σ := by
  obtain ⟨p, l, e, R, s, m, args, below, meth, c, G, nL, σ0, vE, σE⟩ := y
  obtain ⟨hx, hb, hml, hown, hts, ⟨hK, hNw⟩, hlk, hr, hR, hnL⟩ := hg
  intro H locs ls h
  exact lv_icmp_le hx hb hd ht (fun q => kt q H locs ls h) (fun q => kf q H locs ls h)
theorem a_if_eq {y : sCy} {cc : ByteArray} {ws : List Cond} {own : String} {ret : Option FieldType} {fr lo nL' : Nat} (hg : s_Gd y cc ws own ret fr lo nL') {pc : Nat} {L stk : List Value} {σ : sSt} {x : Int32} {off : Int} {tgt : Nat} (hd : decode cc pc = .ok (.ifCond .eq off, 3)) (ht : (pc : Int) + off = (tgt : Int)) (kt : x = 0 → s_AW y tgt L stk σ) (kf : ¬ x = 0 → s_AW y (pc + 3) L stk σ) : s_AW y pc L (.int x :: stk) σ := by
  obtain ⟨p, l, e, R, s, m, args, below, meth, c, G, nL, σ0, vE, σE⟩ := y
  obtain ⟨hx, hb, hml, hown, hts, ⟨hK, hNw⟩, hlk, hr, hR, hnL⟩ := hg
  intro H locs ls h
  exact lv_if_eq hx hb hd ht (fun q => kt q H locs ls h) (fun q => kf q H locs ls h)
theorem a_if_ne {y : sCy} {cc : ByteArray} {ws : List Cond} {own : String} {ret : Option FieldType} {fr lo nL' : Nat} (hg : s_Gd y cc ws own ret fr lo nL') {pc : Nat} {L stk : List Value} {σ : sSt} {x : Int32} {off : Int} {tgt : Nat} (hd : decode cc pc = .ok (.ifCond .ne off, 3)) (ht : (pc : Int) + off = (tgt : Int)) (kt : ¬ x = 0 → s_AW y tgt L stk σ) (kf : x = 0 → s_AW y (pc + 3) L stk σ) : s_AW y pc L (.int x :: stk) σ := by
  obtain ⟨p, l, e, R, s, m, args, below, meth, c, G, nL, σ0, vE, σE⟩ := y
  obtain ⟨hx, hb, hml, hown, hts, ⟨hK, hNw⟩, hlk, hr, hR, hnL⟩ := hg
  intro H locs ls h
  exact lv_if_ne hx hb hd ht (fun q => kt q H locs ls h) (fun q => kf q H locs ls h)
theorem a_if_lt {y : sCy} {cc : ByteArray} {ws : List Cond} {own : String} {ret : Option FieldType} {fr lo nL' : Nat} (hg : s_Gd y cc ws own ret fr lo nL') {pc : Nat} {L stk : List Value} {σ : sSt} {x : Int32} {off : Int} {tgt : Nat} (hd : decode cc pc = .ok (.ifCond .lt off, 3)) (ht : (pc : Int) + off = (tgt : Int)) (kt : x < 0 → s_AW y tgt L stk σ) (kf : ¬ x < 0 → s_AW y (pc + 3) L stk σ) : s_AW y pc L (.int x :: stk) σ := by
  obtain ⟨p, l, e, R, s, m, args, below, meth, c, G, nL, σ0, vE, σE⟩ := y
  obtain ⟨hx, hb, hml, hown, hts, ⟨hK, hNw⟩, hlk, hr, hR, hnL⟩ := hg
  intro H locs ls h
  exact lv_if_lt hx hb hd ht (fun q => kt q H locs ls h) (fun q => kf q H locs ls h)
theorem a_if_ge {y : sCy} {cc : ByteArray} {ws : List Cond} {own : String} {ret : Option FieldType} {fr lo nL' : Nat} (hg : s_Gd y cc ws own ret fr lo nL') {pc : Nat} {L stk : List Value} {σ : sSt} {x : Int32} {off : Int} {tgt : Nat} (hd : decode cc pc = .ok (.ifCond .ge off, 3)) (ht : (pc : Int) + off = (tgt : Int)) (kt : 0 ≤ x → s_AW y tgt L stk σ) (kf : ¬ 0 ≤ x → s_AW y (pc + 3) L stk σ) : s_AW y pc L (.int x :: stk) σ := by
  obtain ⟨p, l, e, R, s, m, args, below, meth, c, G, nL, σ0, vE, σE⟩ := y
  obtain ⟨hx, hb, hml, hown, hts, ⟨hK, hNw⟩, hlk, hr, hR, hnL⟩ := hg
  intro H locs ls h
  exact lv_if_ge hx hb hd ht (fun q => kt q H locs ls h) (fun q => kf q H locs ls h)
theorem a_if_gt {y : sCy} {cc : ByteArray} {ws : List Cond} {own : String} {ret : Option FieldType} {fr lo nL' : Nat} (hg : s_Gd y cc ws own ret fr lo nL') {pc : Nat} {L stk : List Value} {σ : sSt} {x : Int32} {off : Int} {tgt : Nat} (hd : decode cc pc = .ok (.ifCond .gt off, 3)) (ht : (pc : Int) + off = (tgt : Int)) (kt : 0 < x → s_AW y tgt L stk σ) (kf : ¬ 0 < x → s_AW y (pc + 3) L stk σ) : s_AW y pc L (.int x :: stk) σ := by
  obtain ⟨p, l, e, R, s, m, args, below, meth, c, G, nL, σ0, vE, σE⟩ := y
  obtain ⟨hx, hb, hml, hown, hts, ⟨hK, hNw⟩, hlk, hr, hR, hnL⟩ := hg
  intro H locs ls h
  exact lv_if_gt hx hb hd ht (fun q => kt q H locs ls h) (fun q => kf q H locs ls h)
theorem a_if_le {y : sCy} {cc : ByteArray} {ws : List Cond} {own : String} {ret : Option FieldType} {fr lo nL' : Nat} (hg : s_Gd y cc ws own ret fr lo nL') {pc : Nat} {L stk : List Value} {σ : sSt} {x : Int32} {off : Int} {tgt : Nat} (hd : decode cc pc = .ok (.ifCond .le off, 3)) (ht : (pc : Int) + off = (tgt : Int)) (kt : x ≤ 0 → s_AW y tgt L stk σ) (kf : ¬ x ≤ 0 → s_AW y (pc + 3) L stk σ) : s_AW y pc L (.int x :: stk) σ := by
  obtain ⟨p, l, e, R, s, m, args, below, meth, c, G, nL, σ0, vE, σE⟩ := y
  obtain ⟨hx, hb, hml, hown, hts, ⟨hK, hNw⟩, hlk, hr, hR, hnL⟩ := hg
  intro H locs ls h
  exact lv_if_le hx hb hd ht (fun q => kt q H locs ls h) (fun q => kf q H locs ls h)
theorem a_ifnull {y : sCy} {cc : ByteArray} {ws : List Cond} {own : String} {ret : Option FieldType} {fr lo nL' : Nat} (hg : s_Gd y cc ws own ret fr lo nL') {pc : Nat} {L stk : List Value} {σ : sSt} {x : Option Nat} {off : Int} {tgt : Nat} (hd : decode cc pc = .ok (.ifnull off, 3)) (ht : (pc : Int) + off = (tgt : Int)) (kt : x = none → s_AW y tgt L stk σ) (kf : ¬ x = none → s_AW y (pc + 3) L stk σ) : s_AW y pc L (va_rf x :: stk) σ := by
  obtain ⟨p, l, e, R, s, m, args, below, meth, c, G, nL, σ0, vE, σE⟩ := y
  obtain ⟨hx, hb, hml, hown, hts, ⟨hK, hNw⟩, hlk, hr, hR, hnL⟩ := hg
  intro H locs ls h
  cases x with
  | none => exact lv_ifnullN hx hb hd ht (kt rfl H locs ls h)
  | some x => exact lv_ifnull hx hb hd (kf (fun q => by cases q) H locs ls h)
theorem a_ifnonnull {y : sCy} {cc : ByteArray} {ws : List Cond} {own : String} {ret : Option FieldType} {fr lo nL' : Nat} (hg : s_Gd y cc ws own ret fr lo nL') {pc : Nat} {L stk : List Value} {σ : sSt} {x : Option Nat} {off : Int} {tgt : Nat} (hd : decode cc pc = .ok (.ifnonnull off, 3)) (ht : (pc : Int) + off = (tgt : Int)) (kt : ¬ x = none → s_AW y tgt L stk σ) (kf : x = none → s_AW y (pc + 3) L stk σ) : s_AW y pc L (va_rf x :: stk) σ := by
  obtain ⟨p, l, e, R, s, m, args, below, meth, c, G, nL, σ0, vE, σE⟩ := y
  obtain ⟨hx, hb, hml, hown, hts, ⟨hK, hNw⟩, hlk, hr, hR, hnL⟩ := hg
  intro H locs ls h
  cases x with
  | none => exact lv_ifnonnullN hx hb hd (kf rfl H locs ls h)
  | some x => exact lv_ifnonnull hx hb hd ht (kt (fun q => by cases q) H locs ls h)
/-- a class's table, as the rows of fields want it -/
def s_Cl (y : sCy) (ws : List Cond) (ci : Nat) (C : String) (T : u_T) (N : Nat) : Prop := (s_cl y)[ci]? = some (C, T, N) ∧ ∀ w ∈ u_ws C T N, w ∈ ws
theorem a_get {y : sCy} {cc : ByteArray} {ws : List Cond} {own : String} {ret : Option FieldType} {fr lo nL' : Nat} (hg : s_Gd y cc ws own ret fr lo nL') {pc : Nat} {L stk : List Value} {σ : sSt} {ci N k index : Nat} {C : String} {T : u_T} (hC : s_Cl y ws ci C T N) (hk : k < N) (hl : Cond.fieldLink own index C (T k).2.1 (T k).2.2.1 ∈ ws) (hT : (T k).1 = C) (hd : decode cc pc = .ok (.getfield index, 3)) {b : Nat} {fs : List Value} {v : Value} (hb0 : σ.1[b]? = some (.inl (ci, fs))) (hv : fs[k]? = some v) (kk : s_AW y (pc + 3) L (v :: stk) σ) : s_AW y pc L (.ref b :: stk) σ := by
  obtain ⟨p, l, e, R, s, m, args, below, meth, c, G, nL, σ0, vE, σE⟩ := y
  obtain ⟨hx, hb, hml, hown, hts, ⟨hK, hNw⟩, hlk, hr, hR, hnL⟩ := hg
  intro H locs ls h
  exact va_get (ci := ci) (C := C) (T := T) (N := N) (ref := C) hx hb hts hC.2 hown hK (s_one h.1 hb0) 0 rfl hC.1 k hk (hts _ hl) (fun x hq => by rw [hT] at hq; exact hq) (v := s_cv G.1 v) (by simp [hv]) hd (kk H locs ls h)
theorem a_getN {y : sCy} {cc : ByteArray} {ws : List Cond} {own : String} {ret : Option FieldType} {fr lo nL' : Nat} (hg : s_Gd y cc ws own ret fr lo nL') {pc : Nat} {L stk : List Value} {σ : sSt} {ci N k index : Nat} {C host : String} {T : u_T} (hC : s_Cl y ws ci C T N) (hk : k < N) (hl : Cond.fieldLinkNest own index C (T k).2.1 (T k).2.2.1 host ∈ s_nest) (hT : (T k).1 = C) (hd : decode cc pc = .ok (.getfield index, 3)) {b : Nat} {fs : List Value} {v : Value} (hb0 : σ.1[b]? = some (.inl (ci, fs))) (hv : fs[k]? = some v) (kk : s_AW y (pc + 3) L (v :: stk) σ) : s_AW y pc L (.ref b :: stk) σ := by
  obtain ⟨p, l, e, R, s, m, args, below, meth, c, G, nL, σ0, vE, σE⟩ := y
  obtain ⟨hx, hb, hml, hown, hts, ⟨hK, hNw⟩, hlk, hr, hR, hnL⟩ := hg
  intro H locs ls h
  exact va_getN (ci := ci) (C := C) (T := T) (N := N) (ref := C) (host := host) hx hb hts hC.2 hown hK (s_one h.1 hb0) 0 rfl hC.1 k hk (va_Nw.use rfl (hNw _ hl)) (fun x hq => by rw [hT] at hq; exact hq) (v := s_cv G.1 v) (by simp [hv]) hd (kk H locs ls h)
theorem a_iald {y : sCy} {cc : ByteArray} {ws : List Cond} {own : String} {ret : Option FieldType} {fr lo nL' : Nat} (hg : s_Gd y cc ws own ret fr lo nL') {pc : Nat} {L stk : List Value} {σ : sSt} (hd : decode cc pc = .ok (.iaload, 1)) {b n : Nat} {f : Nat → Int32} {i : Int32} (hb0 : σ.1[b]? = some (.inr (.inl (n, f)))) (hi : vp_in i n) (kk : s_AW y (pc + 1) L (.int (f i.toNatClampNeg) :: stk) σ) : s_AW y pc L (.int i :: .ref b :: stk) σ := by
  obtain ⟨p, l, e, R, s, m, args, below, meth, c, G, nL, σ0, vE, σE⟩ := y
  obtain ⟨hx, hb, hml, hown, hts, ⟨hK, hNw⟩, hlk, hr, hR, hnL⟩ := hg
  intro H locs ls h
  exact va_iald hx hb hK (s_one h.1 hb0) 0 0 rfl rfl hi hd (kk H locs ls h)
theorem a_aald {y : sCy} {cc : ByteArray} {ws : List Cond} {own : String} {ret : Option FieldType} {fr lo nL' : Nat} (hg : s_Gd y cc ws own ret fr lo nL') {pc : Nat} {L stk : List Value} {σ : sSt} (hd : decode cc pc = .ok (.aaload, 1)) {b n : Nat} {f : Nat → Option Nat} {i : Int32} (hb0 : σ.1[b]? = some (.inr (.inr (n, f)))) (hi : vp_in i n) (kk : s_AW y (pc + 1) L (va_rf (f i.toNatClampNeg) :: stk) σ) : s_AW y pc L (.int i :: .ref b :: stk) σ := by
  obtain ⟨p, l, e, R, s, m, args, below, meth, c, G, nL, σ0, vE, σE⟩ := y
  obtain ⟨hx, hb, hml, hown, hts, ⟨hK, hNw⟩, hlk, hr, hR, hnL⟩ := hg
  intro H locs ls h
  refine va_aldq hx hb hK (s_one h.1 hb0) 0 1 rfl rfl hi hd ?_
  have e : va_rf ((f i.toNatClampNeg).map (G.1 + ·)) = s_cv G.1 (va_rf (f i.toNatClampNeg)) := by cases f i.toNatClampNeg <;> rfl
  rw [e]
  exact kk H locs ls h
theorem a_ilen {y : sCy} {cc : ByteArray} {ws : List Cond} {own : String} {ret : Option FieldType} {fr lo nL' : Nat} (hg : s_Gd y cc ws own ret fr lo nL') {pc : Nat} {L stk : List Value} {σ : sSt} (hd : decode cc pc = .ok (.arraylength, 1)) {b n : Nat} {f : Nat → Int32} (hb0 : σ.1[b]? = some (.inr (.inl (n, f)))) (kk : s_AW y (pc + 1) L (.int (Int32.ofNat n) :: stk) σ) : s_AW y pc L (.ref b :: stk) σ := by
  obtain ⟨p, l, e, R, s, m, args, below, meth, c, G, nL, σ0, vE, σE⟩ := y
  obtain ⟨hx, hb, hml, hown, hts, ⟨hK, hNw⟩, hlk, hr, hR, hnL⟩ := hg
  intro H locs ls h
  exact va_alen hx hb hK (s_one h.1 hb0) 0 0 rfl rfl rfl hd (kk H locs ls h)
theorem a_rlen {y : sCy} {cc : ByteArray} {ws : List Cond} {own : String} {ret : Option FieldType} {fr lo nL' : Nat} (hg : s_Gd y cc ws own ret fr lo nL') {pc : Nat} {L stk : List Value} {σ : sSt} (hd : decode cc pc = .ok (.arraylength, 1)) {b n : Nat} {f : Nat → Option Nat} (hb0 : σ.1[b]? = some (.inr (.inr (n, f)))) (kk : s_AW y (pc + 1) L (.int (Int32.ofNat n) :: stk) σ) : s_AW y pc L (.ref b :: stk) σ := by
  obtain ⟨p, l, e, R, s, m, args, below, meth, c, G, nL, σ0, vE, σE⟩ := y
  obtain ⟨hx, hb, hml, hown, hts, ⟨hK, hNw⟩, hlk, hr, hR, hnL⟩ := hg
  intro H locs ls h
  exact va_alen hx hb hK (s_one h.1 hb0) 0 1 rfl rfl rfl hd (kk H locs ls h)
theorem a_put {y : sCy} {cc : ByteArray} {ws : List Cond} {own : String} {ret : Option FieldType} {fr lo nL' : Nat} (hg : s_Gd y cc ws own ret fr lo nL') {pc : Nat} {L stk : List Value} {σ : sSt} {ci N k index : Nat} {C : String} {T : u_T} (hC : s_Cl y ws ci C T N) (ty0 : Nat → FieldType) (hty : ∀ k, k < N → parseFieldDescriptor (T k).2.2.1 = some (ty0 k)) (hnm : ∀ a, a < N → ∀ b, b < N → a ≠ b → (T a).2.1 ≠ (T b).2.1) (hk : k < N) (hl : Cond.fieldLink own index C (T k).2.1 (T k).2.2.1 ∈ ws) (hT : (T k).1 = C) (hfin : (T k).2.2.2 = false) {v : Value} (hn : ∀ b, narrow (ty0 k) (s_cv b v) = s_cv b v) (hfit : ∀ b, fits (ty0 k) (s_cv b v) = true) (hd : decode cc pc = .ok (.putfield index, 3)) {b : Nat} {fs : List Value} (hb0 : σ.1[b]? = some (.inl (ci, fs))) (hlen : k < fs.length) (kk : s_AW y (pc + 3) L stk (σ.1.set b (.inl (ci, fs.set k v)), σ.2)) : s_AW y pc L (v :: .ref b :: stk) σ := by
  obtain ⟨p, l, e, R, s, m, args, below, meth, c, G, nL, σ0, vE, σE⟩ := y
  obtain ⟨hx, hb, hml, hown, hts, ⟨hK, hNw⟩, hlk, hr, hR, hnL⟩ := hg
  intro H locs ls h
  have hap := va_apart (own := own) hts hC.2 ty0 hty hnm hK hC.1
  obtain ⟨r, h1, cell, q1, q2, q3, q4⟩ := h.1.2 b _ hb0
  have hr2 : r = (C, T, N) := Option.some.inj (h1.symm.trans hC.1)
  subst hr2
  obtain ⟨hSl, hfc, kC, hkC, hkind⟩ := hK.1 ci _ hC.1
  obtain ⟨cf, kf, fi, f, hi, hsl⟩ := hSl k hk
  have hlay := hts _ (hC.2 _ (u_in_lay hk))
  unfold u_lay at hlay
  rw [if_neg (by rw [hfin]; decide)] at hlay
  have hst := (u_facts hfc hkC (u_lays hts hC.2 hk) hi).1
  have h6 := u_store hfc hkC hkind hlay hi (hty k hk) (hn G.1) (hfit G.1)
  have hT2 : s.fieldFound? C (T k).2.1 (T k).2.2.1 = some (cf, kf, fi, f) := by rw [← hT]; exact hi
  have hlen2 : (σ.1.set b (.inl (ci, fs.set k v))).length = σ.1.length := List.length_set
  refine W.putK hx hb (f := f) (ref := C) ⟨hown, hts _ hl, ⟨_, _, _, hT2⟩, hst⟩ (by rw [q2]; exact h6) q1 q3 (by rw [hsl]; exact k2_hasslot (q4 k hk)) rfl rfl hd fun H' e1 e2 e3 => ?_
  rw [hsl] at e1 ⊢
  have hlt : b < σ.1.length := (List.getElem?_eq_some_iff.mp hb0).1
  have kk := kk H' (locs ++ [⟨G.1 + b, G.2.2.1.2 ci k⟩]) ls ⟨?_, h.2.1.put e2 e3 (Nat.le_add_right _ _), h.2.2.1, ⟨by rw [hlen2]; exact h.2.2.2.1, h.2.2.2.2⟩⟩
  · rw [hlen2] at kk
    exact kk
  refine h.1.put hlt ⟨_, hC.1, ?_⟩ e2 e3
  have hm : (fs.set k v).map (s_cv G.1) = (fs.map (s_cv G.1)).set k (s_cv G.1 v) := List.map_set
  show t_OB (G.1 + b) _ _ _ _ (vp_V ((fs.set k v).map (s_cv G.1)))
  rw [hm]
  exact t_OB.to (V := updV (vp_V (fs.map (s_cv G.1))) k (s_cv G.1 v)) ⟨_, e1, q2, q3, t_set q4 hap hk _⟩ (fun j _ => vp_updV_set (by simpa using hlen) _ j)
theorem a_putF {y : sCy} {cc : ByteArray} {ws : List Cond} {own : String} {ret : Option FieldType} {fr lo nL' : Nat} (hg : s_Gd y cc ws own ret fr lo nL') {pc : Nat} {L stk : List Value} {σ : sSt} {ci N k index : Nat} {C : String} {T : u_T} (hC : s_Cl y ws ci C T N) (ty0 : Nat → FieldType) (hty : ∀ k, k < N → parseFieldDescriptor (T k).2.2.1 = some (ty0 k)) (hnm : ∀ a, a < N → ∀ b, b < N → a ≠ b → (T a).2.1 ≠ (T b).2.1) (hk : k < N) (hl : Cond.fieldLink own index C (T k).2.1 (T k).2.2.1 ∈ ws) (hT : (T k).1 = C) (hfin : (T k).2.2.2 = true) (hini : s_ini y) (hdecl : (T k).1 = own) {v : Value} (hn : ∀ b, narrow (ty0 k) (s_cv b v) = s_cv b v) (hfit : ∀ b, fits (ty0 k) (s_cv b v) = true) (hd : decode cc pc = .ok (.putfield index, 3)) {b : Nat} {fs : List Value} (hb0 : σ.1[b]? = some (.inl (ci, fs))) (hlen : k < fs.length) (kk : s_AW y (pc + 3) L stk (σ.1.set b (.inl (ci, fs.set k v)), σ.2)) : s_AW y pc L (v :: .ref b :: stk) σ := by
  obtain ⟨p, l, e, R, s, m, args, below, meth, c, G, nL, σ0, vE, σE⟩ := y
  obtain ⟨hx, hb, hml, hown, hts, ⟨hK, hNw⟩, hlk, hr, hR, hnL⟩ := hg
  intro H locs ls h
  have hap := va_apart (own := own) hts hC.2 ty0 hty hnm hK hC.1
  obtain ⟨r, h1, cell, q1, q2, q3, q4⟩ := h.1.2 b _ hb0
  have hr2 : r = (C, T, N) := Option.some.inj (h1.symm.trans hC.1)
  subst hr2
  obtain ⟨hSl, hfc, kC, hkC, hkind⟩ := hK.1 ci _ hC.1
  obtain ⟨cf, kf, fi, f, hi, hsl⟩ := hSl k hk
  have hlay := hts _ (hC.2 _ (u_in_lay hk))
  unfold u_lay at hlay
  rw [if_pos hfin] at hlay
  have hst := (u_facts hfc hkC (u_lays hts hC.2 hk) hi).1
  have hcf : m.cls = cf := by
    obtain ⟨_, _, c', _, _, _, -, -, hf', -, -, -, hown2, -⟩ := Cond.laysFinal_spec hlay
    have e1 : c' = cf := by have := hi.symm.trans hf'; simp at this; exact this.1.symm
    rw [hdecl] at hown2
    rw [← e1]; exact Option.some.inj (hown.symm.trans hown2)
  have h6 := u_fits hfc hkC hkind (Or.inr hlay) hi (hty k hk) (hn G.1) (hfit G.1)
  have hT2 : s.fieldFound? C (T k).2.1 (T k).2.2.1 = some (cf, kf, fi, f) := by rw [← hT]; exact hi
  have hini2 : meth.name = "<init>" := hini
  have hlen2 : (σ.1.set b (.inl (ci, fs.set k v))).length = σ.1.length := List.length_set
  refine W.putFinK hx hb (ref := C) hown (hts _ hl) hT2 hst hcf hini2 (by rw [q2]; exact h6) q1 q3 (by rw [hsl]; exact k2_hasslot (q4 k hk)) rfl rfl hd fun H' e1 e2 e3 => ?_
  rw [hsl] at e1 ⊢
  have hlt : b < σ.1.length := (List.getElem?_eq_some_iff.mp hb0).1
  have kk := kk H' (locs ++ [⟨G.1 + b, G.2.2.1.2 ci k⟩]) ls ⟨?_, h.2.1.put e2 e3 (Nat.le_add_right _ _), h.2.2.1, ⟨by rw [hlen2]; exact h.2.2.2.1, h.2.2.2.2⟩⟩
  · rw [hlen2] at kk
    exact kk
  refine h.1.put hlt ⟨_, hC.1, ?_⟩ e2 e3
  have hm : (fs.set k v).map (s_cv G.1) = (fs.map (s_cv G.1)).set k (s_cv G.1 v) := List.map_set
  show t_OB (G.1 + b) _ _ _ _ (vp_V ((fs.set k v).map (s_cv G.1)))
  rw [hm]
  exact t_OB.to (V := updV (vp_V (fs.map (s_cv G.1))) k (s_cv G.1 v)) ⟨_, e1, q2, q3, t_set q4 hap hk _⟩ (fun j _ => vp_updV_set (by simpa using hlen) _ j)
theorem a_iast {y : sCy} {cc : ByteArray} {ws : List Cond} {own : String} {ret : Option FieldType} {fr lo nL' : Nat} (hg : s_Gd y cc ws own ret fr lo nL') {pc : Nat} {L stk : List Value} {σ : sSt} (hd : decode cc pc = .ok (.iastore, 1)) {b n : Nat} {f : Nat → Int32} {i x : Int32} (hb0 : σ.1[b]? = some (.inr (.inl (n, f)))) (hi : vp_in i n) (kk : s_AW y (pc + 1) L stk (σ.1.set b (.inr (.inl (n, upd f i.toNatClampNeg x))), σ.2)) : s_AW y pc L (.int x :: .int i :: .ref b :: stk) σ := by
  obtain ⟨p, l, e, R, s, m, args, below, meth, c, G, nL, σ0, vE, σE⟩ := y
  obtain ⟨hx, hb, hml, hown, hts, ⟨hK, hNw⟩, hlk, hr, hR, hnL⟩ := hg
  intro H locs ls h
  have hcell := h.1.2 b _ hb0
  have hlt : b < σ.1.length := (List.getElem?_eq_some_iff.mp hb0).1
  refine W.iast hx hb hcell ((hK.2 0 _ rfl).1 n (fun j => .int (f j))) (fun q => by cases q) (by show ¬ (i < 0 ∨ (arrV _ _ _).slots.size ≤ _); rw [arrV_size]; exact hi) rfl rfl hd fun H1 e z oq => ?_
  have hlen2 : (σ.1.set b (.inr (.inl (n, upd f i.toNatClampNeg x)))).length = σ.1.length := List.length_set
  have kk := kk H1 (locs ++ [⟨G.1 + b, i.toNatClampNeg⟩]) ls ⟨h.1.put hlt ?_ z oq, h.2.1.put z oq (Nat.le_add_right _ _), h.2.2.1, ⟨by rw [hlen2]; exact h.2.2.2.1, h.2.2.2.2⟩⟩
  · rw [hlen2] at kk
    exact kk
  show H1[G.1 + b]? = some (vp_cell _ _)
  rw [e]
  show some ((vp_cell G.2.1.1 (n, .inl f)).setSlot _ _) = some (vp_cell G.2.1.1 (n, .inl (upd f i.toNatClampNeg x)))
  rw [vp_cell_i, vp_cell_i, arrV_store]
  congr 2
  funext q
  by_cases hq : q = i.toNatClampNeg
  · subst hq
    simp [updV, upd]
  · simp [updV, upd, hq]
theorem a_aast {y : sCy} {cc : ByteArray} {ws : List Cond} {own : String} {ret : Option FieldType} {fr lo nL' : Nat} (hg : s_Gd y cc ws own ret fr lo nL') {pc : Nat} {L stk : List Value} {σ : sSt} {ci cN : Nat} {cT : u_T} (hc : (s_cl y)[ci]? = some (s_comp y, cT, cN)) (hd : decode cc pc = .ok (.aastore, 1)) {b n v : Nat} {vs : List Value} {f : Nat → Option Nat} {i : Int32} (hb0 : σ.1[b]? = some (.inr (.inr (n, f)))) (hv0 : σ.1[v]? = some (.inl (ci, vs))) (hi : vp_in i n) (kk : s_AW y (pc + 1) L stk (σ.1.set b (.inr (.inr (n, va_up f i.toNatClampNeg (some v)))), σ.2)) : s_AW y pc L (.ref v :: .int i :: .ref b :: stk) σ := by
  obtain ⟨p, l, e, R, s, m, args, below, meth, c, G, nL, σ0, vE, σE⟩ := y
  obtain ⟨hx, hb, hml, hown, hts, ⟨hK, hNw⟩, hlk, hr, hR, hnL⟩ := hg
  intro H locs ls h
  have hlt : b < σ.1.length := (List.getElem?_eq_some_iff.mp hb0).1
  have hin : i.toNatClampNeg < n := Nat.not_le.mp fun q => hi (Or.inr q)
  have h0 : ¬ i < 0 := fun q => hi (Or.inl q)
  obtain ⟨r', hr', cellV, g1, g2, g3, -⟩ := h.1.2 v _ hv0
  have hcls := (hK.1 ci _ hc).2
  obtain ⟨kA, comp, k1, k2, k3, -⟩ := (hK.2 1 _ rfl).2
  have hcomp : comp = G.2.2.1.1 ci := Option.some.inj (k3.symm.trans hcls.1)
  subst hcomp
  obtain ⟨kC, hkC, -⟩ := hcls.2
  have hcell := h.1.2 b _ hb0
  refine W.aast hx hb hcell (fun q h => by cases h) (fun h => by cases h) k1 k2 rfl hkC ⟨h0, by show _ < (arrV _ _ _).slots.size; rw [arrV_size]; exact hin⟩ g1 (fun q h => by rw [g3] at h; cases h) (by rw [g2]; exact hkC) (by rw [g2]; exact va_assign hcls) rfl rfl hd fun H1 e z oq => ?_
  have hlen2 : (σ.1.set b (.inr (.inr (n, va_up f i.toNatClampNeg (some v))))).length = σ.1.length := List.length_set
  have kk := kk H1 (locs ++ [⟨G.1 + b, i.toNatClampNeg⟩]) ls ⟨h.1.put hlt ?_ z oq, h.2.1.put z oq (Nat.le_add_right _ _), h.2.2.1, ⟨by rw [hlen2]; exact h.2.2.2.1, h.2.2.2.2⟩⟩
  · rw [hlen2] at kk
    exact kk
  show H1[G.1 + b]? = some (vp_cell _ _)
  rw [e]
  show some ((vp_cell G.2.1.2 (n, .inr (.inr (.inr (.inr (fun k => (f k).map (G.1 + ·))))))).setSlot _ _) = some (vp_cell G.2.1.2 (n, .inr (.inr (.inr (.inr (fun k => (va_up f i.toNatClampNeg (some v) k).map (G.1 + ·)))))))
  rw [vp_cell_q, vp_cell_q, arrV_store]
  congr 2
  funext q
  by_cases hq : q = i.toNatClampNeg
  · subst hq
    simp [updV, va_up, va_rf, s_cv]
  · simp [updV, va_up, hq]
/-- there is room for what comes -/
theorem s_fit {σ0 σ σE : sSt} {k n : Nat} (h0 : s_le σ0 σ) (hE : σ.1.length + k ≤ σE.1.length ∧ σ.2 + n ≤ σE.2) : σ.1.length - σ0.1.length + k ≤ σE.1.length - σ0.1.length ∧ σ.2 - σ0.2 + n ≤ σE.2 - σ0.2 := by
  obtain ⟨h1, h2⟩ := h0
  obtain ⟨h3, h4⟩ := hE
  omega
theorem a_newa {y : sCy} {cc : ByteArray} {ws : List Cond} {own : String} {ret : Option FieldType} {fr lo nL' : Nat} (hg : s_Gd y cc ws own ret fr lo nL') {pc : Nat} {L stk : List Value} {σ : sSt} (harr : Cond.arrayClass .int ∈ ws) (hd : decode cc pc = .ok (.newarray .int, 2)) {n : Int32} {N : Nat} (hn : ¬ n < 0) (hN : n.toNatClampNeg = N) (hbytes : N ≤ 100000) (hE : s_le (σ.1 ++ [.inr (.inl (N, fun _ => 0))], σ.2 + N) (s_sE y)) (kk : s_AW y (pc + 2) L (.ref σ.1.length :: stk) (σ.1 ++ [.inr (.inl (N, fun _ => 0))], σ.2 + N)) : s_AW y pc L (.int n :: stk) σ := by
  obtain ⟨p, l, e, R, s, m, args, below, meth, c, G, nL, σ0, vE, σE⟩ := y
  obtain ⟨hx, hb, hml, hown, hts, ⟨hK, hNw⟩, hlk, hr, hR, hnL⟩ := hg
  intro H locs ls h
  have hE2 : s_le _ σE := hE
  have hf := s_fit (k := 1) (n := N) h.2.2.2 ⟨by have := hE2.1; simpa using this, hE2.2⟩
  subst hR
  refine va_newaK (atype := .int) hx hb (hts _ harr) rfl hd rfl hn hN (by show N * 4 ≤ _; omega) hf.1 hf.2 rfl fun H1 cA e1 z1 o1 hAr hNm => ?_
  have hcA : cA = G.2.1.1 := by
    have := (hK.2 0 _ rfl).2
    exact Option.some.inj (hNm.symm.trans this)
  subst hcA
  have kk := kk H1 locs ls ⟨h.1.push (n := N) ?_ z1 o1, ?_, h.2.2.1, ?_⟩
  · simp only [List.length_append, List.length_singleton] at kk
    rw [show σ.1.length + 1 - σ0.1.length = σ.1.length - σ0.1.length + 1 by have := h.2.2.2.1; omega, show σ.2 + N - σ0.2 = σ.2 - σ0.2 + N by have := h.2.2.2.2; omega] at kk
    have hz : H.size = G.1 + σ.1.length := h.1.1
    rw [hz]
    exact kk
  · show H1[H.size]? = some (vp_cell _ _)
    rw [e1]
    rfl
  · exact ⟨Nat.le_trans h.2.1.1 (by omega), fun x h1 h2 => (o1 x (Nat.lt_of_lt_of_le h1 h.2.1.1)).trans (h.2.1.2.1 x h1 h2), h.2.1.2.2⟩
  · exact s_le.tr h.2.2.2 ⟨by simp, by simp⟩
theorem a_newq {y : sCy} {cc : ByteArray} {ws : List Cond} {own : String} {ret : Option FieldType} {fr lo nL' : Nat} (hg : s_Gd y cc ws own ret fr lo nL') {pc : Nat} {L stk : List Value} {σ : sSt} {index : Nat} {C : String} (hcl : Cond.classLink own index C ∈ ws) (hover : Cond.arrayOver (.object C) ∈ s_nest) (hC : s_comp y = C) (hd : decode cc pc = .ok (.anewarray index, 3)) {n : Int32} {N : Nat} (hn : ¬ n < 0) (hN : n.toNatClampNeg = N) (hbytes : N ≤ 100000) (hE : s_le (σ.1 ++ [.inr (.inr (N, fun _ => none))], σ.2 + N) (s_sE y)) (kk : s_AW y (pc + 3) L (.ref σ.1.length :: stk) (σ.1 ++ [.inr (.inr (N, fun _ => none))], σ.2 + N)) : s_AW y pc L (.int n :: stk) σ := by
  obtain ⟨p, l, e, R, s, m, args, below, meth, c, G, nL, σ0, vE, σE⟩ := y
  obtain ⟨hx, hb, hml, hown, hts, ⟨hK, hNw⟩, hlk, hr, hR, hnL⟩ := hg
  intro H locs ls h
  have hE2 : s_le _ σE := hE
  have hf := s_fit (k := 1) (n := N) h.2.2.2 ⟨by have := hE2.1; simpa using this, hE2.2⟩
  subst hR hN
  refine W.anew hx hb hown (hts _ hcl) (va_AO.use (hNw _ hover)) rfl hd rfl hn (by omega) hf.1 hf.2 fun cA kA comp f1 f2 f3 f4 => ?_
  generalize hH1 : H.push ({ cls := cA, slots := Array.replicate n.toNatClampNeg .null, vm := .none } : Cell) = H1
  have z1 : H1.size = H.size + 1 := by rw [← hH1, Array.size_push]
  have e1 : H1[H.size]? = some (arrV cA n.toNatClampNeg (fun _ => .null)) := by rw [← hH1, Array.getElem?_push_size, ← arrV_new]
  have o1 : ∀ q : Nat, q < H.size → H1[q]? = H[q]? := fun q hq => by rw [← hH1, Array.getElem?_push, if_neg (Nat.ne_of_lt hq)]
  have hcA : cA = G.2.1.2 := by
    obtain ⟨kA', comp', g1, g2, g3, g4⟩ := (hK.2 1 _ rfl).2
    have hC' : G.2.2.2.2 = C := hC
    rw [hC'] at g4
    exact Option.some.inj (f1.symm.trans g4)
  subst hcA
  have kk := kk H1 locs ls ⟨h.1.push (n := n.toNatClampNeg) ?_ z1 o1, ?_, h.2.2.1, ?_⟩
  · simp only [List.length_append, List.length_singleton] at kk
    rw [show σ.1.length + 1 - σ0.1.length = σ.1.length - σ0.1.length + 1 by have := h.2.2.2.1; omega, show σ.2 + n.toNatClampNeg - σ0.2 = σ.2 - σ0.2 + n.toNatClampNeg by have := h.2.2.2.2; omega] at kk
    have hz : H.size = G.1 + σ.1.length := h.1.1
    rw [hz]
    exact kk
  · show H1[H.size]? = some (vp_cell _ _)
    rw [e1]
    rfl
  · exact ⟨Nat.le_trans h.2.1.1 (by omega), fun x h1 h2 => (o1 x (Nat.lt_of_lt_of_le h1 h.2.1.1)).trans (h.2.1.2.1 x h1 h2), h.2.1.2.2⟩
  · exact s_le.tr h.2.2.2 ⟨by simp, by simp⟩
theorem a_new {y : sCy} {cc : ByteArray} {ws : List Cond} {own : String} {ret : Option FieldType} {fr lo nL' : Nat} (hg : s_Gd y cc ws own ret fr lo nL') {pc : Nat} {L stk : List Value} {σ : sSt} {ci N index : Nat} {C : String} {T : u_T} (hC : s_Cl y ws ci C T N) (ty0 : Nat → FieldType) (hty : ∀ k, k < N → parseFieldDescriptor (T k).2.2.1 = some (ty0 k)) (hcl : Cond.classLink own index C ∈ ws) (hins : Cond.instantiable C N ∈ ws) (hini : Cond.initialized C ∈ ws) (hd : decode cc pc = .ok (.new index, 3)) {fs : List Value} (hfs : ∀ j, j < N → ∀ b, defaultValue (ty0 j) = vp_V (fs.map (s_cv b)) j) (hE : s_le (σ.1 ++ [.inl (ci, fs)], σ.2 + N) (s_sE y)) (kk : s_AW y (pc + 3) L (.ref σ.1.length :: stk) (σ.1 ++ [.inl (ci, fs)], σ.2 + N)) : s_AW y pc L stk σ := by
  obtain ⟨p, l, e, R, s, m, args, below, meth, c, G, nL, σ0, vE, σE⟩ := y
  obtain ⟨hx, hb, hml, hown, hts, ⟨hK, hNw⟩, hlk, hr, hR, hnL⟩ := hg
  intro H locs ls h
  have hE2 : s_le _ σE := hE
  have hf := s_fit (k := 1) (n := N) h.2.2.2 ⟨by have := hE2.1; simpa using this, hE2.2⟩
  subst hR
  have hKn := hK.1 ci _ hC.1
  refine W.newcK hx hb hown (hts _ hcl) (hts _ hins) (hts _ hini) rfl hd hf.1 hf.2 hKn.2.1 rfl fun H1 kC hkC e1 z1 o1 => ?_
  have kk := kk H1 locs ls ⟨h.1.push (n := N) ?_ z1 o1, ?_, h.2.2.1, ?_⟩
  · simp only [List.length_append, List.length_singleton] at kk
    rw [show σ.1.length + 1 - σ0.1.length = σ.1.length - σ0.1.length + 1 by have := h.2.2.2.1; omega, show σ.2 + N - σ0.2 = σ.2 - σ0.2 + N by have := h.2.2.2.2; omega] at kk
    have hz : H.size = G.1 + σ.1.length := h.1.1
    rw [hz]
    exact kk
  · exact ⟨_, hC.1, (u_born ty0 hts hC.2 hKn hkC e1 hty).to (fun j hj => hfs j hj G.1)⟩
  · exact ⟨Nat.le_trans h.2.1.1 (by omega), fun x h1 h2 => (o1 x (Nat.lt_of_lt_of_le h1 h.2.1.1)).trans (h.2.1.2.1 x h1 h2), h.2.1.2.2⟩
  · exact s_le.tr h.2.2.2 ⟨by simp, by simp⟩
theorem a_objInit {y : sCy} {cc : ByteArray} {ws : List Cond} {own : String} {ret : Option FieldType} {fr lo nL' : Nat} (hg : s_Gd y cc ws own ret fr lo nL') {pc : Nat} {L stk : List Value} {σ : sSt} {index : Nat} (hl : Cond.methodLink own index objectInit ∈ ws) (hi : Cond.instanceMethod objectInit ∈ ws) (hc : Cond.code objectInit ⟨#[0xb1]⟩ 1 none ∈ ws) (hd : decode cc pc = .ok (.invokespecial index, 3)) (hR2 : 1 ≤ fr ∧ 20 ≤ lo) {b : Nat} (hw : (stk.map Value.category).sum ≤ 8) (kk : s_AW y (pc + 3) L stk σ) : s_AW y pc L (.ref b :: stk) σ := by
  obtain ⟨p, l, e, R, s, m, args, below, meth, c, G, nL, σ0, vE, σE⟩ := y
  obtain ⟨hx, hb, hml, hown, hts, ⟨hK, hNw⟩, hlk, hr, hR, hnL⟩ := hg
  intro H locs ls h
  subst hR
  refine W.objInit hx hb hown (hts _ hl) (hts _ hi) (hts _ hc) rfl (by rw [hml]; exact h.2.2.1.size) rfl hd ?_ ?_ (kk H locs ls h)
  · exact hR2.1
  · show 2 * 0 + ((stk.map (s_cv G.1)).map fun v => v.category).sum + 12 ≤ lo
    have e : ((stk.map (s_cv G.1)).map fun v => v.category) = stk.map Value.category := by rw [List.map_map]; exact List.map_congr_left (fun v _ => s_cv_cat _ v)
    rw [e]
    omega
