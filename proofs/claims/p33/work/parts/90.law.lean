/-! the law's frame (own work): the script lies below the base, so the law is walked over the kit's rows -/
abbrev lCy : Type := Program × Launch × Jvm.Env × State × MethodId × List Frame × Method × Code × Nat × Nat × (Nat → Int32) × sGeo
def lG (y : lCy) : sGeo := y.2.2.2.2.2.2.2.2.2.2.2
def lX (y : lCy) : Nat → Int32 := y.2.2.2.2.2.2.2.2.2.2.1
def lL (y : lCy) : Nat := y.2.2.2.2.2.2.2.2.2.1
def lB (y : lCy) : Nat := y.2.2.2.2.2.2.2.2.1
def lOk (y : lCy) : Prop := match y with
  | (p, l, e, s, m, below, meth, c, b, L, xs, G) => p.tables.exec = Jvm.exec ∧ c.code = cL_law ∧ meth.sig.returnType = ret ∧ c.maxLocals = 9 ∧ s.vm.findClass RL = some m.cls ∧ (∀ w ∈ wsL_law, w.before #[Value.ref b] s = true) ∧ va_X b L xs s s.heap ∧ b < s.heap.size ∧ meth.locks = false ∧ s_Kn G s ∧ G.1 = s.heap.size ∧ G.2.2.2.1 = vwCl ∧ G.2.2.2.2 = RX6 ∧ L ≤ 260
def lA (y : lCy) (pc : Nat) (lv : List (Nat × Value)) (st : List Value) (σ : sSt) : Prop := match y with
  | (p, l, e, s, m, below, meth, c, b, L, xs, G) => ∀ (H : Heap) (locs : List Loc) (ls : Array Slot), s_Rel G σ H → va_S (fun q => G.1 ≤ q) s.heap H locs → lv_has ls 9 lv → W p l e room_1 s m #[Value.ref b] below meth c H locs σ.1.length σ.2 (lw_Z below #[Value.ref b] s) (F0 m pc ls st)
/-- the law's locals at the loop's head -/
def lV (y : lCy) (i : Nat) : List (Nat × Value) := [(7, .int (nI i)), (6, .ref ((lG y).1 + 64)), (5, .ref ((lG y).1 + 63)), (4, .ref ((lG y).1 + 62)), (3, .ref ((lG y).1 + 61)), (2, .ref ((lG y).1 + 60)), (1, .ref ((lG y).1 + 0)), (0, .ref (lB y))]
theorem WV.room {σ : sSt} {M : tM} {V : tV} {g : Nat} (h : WV σ M V) (hg : M 5 0 = nI g) (hg2 : g ≤ 60) : σ.1.length ≤ 600000 ∧ σ.2 ≤ 7302250 := by
  obtain ⟨P, C, T, fi, er, nu, po, w, -⟩ := h
  have hc : ∀ k, k < 8 → C k ≤ 1229 := fun k hk => (w.1.2.1 k hk).len.2.2
  have hG : ∀ c, c ≤ 1229 → Gam c ≤ 3687 := by
    intro c hc
    unfold Gam
    split <;> omega
  have s1 := sumN_le (f := C) (c := 1229) 8 hc
  have s2 := sumN_le (f := fun k => Gam (C k)) (c := 3687) 8 (fun k hk => hG _ (hc k hk))
  have a := w.1.2.2.2.2.1
  have b := w.1.2.2.2.2.2
  rw [hg, nN_n (by omega)] at a b
  exact ⟨by omega, by omega⟩
section
variable {y : lCy} {lv lv' : List (Nat × Value)} {st : List Value} {σ : sSt} {pc : Nat}
theorem l_aln (hy : lOk y) {n : Fin 4} {j k x : Nat} (h0 : decode cL_law pc = .ok (.aload_n n, 1)) (hn : (n : Nat) = j) (hk : lv[k]? = some (j, .ref x)) (K : lA y (pc + 1) lv (.ref x :: st) σ) : lA y pc lv st σ := by
  obtain ⟨p, l, e, s, m, below, meth, c, b, L, xs, G⟩ := y
  obtain ⟨hx, hb, -⟩ := hy
  intro H locs ls hrel hS hl
  exact lv_aload_n hx hb h0 hn (lv_at hl k hk) (K H locs ls hrel hS hl)
theorem l_al (hy : lOk y) {j k x : Nat} (h0 : decode cL_law pc = .ok (.aload j, 2)) (hk : lv[k]? = some (j, .ref x)) (K : lA y (pc + 2) lv (.ref x :: st) σ) : lA y pc lv st σ := by
  obtain ⟨p, l, e, s, m, below, meth, c, b, L, xs, G⟩ := y
  obtain ⟨hx, hb, -⟩ := hy
  intro H locs ls hrel hS hl
  exact lv_aload hx hb h0 (lv_at hl k hk) (K H locs ls hrel hS hl)
theorem l_il (hy : lOk y) {j k : Nat} {x : Int32} (h0 : decode cL_law pc = .ok (.iload j, 2)) (hk : lv[k]? = some (j, .int x)) (K : lA y (pc + 2) lv (.int x :: st) σ) : lA y pc lv st σ := by
  obtain ⟨p, l, e, s, m, below, meth, c, b, L, xs, G⟩ := y
  obtain ⟨hx, hb, -⟩ := hy
  intro H locs ls hrel hS hl
  exact lv_iload hx hb h0 (lv_at hl k hk) (K H locs ls hrel hS hl)
theorem l_bi (hy : lOk y) {n : Int} {v : Int32} (h0 : decode cL_law pc = .ok (.bipush n, 2)) (hv : (Int8.ofInt n).toInt32 = v) (K : lA y (pc + 2) lv (.int v :: st) σ) : lA y pc lv st σ := by
  obtain ⟨p, l, e, s, m, below, meth, c, b, L, xs, G⟩ := y
  obtain ⟨hx, hb, -⟩ := hy
  intro H locs ls hrel hS hl
  exact lv_bipush hx hb h0 hv (K H locs ls hrel hS hl)
theorem l_ic (hy : lOk y) {n : Int} {v : Int32} (h0 : decode cL_law pc = .ok (.iconst n, 1)) (hv : Int32.ofInt n = v) (K : lA y (pc + 1) lv (.int v :: st) σ) : lA y pc lv st σ := by
  obtain ⟨p, l, e, s, m, below, meth, c, b, L, xs, G⟩ := y
  obtain ⟨hx, hb, -⟩ := hy
  intro H locs ls hrel hS hl
  exact lv_iconst hx hb h0 hv (K H locs ls hrel hS hl)
theorem l_rem (hy : lOk y) {a d : Nat} (ha : a < 2 ^ 31) (hd0 : 0 < d) (hd : d < 2 ^ 31) (h0 : decode cL_law pc = .ok (.irem, 1)) (K : lA y (pc + 1) lv (.int (nI (a % d)) :: st) σ) : lA y pc lv (.int (nI d) :: .int (nI a) :: st) σ := by
  obtain ⟨p, l, e, s, m, below, meth, c, b, L, xs, G⟩ := y
  obtain ⟨hx, hb, -⟩ := hy
  intro H locs ls hrel hS hl
  refine lv_irem hx hb h0 (nI_ne0 hd0 hd) ?_
  rw [pk_rem ha hd0 hd]
  exact K H locs ls hrel hS hl
theorem l_div (hy : lOk y) {a d : Nat} (ha : a < 2 ^ 31) (hd0 : 0 < d) (hd : d < 2 ^ 31) (h0 : decode cL_law pc = .ok (.idiv, 1)) (K : lA y (pc + 1) lv (.int (nI (a / d)) :: st) σ) : lA y pc lv (.int (nI d) :: .int (nI a) :: st) σ := by
  obtain ⟨p, l, e, s, m, below, meth, c, b, L, xs, G⟩ := y
  obtain ⟨hx, hb, -⟩ := hy
  intro H locs ls hrel hS hl
  refine lv_idiv hx hb h0 (nI_ne0 hd0 hd) ?_
  rw [pk_div ha hd0 hd]
  exact K H locs ls hrel hS hl
theorem l_goto (hy : lOk y) {off : Int} {tgt : Nat} (h0 : decode cL_law pc = .ok (.goto off, 3)) (ht : (pc : Int) + off = (tgt : Int)) (K : lA y tgt lv st σ) : lA y pc lv st σ := by
  obtain ⟨p, l, e, s, m, below, meth, c, b, L, xs, G⟩ := y
  obtain ⟨hx, hb, -⟩ := hy
  intro H locs ls hrel hS hl
  exact lv_goto hx hb h0 ht (K H locs ls hrel hS hl)
/-- what was answered is 1: go on -/
theorem l_one (hy : lOk y) {off : Int} {tgt : Nat} (h0 : decode cL_law pc = .ok (.ifCond .eq off, 3)) (ht : (pc : Int) + off = (tgt : Int)) (K : lA y (pc + 3) lv st σ) : lA y pc lv (.int (nI 1) :: st) σ := by
  obtain ⟨p, l, e, s, m, below, meth, c, b, L, xs, G⟩ := y
  obtain ⟨hx, hb, -⟩ := hy
  intro H locs ls hrel hS hl
  exact lv_if_eq hx hb h0 ht (fun q => absurd q (by decide)) (fun _ => K H locs ls hrel hS hl)
theorem l_oneJ (hy : lOk y) {off : Int} {tgt : Nat} (h0 : decode cL_law pc = .ok (.ifCond .ne off, 3)) (ht : (pc : Int) + off = (tgt : Int)) (K : lA y tgt lv st σ) : lA y pc lv (.int (nI 1) :: st) σ := by
  obtain ⟨p, l, e, s, m, below, meth, c, b, L, xs, G⟩ := y
  obtain ⟨hx, hb, -⟩ := hy
  intro H locs ls hrel hS hl
  exact lv_if_ne hx hb h0 ht (fun _ => K H locs ls hrel hS hl) (fun q => absurd q (by decide))
/-- is one number at or above another one -/
theorem l_ge (hy : lOk y) {a d : Nat} (ha : a < 2 ^ 31) (hd : d < 2 ^ 31) {off : Int} {tgt : Nat} (h0 : decode cL_law pc = .ok (.if_icmp .ge off, 3)) (ht : (pc : Int) + off = (tgt : Int)) (K1 : d ≤ a → lA y tgt lv st σ) (K2 : a < d → lA y (pc + 3) lv st σ) : lA y pc lv (.int (nI d) :: .int (nI a) :: st) σ := by
  obtain ⟨p, l, e, s, m, below, meth, c, b, L, xs, G⟩ := y
  obtain ⟨hx, hb, -⟩ := hy
  intro H locs ls hrel hS hl
  exact lv_icmp_ge hx hb h0 ht (fun q => K1 ((nI_leI hd ha).mp q) H locs ls hrel hS hl) (fun q => K2 (Nat.lt_of_not_le (fun z => q ((nI_leI hd ha).mpr z))) H locs ls hrel hS hl)
theorem l_ne (hy : lOk y) {a d : Nat} (ha : a < 2 ^ 31) (hd : d < 2 ^ 31) {off : Int} {tgt : Nat} (h0 : decode cL_law pc = .ok (.if_icmp .ne off, 3)) (ht : (pc : Int) + off = (tgt : Int)) (K1 : ¬ a = d → lA y tgt lv st σ) (K2 : a = d → lA y (pc + 3) lv st σ) : lA y pc lv (.int (nI d) :: .int (nI a) :: st) σ := by
  obtain ⟨p, l, e, s, m, below, meth, c, b, L, xs, G⟩ := y
  obtain ⟨hx, hb, -⟩ := hy
  intro H locs ls hrel hS hl
  exact lv_icmp_ne hx hb h0 ht (fun q => K1 (fun z => q ((nI_eq ha hd).mpr z)) H locs ls hrel hS hl) (fun q => K2 ((nI_eq ha hd).mp q) H locs ls hrel hS hl)
theorem l_ist (hy : lOk y) {j : Nat} {x : Int32} (h0 : decode cL_law pc = .ok (.istore j, 2)) (hj : j < 9) (he : (j, Value.int x) :: lv.filter (fun q => !(q.1 == j) && !(q.1 + 1 == j && q.2.category == 2)) = lv') (K : lA y (pc + 2) lv' st σ) : lA y pc lv (.int x :: st) σ := by
  obtain ⟨p, l, e, s, m, below, meth, c, b, L, xs, G⟩ := y
  obtain ⟨hx, hb, -⟩ := hy
  intro H locs ls hrel hS hl
  exact lv_istore hx hb h0 hl hj he (fun ls hl => K H locs ls hrel hS hl)
theorem l_astn (hy : lOk y) {a i : Nat} {j : Fin 4} (h0 : decode cL_law pc = .ok (.astore_n j, 1)) (hj : (j : Nat) = i) (hi : i < 9) (he : (i, Value.ref a) :: lv.filter (fun q => !(q.1 == i) && !(q.1 + 1 == i && q.2.category == 2)) = lv') (K : lA y (pc + 1) lv' st σ) : lA y pc lv (.ref a :: st) σ := by
  obtain ⟨p, l, e, s, m, below, meth, c, b, L, xs, G⟩ := y
  obtain ⟨hx, hb, -⟩ := hy
  intro H locs ls hrel hS hl
  exact lv_astore_n hx hb h0 hj hl hi he (fun ls hl => K H locs ls hrel hS hl)
theorem l_astj (hy : lOk y) {a i : Nat} (h0 : decode cL_law pc = .ok (.astore i, 2)) (hi : i < 9) (he : (i, Value.ref a) :: lv.filter (fun q => !(q.1 == i) && !(q.1 + 1 == i && q.2.category == 2)) = lv') (K : lA y (pc + 2) lv' st σ) : lA y pc lv (.ref a :: st) σ := by
  obtain ⟨p, l, e, s, m, below, meth, c, b, L, xs, G⟩ := y
  obtain ⟨hx, hb, -⟩ := hy
  intro H locs ls hrel hS hl
  exact lv_astore hx hb h0 hl hi he (fun ls hl => K H locs ls hrel hS hl)
theorem l_inc (hy : lOk y) {i k : Nat} {n : Int} {x v : Int32} (h0 : decode cL_law pc = .ok (.iinc i n, 3)) (hk : lv[k]? = some (i, .int x)) (hv : x + Int32.ofInt n = v) (hi : i < 9) (he : (i, Value.int v) :: lv.filter (fun q => !(q.1 == i) && !(q.1 + 1 == i && q.2.category == 2)) = lv') (K : lA y (pc + 3) lv' st σ) : lA y pc lv st σ := by
  obtain ⟨p, l, e, s, m, below, meth, c, b, L, xs, G⟩ := y
  obtain ⟨hx, hb, -⟩ := hy
  intro H locs ls hrel hS hl
  exact lv_iinc hx hb h0 hl hk hv hi he (fun ls hl => K H locs ls hrel hS hl)
theorem l_sub (is : List Nat) (he : lv_pick lv is = lv') (K : lA y pc lv' st σ) : lA y pc lv st σ := by
  obtain ⟨p, l, e, s, m, below, meth, c, b, L, xs, G⟩ := y
  intro H locs ls hrel hS hl
  exact K H locs ls hrel hS (lv_sub hl is he)
theorem l_dup (hy : lOk y) {a : Nat} (h0 : decode cL_law pc = .ok (.dup, 1)) (K : lA y (pc + 1) lv (.ref a :: .ref a :: st) σ) : lA y pc lv (.ref a :: st) σ := by
  obtain ⟨p, l, e, s, m, below, meth, c, b, L, xs, G⟩ := y
  obtain ⟨hx, hb, -⟩ := hy
  intro H locs ls hrel hS hl
  exact lv_dup hx hb h0 rfl (K H locs ls hrel hS hl)
/-- a row of the store is written -/
theorem l_iast0 (hy : lOk y) (hd : decode cL_law pc = .ok (.iastore, 1)) {b1 n : Nat} {f : Nat → Int32} {i x : Int32} (hb0 : σ.1[b1]? = some (.inr (.inl (n, f)))) (hi : vp_in i n) (K : lA y (pc + 1) lv st (σ.1.set b1 (.inr (.inl (n, upd f i.toNatClampNeg x))), σ.2)) : lA y pc lv (.int x :: .int i :: .ref ((lG y).1 + b1) :: st) σ := by
  obtain ⟨p, l, e, s, m, below, meth, c, b, L, xs, G⟩ := y
  obtain ⟨hx, hb, hr, hml, hown, hts, hX, hbl, hlocks, ⟨hK, hNw⟩, hG1, hcl, hcm, hL⟩ := hy
  intro H locs ls hrel hS hl
  have hcell := hrel.2 b1 _ hb0
  have hlt : b1 < σ.1.length := (List.getElem?_eq_some_iff.mp hb0).1
  refine W.iast hx hb hcell ((hK.2 0 _ rfl).1 n (fun j => .int (f j))) (fun q => by cases q) (by show ¬ (i < 0 ∨ (arrV _ _ _).slots.size ≤ _); rw [arrV_size]; exact hi) rfl rfl hd fun H1 e z oq => ?_
  have hlen2 : (σ.1.set b1 (.inr (.inl (n, upd f i.toNatClampNeg x)))).length = σ.1.length := List.length_set
  have kk := K H1 (locs ++ [⟨G.1 + b1, i.toNatClampNeg⟩]) ls (hrel.put hlt ?_ z oq) (hS.put z oq (Nat.le_add_right _ _)) hl
  · rw [hlen2] at kk
    exact kk
  show H1[G.1 + b1]? = some (vp_cell _ _)
  rw [e]
  show some ((vp_cell G.2.1.1 (n, .inl f)).setSlot _ _) = some (vp_cell G.2.1.1 (n, .inl (upd f i.toNatClampNeg x)))
  rw [vp_cell_i, vp_cell_i, arrV_store]
  refine congrArg (fun V => some (arrV _ n V)) (funext fun q => ?_)
  by_cases hq : q = i.toNatClampNeg
  · subst hq
    simp [updV, upd]
  · simp [updV, upd, hq]
theorem l_iast (hy : lOk y) (hd : decode cL_law pc = .ok (.iastore, 1)) {b1 n j : Nat} {f : Nat → Int32} {v : Int32} (hb0 : σ.1[b1]? = some (.inr (.inl (n, f)))) (hj : j < n) (hn : n < 2 ^ 31) (K : lA y (pc + 1) lv st (σ.1.set b1 (.inr (.inl (n, upd f j v))), σ.2)) : lA y pc lv (.int v :: .int (nI j) :: .ref ((lG y).1 + b1) :: st) σ := by
  refine l_iast0 hy hd hb0 (vp_in_nI hj hn) ?_
  rw [nI_clamp (by omega)]
  exact K
/-- a row of ints is made -/
theorem l_newa (hy : lOk y) (harr : Cond.arrayClass .int ∈ wsL_law) (hd : decode cL_law pc = .ok (.newarray .int, 2)) {N : Nat} (hN : N ≤ 1000) (hE : σ.1.length + 1 ≤ 600000 ∧ σ.2 + N ≤ 7302250) (K : lA y (pc + 2) lv (.ref ((lG y).1 + σ.1.length) :: st) (σ.1 ++ [.inr (.inl (N, fun _ => 0))], σ.2 + N)) : lA y pc lv (.int (nI N) :: st) σ := by
  obtain ⟨p, l, e, s, m, below, meth, c, b, L, xs, G⟩ := y
  obtain ⟨hx, hb, hr, hml, hown, hts, hX, hbl, hlocks, ⟨hK, hNw⟩, hG1, hcl, hcm, hL⟩ := hy
  intro H locs ls hrel hS hl
  have hn : ¬ nI N < 0 := fun q => by
    rw [Int32.lt_iff_toInt_lt, Int32.toInt_zero, nI_toInt (by omega)] at q
    omega
  refine va_newaK (atype := .int) hx hb (hts _ harr) rfl hd rfl hn (nI_clamp (by omega)) (by show N * 4 ≤ _; omega) hE.1 hE.2 rfl fun H1 cA e1 z1 o1 hAr hNm => ?_
  have hcA : cA = G.2.1.1 := by
    have := (hK.2 0 _ rfl).2
    exact Option.some.inj (hNm.symm.trans this)
  subst hcA
  have kk := K H1 locs ls (hrel.push (n := N) ?_ z1 o1) ?_ hl
  · simp only [List.length_append, List.length_singleton] at kk
    have hz : H.size = G.1 + σ.1.length := hrel.1
    rw [hz]
    exact kk
  · show H1[H.size]? = some (vp_cell _ _)
    rw [e1]
    rfl
  · exact ⟨Nat.le_trans hS.1 (by omega), fun x h1 h2 => (o1 x (Nat.lt_of_lt_of_le h1 hS.1)).trans (hS.2.1 x h1 h2), hS.2.2⟩
/-- a static call -/
theorem l_callS (hy : lOk y) {ym : MethodName} {wm wm' : List Cond} {frm lom maxL n index : Nat} {bytes : ByteArray} {rt : Option FieldType} {sem : sSem} (hM : sMet vwCl RX6 ym wm frm lom sem) (hGd : GoodIn wsL_law (va_wsS RL index ym wm)) (hw : wm = Cond.code ym bytes maxL rt :: wm') (hd0 : ym.cls ≠ "java/lang/invoke/MethodHandle" ∧ ym.cls ≠ "java/lang/invoke/VarHandle" ∧ (parseMethodDescriptor ym.desc).map (fun d => d.parameters.length) = some n) (hfr : frm + 1 ≤ 9) (hlo : 8 + (maxL + 11) + lom ≤ 352) (hd : decode cL_law pc = .ok (.invokestatic index, 3)) {As rest : List Value} {v : Option Value} {σ1 : sSt} (hn : As.length = n) (hsem : sem As σ = some (v, σ1)) (hE : σ1.1.length ≤ 600000 ∧ σ1.2 ≤ 7302250) (hst : (rest.map fun v => v.category).sum ≤ 8) (k : lA y (pc + 3) lv ((v.map (s_cv (lG y).1)).toList ++ rest) σ1) : lA y pc lv ((As.map (s_cv (lG y).1)).reverse ++ rest) σ := by
  obtain ⟨p, l, e, s, m, below, meth, c, b, L, xs, G⟩ := y
  obtain ⟨hx, hb, hr, hml, hown, hts, hX, hbl, hlocks, ⟨hK, hNw⟩, hG1, hcl, hcm, hL⟩ := hy
  intro H locs ls hrel hS hl
  obtain ⟨hle, hMm⟩ := hM _ _ _ _ hsem
  have hMm := hMm l G hcl hcm
  have hcells : σ.1.length + (σ1.1.length - σ.1.length) = σ1.1.length := by have := hle.1; omega
  have hslots : σ.2 + (σ1.2 - σ.2) = σ1.2 := by have := hle.2; omega
  have hrun := va_runS (rest := rest) (As := As.map (s_cv G.1)) (locs := locs) (cells := σ.1.length) (slots := σ.2) (p := p) (l := l) (e := e) (R := room_1) (s := s) (m := m) (args := #[Value.ref b]) (below := below) (meth := meth) (c := c) (H := H) (g := F0 m pc ls ((As.map (s_cv G.1)).reverse ++ rest)) ⟨hx, hb, hml, hown, hts⟩ hMm (va_cwS n hts hGd hw rfl rfl hd0 ⟨hfr, hlo⟩) ⟨s_Rel_calling (args := As), fun U hU hW => ⟨rfl, by rw [hU]; exact hrel, s_Kn.warm hW ⟨hK, hNw⟩⟩⟩ rfl (by rw [List.length_map]; exact hn) hl.1 rfl (lv_room hst) hd (by rw [hcells, hslots]; exact hE)
  refine a_after hrun hS (fun H1 locs1 hrel1 hS1 => ?_)
  rw [hcells, hslots]
  exact k H1 locs1 ls hrel1 hS1 hl
end
/-! the script's cell -/
theorem k_L_cell : Cond.constant RL 7 (40503) ∈ wsL_cell := by decide +kernel
theorem T_cell {l : Launch} {G : sGeo} {σ : sSt} {b L : Nat} {xs : Nat → Int32} (hL : L ≤ 260) (hbG : b < G.1) {k : Nat} (hk : k < 1000) : ∃ r : Int32, Met l yL_cell wsL_cell { frames := 0, cells := 0, slots := 0, locals := 0 } (va_Pc [.ref b, .int (nI k)] (fun U => (s_Rel G σ U.heap ∧ s_Kn G U) ∧ va_X b L xs U U.heap)) (s_Qc G (some (.int r)) σ) 0 0 (fun q => G.1 ≤ q) := by
  refine ⟨if L ≤ k then 40503 * (nI k + nI 3) else xs k, ?_⟩
  refine Met.ofW (cc := cL_cell) (maxL := 2) (ret := some .int) (by decide) rfl ?_
  intro p e s m as below meth c s₁ B hml hv
  obtain ⟨rfl, ⟨hrel, hKn⟩, hX⟩ := hv
  have hts := atoms_spec (ws := wsL_cell) B.pre
  have hown : s.vm.findClass RL = some m.cls := findClass_of_methodNamed B.named
  have hx := B.exec
  have hb := B.bytes
  have hl := lv_entry [.ref b, .int (nI k)] (n := 2) (Nat.le_of_ble_eq_true rfl)
  rw [lg_entry_eq]
  generalize (lg_sl [.ref b, .int (nI k)] ++ List.replicate (2 - (lg_sl [.ref b, .int (nI k)]).length) Slot.unset).toArray = ls at hl ⊢
  have hl : lv_has ls 2 [(0, .ref b), (1, .int (nI k))] := hl
  have hbs : b < s.heap.size := by rw [hrel.1]; omega
  have hbA : ¬ G.1 ≤ b := by omega
  have hS : va_S (fun q => G.1 ≤ q) s.heap s.heap [] := va_S.rf
  refine lv_iload_n hx hb dL_cell_0 rfl (lv_at hl 1 rfl) ?_
  refine lv_aload_n hx hb dL_cell_1 rfl (lv_at hl 0 rfl) ?_
  refine va_slen hx hb hX hbs hbA hS dL_cell_2 ?_
  by_cases q : L ≤ k
  · rw [if_pos q]
    refine lv_icmp_ge (tgt := 12) hx hb dL_cell_3 (by decide) (fun _ => ?_) (fun z => absurd ((nI_leI (a := L) (b := k) (by omega) (by omega)).mpr q) z)
    refine lv_ldc hx hb hown (hts _ k_L_cell) dL_cell_12 ?_
    refine lv_iload_n hx hb dL_cell_14 rfl (lv_at hl 1 rfl) ?_
    refine lv_iconst (v := nI 3) hx hb dL_cell_15 (by decide +kernel) ?_
    refine lv_iadd hx hb dL_cell_16 ?_
    refine lv_imul hx hb dL_cell_17 ?_
    exact W.iret hx hb B.returns (fun t ht hW => ⟨rfl, by rw [ht]; exact hrel, hS.F ht⟩) (fun q hq => by cases hq) dL_cell_18
  · rw [if_neg q]
    refine lv_icmp_ge (tgt := 12) hx hb dL_cell_3 (by decide) (fun z => absurd ((nI_leI (a := L) (b := k) (by omega) (by omega)).mp z) q) (fun _ => ?_)
    refine lv_aload_n hx hb dL_cell_6 rfl (lv_at hl 0 rfl) ?_
    refine lv_iload_n hx hb dL_cell_7 rfl (lv_at hl 1 rfl) ?_
    refine va_sld hx hb hX hbs hbA hS (vp_in_nI (show k < L by omega) (by omega)) dL_cell_8 ?_
    rw [nI_clamp (by omega)]
    refine lv_goto (tgt := 18) hx hb dL_cell_9 (by decide) ?_
    exact W.iret hx hb B.returns (fun t ht hW => ⟨rfl, by rw [ht]; exact hrel, hS.F ht⟩) (fun q hq => by cases hq) dL_cell_18
theorem s_Rel_callX {G : sGeo} {σ : sSt} {As : List Value} {b L : Nat} {xs : Nat → Int32} : FrameBlind (va_Pc As (fun U => (s_Rel G σ U.heap ∧ s_Kn G U) ∧ va_X b L xs U U.heap)) := by
  intro a U g mk q
  obtain ⟨q0, ⟨q1, q2⟩, q3⟩ := q
  exact ⟨q0, ⟨q1, va_K.moved (u := U) (U := U.calling g mk a) (Vm.Alike.refl U.vm) q2.1, fun w hw => s_nest_same (s_nest_ok w hw) (s := U) (U := U.calling g mk a) rfl (q2.2 w hw)⟩, va_X.moved (u := U) (U := U.calling g mk a) (Vm.Alike.refl U.vm) q3⟩
theorem l_cell {y : lCy} (hy : lOk y) {lv : List (Nat × Value)} {rest : List Value} {σ : sSt} {k : Nat} (hk : k < 1000) (hE : σ.1.length ≤ 600000 ∧ σ.2 ≤ 7302250) (hst : (rest.map fun v => v.category).sum ≤ 8) (K : ∀ r : Int32, lA y 81 lv (.int r :: rest) σ) : lA y 78 lv (.int (nI k) :: .ref (lB y) :: rest) σ := by
  obtain ⟨p, l, e, s, m, below, meth, c, b, L, xs, G⟩ := y
  obtain ⟨hx, hb, hr, hml, hown, hts, hX, hbl, hlocks, ⟨hK, hNw⟩, hG1, hcl, hcm, hL⟩ := hy
  intro H locs ls hrel hS hl
  have hbG : b < G.1 := by rw [hG1]; exact hbl
  obtain ⟨r, hMm⟩ := T_cell (l := l) (G := G) (σ := σ) (xs := xs) hL hbG hk
  have hXH : va_X b L xs s H := hX.kept (hS.2.1 b hbl (by omega))
  have hrun := va_runS (rest := rest) (As := [.ref b, .int (nI k)]) (locs := locs) (cells := σ.1.length) (slots := σ.2) (p := p) (l := l) (e := e) (R := room_1) (s := s) (m := m) (args := #[Value.ref b]) (below := below) (meth := meth) (c := c) (H := H) (g := F0 m 78 ls (.int (nI k) :: .ref b :: rest)) ⟨hx, hb, hml, hown, hts⟩ hMm (va_cwS 2 hts gL_law_L_cell rfl rfl rfl (by decide +kernel) ⟨Nat.le_of_ble_eq_true rfl, Nat.le_of_ble_eq_true rfl⟩) ⟨s_Rel_callX, fun U hU hW => ⟨rfl, ⟨by rw [hU]; exact hrel, s_Kn.warm hW ⟨hK, hNw⟩⟩, by rw [hU]; exact hXH.moved hW.alike⟩⟩ rfl rfl hl.1 rfl (lv_room hst) dL_law_78 hE
  refine a_after hrun hS (fun H1 locs1 hrel1 hS1 => ?_)
  exact K r H1 locs1 ls hrel1 hS1 hl
