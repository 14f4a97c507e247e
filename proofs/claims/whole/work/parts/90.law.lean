/-! the law's frame (own work): the script lies below the base, so the law is walked over the kit's rows -/
abbrev lCy : Type := Program × Launch × Jvm.Env × State × MethodId × List Frame × Method × Code × Nat × Nat × (Nat → Int32) × sGeo
def lG (y : lCy) : sGeo := y.2.2.2.2.2.2.2.2.2.2.2
def lX (y : lCy) : Nat → Int32 := y.2.2.2.2.2.2.2.2.2.2.1
def lL (y : lCy) : Nat := y.2.2.2.2.2.2.2.2.2.1
def lB (y : lCy) : Nat := y.2.2.2.2.2.2.2.2.1
def lOk (y : lCy) : Prop := match y with
  | (p, l, e, s, m, below, meth, c, b, L, xs, G) => p.tables.exec = Jvm.exec ∧ c.code = cL_law ∧ meth.sig.returnType = ret ∧ c.maxLocals = 8 ∧ s.vm.findClass RL = some m.cls ∧ (∀ w ∈ wsL_law, w.before #[Value.ref b] s = true) ∧ va_X b L xs s s.heap ∧ b < s.heap.size ∧ meth.locks = false ∧ s_Kn G s ∧ G.1 = s.heap.size ∧ G.2.2.2.1 = vwCl ∧ G.2.2.2.2 = RX6 ∧ L ≤ 2560
def lA (y : lCy) (pc : Nat) (lv : List (Nat × Value)) (st : List Value) (σ : sSt) : Prop := match y with
  | (p, l, e, s, m, below, meth, c, b, L, xs, G) => ∀ (H : Heap) (locs : List Loc) (ls : Array Slot), s_Rel G σ H → va_S (fun q => G.1 ≤ q) s.heap H locs → lv_has ls 8 lv → W p l e room_1 s m #[Value.ref b] below meth c H locs σ.1.length σ.2 (lw_Z below #[Value.ref b] s) (F0 m pc ls st)
def lV (y : lCy) (i : Nat) : List (Nat × Value) := [(3, .int (nI i)), (2, .ref ((lG y).1 + 60)), (1, .ref (lG y).1), (0, .ref (lB y))]
theorem JV.room {σ : sSt} {V : tV} (h : JV σ V) : σ.1.length ≤ 600000 ∧ σ.2 ≤ 7302250 := by
  obtain ⟨M, ⟨P, C, T, fi, er, nu, po, w, -⟩, -⟩ := h
  have hc : ∀ k, k < 8 → C k ≤ 1229 := fun k hk => (w.1.2.1 k hk).len.2.2
  have hg : ∀ c, c ≤ 1229 → Gam c ≤ 3687 := by
    intro c hc
    unfold Gam
    split <;> omega
  have s1 := sumN_le (f := C) (c := 1229) 8 hc
  have s2 := sumN_le (f := fun k => Gam (C k)) (c := 3687) 8 (fun k hk => hg _ (hc k hk))
  have a := w.1.2.2.2.2.1
  have b := w.1.2.2.2.2.2
  exact ⟨by omega, by omega⟩
theorem lk1 : Int32.ofInt 1 = nI 1 := by decide +kernel
theorem lk2 : Int32.ofInt 2 = nI 2 := by decide +kernel
theorem lk3 : Int32.ofInt 3 = nI 3 := by decide +kernel
theorem lk4 : Int32.ofInt 4 = nI 4 := by decide +kernel
/-- a number of the script, put on the stack -/
theorem l_arg {y : lCy} (hy : lOk y) {i k pc : Nat} {n : Int} (hi : i + k < lL y) (hk : Int32.ofInt n = nI k) (h0 : decode cL_law pc = .ok (.aload_n 0, 1)) (h1 : decode cL_law (pc + 1) = .ok (.iload_n 3, 1)) (h2 : decode cL_law (pc + 2) = .ok (.iconst n, 1)) (h3 : decode cL_law (pc + 3) = .ok (.iadd, 1)) (h4 : decode cL_law (pc + 4) = .ok (.iaload, 1)) {st : List Value} {σ : sSt} (K : lA y (pc + 5) (lV y i) (.int (lX y (i + k)) :: st) σ) : lA y pc (lV y i) st σ := by
  obtain ⟨p, l, e, s, m, below, meth, c, b, L, xs, G⟩ := y
  obtain ⟨hx, hb, hr, hml, hown, hts, hX, hbl, hlocks, hKn, hG1, hcl, hcm, hL⟩ := hy
  intro H locs ls hrel hS hl
  have hi : i + k < L := hi
  refine lv_aload_n hx hb h0 rfl (lv_at hl 3 rfl) ?_
  refine lv_iload_n hx hb h1 rfl (lv_at hl 0 rfl) ?_
  refine lv_iconst hx hb h2 hk ?_
  refine lv_iadd hx hb h3 ?_
  rw [nI_add]
  refine va_sld hx hb hX hbl (by rw [hG1]; exact Nat.not_le.mpr hbl) hS (vp_in_nI hi (by omega)) h4 ?_
  rw [nI_clamp (by omega)]
  exact K H locs ls hrel hS hl
theorem l_ax {y : lCy} (hy : lOk y) {i pc : Nat} (h0 : decode cL_law pc = .ok (.aload_n 1, 1)) {st : List Value} {σ : sSt} (K : lA y (pc + 1) (lV y i) (.ref ((lG y).1 + 0) :: st) σ) : lA y pc (lV y i) st σ := by
  obtain ⟨p, l, e, s, m, below, meth, c, b, L, xs, G⟩ := y
  obtain ⟨hx, hb, -⟩ := hy
  intro H locs ls hrel hS hl
  refine lv_aload_n hx hb h0 rfl (lv_at hl 2 rfl) ?_
  exact K H locs ls hrel hS hl
theorem l_am {y : lCy} (hy : lOk y) {i pc : Nat} (h0 : decode cL_law pc = .ok (.aload_n 2, 1)) {st : List Value} {σ : sSt} (K : lA y (pc + 1) (lV y i) (.ref ((lG y).1 + 60) :: st) σ) : lA y pc (lV y i) st σ := by
  obtain ⟨p, l, e, s, m, below, meth, c, b, L, xs, G⟩ := y
  obtain ⟨hx, hb, -⟩ := hy
  intro H locs ls hrel hS hl
  refine lv_aload_n hx hb h0 rfl (lv_at hl 1 rfl) ?_
  exact K H locs ls hrel hS hl
theorem l_eq {y : lCy} (hy : lOk y) {lv : List (Nat × Value)} {pc tgt : Nat} {off : Int} {a : Int32} (h0 : decode cL_law pc = .ok (.if_icmp .eq off, 3)) (ht : (pc : Int) + off = (tgt : Int)) {st : List Value} {σ : sSt} (K : lA y tgt lv st σ) : lA y pc lv (.int a :: .int a :: st) σ := by
  obtain ⟨p, l, e, s, m, below, meth, c, b, L, xs, G⟩ := y
  obtain ⟨hx, hb, -⟩ := hy
  intro H locs ls hrel hS hl
  exact lv_icmp_eq hx hb h0 ht (fun _ => K H locs ls hrel hS hl) (fun h => absurd rfl h)
/-- a call of one of the two objects -/
theorem l_call {y : lCy} (hy : lOk y) {ym : MethodName} {wm wm' : List Cond} {frm lom maxL n index : Nat} {bytes : ByteArray} {rt : Option FieldType} {sem : sSem} {C : String} {ci cN : Nat} {cT : u_T} {pc : Nat} (hM : sMet vwCl RX6 ym wm frm lom sem) (hR : s_Rcv ci sem) (hcC : vwCl[ci]? = some (C, cT, cN)) (hGd : GoodIn wsL_law (wsV RL index C ym wm)) (hw : wm = Cond.code ym bytes maxL rt :: wm') (hd0 : ym.cls = C ∧ ym.cls ≠ "java/lang/invoke/MethodHandle" ∧ ym.cls ≠ "java/lang/invoke/VarHandle" ∧ (parseMethodDescriptor ym.desc).map (fun d => d.parameters.length) = some n) (hfr : frm + 1 ≤ 2048) (hlo : 8 + (maxL + 11) + lom ≤ 84000) (hd : decode cL_law pc = .ok (.invokevirtual index, 3)) {b1 : Nat} {As rest : List Value} {v : Option Value} {σ σ1 : sSt} (hn : As.length = n) (hsem : sem (.ref b1 :: As) σ = some (v, σ1)) (hE : σ1.1.length ≤ 600000 ∧ σ1.2 ≤ 7302250) (hst : (rest.map fun v => v.category).sum ≤ 8) {lv : List (Nat × Value)} (k : lA y (pc + 3) lv ((v.map (s_cv (lG y).1)).toList ++ rest) σ1) : lA y pc lv ((As.map (s_cv (lG y).1)).reverse ++ .ref ((lG y).1 + b1) :: rest) σ := by
  obtain ⟨b2, As2, fs, e1, hb0⟩ := hR _ _ _ hsem
  cases e1
  obtain ⟨p, l, e, s, m, below, meth, c, b, L, xs, G⟩ := y
  obtain ⟨hx, hb, hr, hml, hown, hts, hX, hbl, hlocks, ⟨hK, hNw⟩, hG1, hcl, hcm, hL⟩ := hy
  intro H locs ls hrel hS hl
  obtain ⟨hle, hMm⟩ := hM _ _ _ _ hsem
  have hMm := hMm l G hcl hcm
  have hcells : σ.1.length + (σ1.1.length - σ.1.length) = σ1.1.length := by have := hle.1; omega
  have hslots : σ.2 + (σ1.2 - σ.2) = σ1.2 := by have := hle.2; omega
  have hP1 := s_one hrel hb0
  have hcl2 : G.2.2.2.1[ci]? = some (C, cT, cN) := by rw [hcl]; exact hcC
  have hrun := va_runV (rest := rest) (As := As.map (s_cv G.1)) (b := G.1 + b1) (locs := locs) (cells := σ.1.length) (slots := σ.2) (p := p) (l := l) (e := e) (R := room_1) (s := s) (m := m) (args := #[Value.ref b]) (below := below) (meth := meth) (c := c) (H := H) (g := F0 m pc ls ((As.map (s_cv G.1)).reverse ++ .ref (G.1 + b1) :: rest)) ⟨hx, hb, hml, hown, hts⟩ hMm (cwV n hts hGd hw rfl rfl hd0 ⟨hfr, hlo⟩) ⟨s_Rel_calling (args := .ref b1 :: As), va_recv hK hP1 (ci := ci) (q0 := 0) hcl2 rfl, fun U hU hW => ⟨rfl, by rw [hU]; exact hrel, s_Kn.warm hW ⟨hK, hNw⟩⟩⟩ rfl (by rw [List.length_map]; exact hn) hl.1 rfl (lv_room hst) hd (by rw [hcells, hslots]; exact hE)
  refine a_after hrun hS (fun H1 locs1 hrel1 hS1 => ?_)
  rw [hcells, hslots]
  exact k H1 locs1 ls hrel1 hS1 hl
/-- one case of the law: both objects are asked, and what they answer is compared -/
theorem l_case {y : lCy} (hy : lOk y) {i : Nat} {σ : sSt} {V' : tV} {a : Int32} {As : List Value} {n pc0 pc2 pc5 : Nat} {off : Int}
    {y8 : MethodName} {w8 w8' : List Cond} {f8 o8 m8 x8 : Nat} {b8 : ByteArray} {r8 : Option FieldType} {S8 : sSem} (hM8 : sMet vwCl RX6 y8 w8 f8 o8 S8) (hR8 : s_Rcv 6 S8) (hG8 : GoodIn wsL_law (wsV RL x8 RX8 y8 w8)) (hw8 : w8 = Cond.code y8 b8 m8 r8 :: w8') (hd8 : y8.cls = RX8 ∧ y8.cls ≠ "java/lang/invoke/MethodHandle" ∧ y8.cls ≠ "java/lang/invoke/VarHandle" ∧ (parseMethodDescriptor y8.desc).map (fun d => d.parameters.length) = some n) (hb8 : f8 + 1 ≤ 2048 ∧ 8 + (m8 + 11) + o8 ≤ 84000)
    {y9 : MethodName} {w9 w9' : List Cond} {f9 o9 m9 x9 : Nat} {b9 : ByteArray} {r9 : Option FieldType} {S9 : sSem} (hM9 : sMet vwCl RX6 y9 w9 f9 o9 S9) (hR9 : s_Rcv 7 S9) (hG9 : GoodIn wsL_law (wsV RL x9 RX9 y9 w9)) (hw9 : w9 = Cond.code y9 b9 m9 r9 :: w9') (hd9 : y9.cls = RX9 ∧ y9.cls ≠ "java/lang/invoke/MethodHandle" ∧ y9.cls ≠ "java/lang/invoke/VarHandle" ∧ (parseMethodDescriptor y9.desc).map (fun d => d.parameters.length) = some n) (hb9 : f9 + 1 ≤ 2048 ∧ 8 + (m9 + 11) + o9 ≤ 84000)
    (hn : As.length = n) (d0 : decode cL_law pc0 = .ok (.aload_n 1, 1)) (a8 : ∀ (st : List Value) (σ : sSt), lA y pc2 (lV y i) ((As.map (s_cv (lG y).1)).reverse ++ st) σ → lA y (pc0 + 1) (lV y i) st σ) (d2 : decode cL_law pc2 = .ok (.invokevirtual x8, 3)) (d3 : decode cL_law (pc2 + 3) = .ok (.aload_n 2, 1)) (a9 : ∀ (st : List Value) (σ : sSt), lA y pc5 (lV y i) ((As.map (s_cv (lG y).1)).reverse ++ st) σ → lA y (pc2 + 4) (lV y i) st σ) (d5 : decode cL_law pc5 = .ok (.invokevirtual x9, 3)) (d6 : decode cL_law (pc5 + 3) = .ok (.if_icmp .eq off, 3)) (ht : ((pc5 + 3 : Nat) : Int) + off = ((976 : Nat) : Int))
    (hj : ∃ σ1 σ2, S8 (.ref 0 :: As) σ = some (some (.int a), σ1) ∧ S9 (.ref 60 :: As) σ1 = some (some (.int a), σ2) ∧ JV σ2 V') (kk : ∀ σ2, JV σ2 V' → lA y 976 (lV y i) [] σ2) : lA y pc0 (lV y i) [] σ := by
  obtain ⟨σ1, σ2, e8, e9, j⟩ := hj
  have hE := j.room
  have hl1 := (hM9 _ _ _ _ e9).1
  refine l_ax hy d0 (a8 _ _ ?_)
  refine l_call hy hM8 hR8 rfl hG8 hw8 hd8 hb8.1 hb8.2 d2 hn e8 ⟨Nat.le_trans hl1.1 hE.1, Nat.le_trans hl1.2 hE.2⟩ (rest := []) (Nat.le_of_ble_eq_true rfl) ?_
  show lA y (pc2 + 3) (lV y i) [.int a] σ1
  refine l_am hy d3 (a9 _ _ ?_)
  refine l_call hy hM9 hR9 rfl hG9 hw9 hd9 hb9.1 hb9.2 d5 hn e9 hE (rest := [.int a]) (Nat.le_of_ble_eq_true rfl) ?_
  show lA y (pc5 + 3) (lV y i) [.int a, .int a] σ2
  exact l_eq hy d6 ht (kk _ j)
