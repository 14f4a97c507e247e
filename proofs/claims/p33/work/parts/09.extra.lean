/-! rows for bits, for doubles that are compared, for calls that answer a double (own work; p33's law wants them) -/
def e_and (A B : sEx Int32) : sEx Int32 := fun L σ => (A L σ).bind fun a => (B L a.2).bind fun b => some (a.1 &&& b.1, b.2)
def e_or (A B : sEx Int32) : sEx Int32 := fun L σ => (A L σ).bind fun a => (B L a.2).bind fun b => some (a.1 ||| b.1, b.2)
def e_shl (A B : sEx Int32) : sEx Int32 := fun L σ => (A L σ).bind fun a => (B L a.2).bind fun b => some (a.1 <<< (b.1 &&& 31), b.2)
def e_shr (A B : sEx Int32) : sEx Int32 := fun L σ => (A L σ).bind fun a => (B L a.2).bind fun b => some (a.1 >>> (b.1 &&& 31), b.2)
def e_callD (sem : sSem) (As : sEx (List Value)) : sEx UInt64 := fun L σ => (As L σ).bind fun r => (sem r.1 r.2).bind fun q => (v_d q.1).map (fun x => (x, q.2))
def c_deq (A B : sEx UInt64) : sCd := fun L σ => (A L σ).bind fun a => (B L a.2).bind fun b => some (decide (Op.cmpValue (FP.dcmp a.1 b.1) .l = 0), b.2)
theorem v_d_some {v : Option Value} {x : UInt64} (h : v_d v = some x) : v = some (.double x) := by
  unfold v_d at h
  split at h
  · cases h; rfl
  · cases h
theorem a_iand {y : sCy} {cc : ByteArray} {ws : List Cond} {own : String} {ret : Option FieldType} {fr lo nL' : Nat} (hg : s_Gd y cc ws own ret fr lo nL') {pc : Nat} {L stk : List Value} {σ : sSt} {x z : Int32} (hd : decode cc pc = .ok (.iand, 1)) (k : s_AW y (pc + 1) L (.int (x &&& z) :: stk) σ) : s_AW y pc L (.int z :: .int x :: stk) σ := by
  obtain ⟨p, l, e, R, s, m, args, below, meth, c, G, nL, σ0, vE, σE⟩ := y
  obtain ⟨hx, hb, hml, hown, hts, ⟨hK, hNw⟩, hlk, hr, hR, hnL⟩ := hg
  intro H locs ls h
  exact lv_iand hx hb hd (k H locs ls h)
theorem a_ior {y : sCy} {cc : ByteArray} {ws : List Cond} {own : String} {ret : Option FieldType} {fr lo nL' : Nat} (hg : s_Gd y cc ws own ret fr lo nL') {pc : Nat} {L stk : List Value} {σ : sSt} {x z : Int32} (hd : decode cc pc = .ok (.ior, 1)) (k : s_AW y (pc + 1) L (.int (x ||| z) :: stk) σ) : s_AW y pc L (.int z :: .int x :: stk) σ := by
  obtain ⟨p, l, e, R, s, m, args, below, meth, c, G, nL, σ0, vE, σE⟩ := y
  obtain ⟨hx, hb, hml, hown, hts, ⟨hK, hNw⟩, hlk, hr, hR, hnL⟩ := hg
  intro H locs ls h
  exact lv_ior hx hb hd (k H locs ls h)
theorem a_ishl {y : sCy} {cc : ByteArray} {ws : List Cond} {own : String} {ret : Option FieldType} {fr lo nL' : Nat} (hg : s_Gd y cc ws own ret fr lo nL') {pc : Nat} {L stk : List Value} {σ : sSt} {x z : Int32} (hd : decode cc pc = .ok (.ishl, 1)) (k : s_AW y (pc + 1) L (.int (x <<< (z &&& 31)) :: stk) σ) : s_AW y pc L (.int z :: .int x :: stk) σ := by
  obtain ⟨p, l, e, R, s, m, args, below, meth, c, G, nL, σ0, vE, σE⟩ := y
  obtain ⟨hx, hb, hml, hown, hts, ⟨hK, hNw⟩, hlk, hr, hR, hnL⟩ := hg
  intro H locs ls h
  exact lv_ishl hx hb hd (k H locs ls h)
theorem a_ishr {y : sCy} {cc : ByteArray} {ws : List Cond} {own : String} {ret : Option FieldType} {fr lo nL' : Nat} (hg : s_Gd y cc ws own ret fr lo nL') {pc : Nat} {L stk : List Value} {σ : sSt} {x z : Int32} (hd : decode cc pc = .ok (.ishr, 1)) (k : s_AW y (pc + 1) L (.int (x >>> (z &&& 31)) :: stk) σ) : s_AW y pc L (.int z :: .int x :: stk) σ := by
  obtain ⟨p, l, e, R, s, m, args, below, meth, c, G, nL, σ0, vE, σE⟩ := y
  obtain ⟨hx, hb, hml, hown, hts, ⟨hK, hNw⟩, hlk, hr, hR, hnL⟩ := hg
  intro H locs ls h
  exact lv_ishr hx hb hd (k H locs ls h)
theorem a_dcmp {y : sCy} {cc : ByteArray} {ws : List Cond} {own : String} {ret : Option FieldType} {fr lo nL' : Nat} (hg : s_Gd y cc ws own ret fr lo nL') {pc : Nat} {L stk : List Value} {σ : sSt} {x z : UInt64} (hd : decode cc pc = .ok (.dcmp .l, 1)) (k : s_AW y (pc + 1) L (.int (Op.cmpValue (FP.dcmp x z) .l) :: stk) σ) : s_AW y pc L (.double z :: .double x :: stk) σ := by
  obtain ⟨p, l, e, R, s, m, args, below, meth, c, G, nL, σ0, vE, σE⟩ := y
  obtain ⟨hx, hb, hml, hown, hts, ⟨hK, hNw⟩, hlk, hr, hR, hnL⟩ := hg
  intro H locs ls h
  exact lv_dcmp hx hb hd (k H locs ls h)
theorem se_and {κ : sCtx} {d pc0 pcA pcB pc1 : Nat} {A B : sEx Int32} (hA : sSE κ d pc0 pcA q_i A) (hB : sSE κ (d + 1) pcA pcB q_i B) (hd : decode κ.1 pcB = .ok (.iand, 1)) (hp : pcB + 1 = pc1) : sSE κ d pc0 pc1 q_i (e_and A B) := by
  intro L σ v σ1 h
  obtain ⟨a, h1, h⟩ := s_bind h
  obtain ⟨b, h2, h⟩ := s_bind h
  cases h
  subst hp
  obtain ⟨l1, k1⟩ := hA _ _ _ _ h1
  obtain ⟨l2, k2⟩ := hB _ _ _ _ h2
  exact ⟨l1.tr l2, fun y hy st hs hE k => k1 y hy st hs (l2.tr hE) (k2 y hy _ (s_ws_c hs rfl) hE (a_iand hy.1 hd k))⟩
theorem se_or {κ : sCtx} {d pc0 pcA pcB pc1 : Nat} {A B : sEx Int32} (hA : sSE κ d pc0 pcA q_i A) (hB : sSE κ (d + 1) pcA pcB q_i B) (hd : decode κ.1 pcB = .ok (.ior, 1)) (hp : pcB + 1 = pc1) : sSE κ d pc0 pc1 q_i (e_or A B) := by
  intro L σ v σ1 h
  obtain ⟨a, h1, h⟩ := s_bind h
  obtain ⟨b, h2, h⟩ := s_bind h
  cases h
  subst hp
  obtain ⟨l1, k1⟩ := hA _ _ _ _ h1
  obtain ⟨l2, k2⟩ := hB _ _ _ _ h2
  exact ⟨l1.tr l2, fun y hy st hs hE k => k1 y hy st hs (l2.tr hE) (k2 y hy _ (s_ws_c hs rfl) hE (a_ior hy.1 hd k))⟩
theorem se_shl {κ : sCtx} {d pc0 pcA pcB pc1 : Nat} {A B : sEx Int32} (hA : sSE κ d pc0 pcA q_i A) (hB : sSE κ (d + 1) pcA pcB q_i B) (hd : decode κ.1 pcB = .ok (.ishl, 1)) (hp : pcB + 1 = pc1) : sSE κ d pc0 pc1 q_i (e_shl A B) := by
  intro L σ v σ1 h
  obtain ⟨a, h1, h⟩ := s_bind h
  obtain ⟨b, h2, h⟩ := s_bind h
  cases h
  subst hp
  obtain ⟨l1, k1⟩ := hA _ _ _ _ h1
  obtain ⟨l2, k2⟩ := hB _ _ _ _ h2
  exact ⟨l1.tr l2, fun y hy st hs hE k => k1 y hy st hs (l2.tr hE) (k2 y hy _ (s_ws_c hs rfl) hE (a_ishl hy.1 hd k))⟩
theorem se_shr {κ : sCtx} {d pc0 pcA pcB pc1 : Nat} {A B : sEx Int32} (hA : sSE κ d pc0 pcA q_i A) (hB : sSE κ (d + 1) pcA pcB q_i B) (hd : decode κ.1 pcB = .ok (.ishr, 1)) (hp : pcB + 1 = pc1) : sSE κ d pc0 pc1 q_i (e_shr A B) := by
  intro L σ v σ1 h
  obtain ⟨a, h1, h⟩ := s_bind h
  obtain ⟨b, h2, h⟩ := s_bind h
  cases h
  subst hp
  obtain ⟨l1, k1⟩ := hA _ _ _ _ h1
  obtain ⟨l2, k2⟩ := hB _ _ _ _ h2
  exact ⟨l1.tr l2, fun y hy st hs hE k => k1 y hy st hs (l2.tr hE) (k2 y hy _ (s_ws_c hs rfl) hE (a_ishr hy.1 hd k))⟩
theorem se_callVD {κ : sCtx} {d pc0 pcA pc1 : Nat} {As : sEx (List Value)} {ym : MethodName} {wm wm' : List Cond} {frm lom maxL n index : Nat} {bytes : ByteArray} {rt : Option FieldType} {sem : sSem} {C : String} {ci cN : Nat} {cT : u_T} (hA : sSA κ d pc0 pcA As) (hM : sMet κ.2.2.2.2.2.2.2.1 κ.2.2.2.2.2.2.2.2.1 ym wm frm lom sem) (hR : s_Rcv ci sem) (hcC : κ.2.2.2.2.2.2.2.1[ci]? = some (C, cT, cN)) (hG : GoodIn κ.2.1 (wsV κ.2.2.1 index C ym wm)) (hw : wm = Cond.code ym bytes maxL rt :: wm') (hd0 : ym.cls = C ∧ ym.cls ≠ "java/lang/invoke/MethodHandle" ∧ ym.cls ≠ "java/lang/invoke/VarHandle" ∧ (parseMethodDescriptor ym.desc).map (fun d => d.parameters.length) = some n) (hfr : frm + 1 ≤ κ.2.2.2.2.1) (hlo : 8 + (maxL + 11) + lom ≤ κ.2.2.2.2.2.1) (hln : s_Len (n + 1) As) (h8 : d ≤ 8) (hd : decode κ.1 pcA = .ok (.invokevirtual index, 3)) (hp : pcA + 3 = pc1) : sSE κ d pc0 pc1 q_d (e_callD sem As) := by
  intro L σ v σ1 h
  obtain ⟨⟨vs, σ2⟩, h1, h⟩ := s_bind h
  obtain ⟨⟨w, σ3⟩, h2, h⟩ := s_bind h
  obtain ⟨x, h3, h⟩ := s_map h
  cases h
  have h3 := v_d_some h3
  have h3 : w = _ := h3
  subst h3
  exact sk_V hA hM hR hcC hG hw hd0 hfr hlo hln h8 hd hp h1 h2
theorem sc_Fdeq {κ : sCtx} {d pc0 pcA pcB pcC pcT pcF : Nat} {A B : sEx UInt64} (hA : sSE κ d pc0 pcA q_d A) (hB : sSE κ (d + 2) pcA pcB q_d B) {off : Int} (hd : decode κ.1 pcB = .ok (.dcmp .l, 1)) (hp1 : pcB + 1 = pcC) (hd2 : decode κ.1 pcC = .ok (.ifCond .ne off, 3)) (ht : (pcC : Int) + off = (pcF : Int)) (hp : pcC + 3 = pcT) : sSC κ d pc0 pcT pcF (c_deq A B) := by
  intro L σ b σ1 h
  obtain ⟨⟨x, σ2⟩, h1, h⟩ := s_bind h
  obtain ⟨⟨z, σ3⟩, h2, h⟩ := s_bind h
  cases h
  subst hp1 hp
  obtain ⟨l1, k1⟩ := hA _ _ _ _ h1
  obtain ⟨l2, k2⟩ := hB _ _ _ _ h2
  exact ⟨l1.tr l2, fun y hy st hs hE k g => k1 y hy st hs (l2.tr hE) (k2 y hy _ (s_ws_d hs rfl) hE (a_dcmp hy.1 hd (a_if_ne hy.1 hd2 ht (fun q => g (decide_eq_false q)) (fun q => k (decide_eq_true q)))))⟩
section
variable {α : Type} {L : List Value} {σ : sSt}
theorem x_and (A B : sEx Int32) : e_and A B L σ = (A L σ).bind fun a => (B L a.2).bind fun b => some (a.1 &&& b.1, b.2) := rfl
theorem x_or (A B : sEx Int32) : e_or A B L σ = (A L σ).bind fun a => (B L a.2).bind fun b => some (a.1 ||| b.1, b.2) := rfl
theorem x_shl (A B : sEx Int32) : e_shl A B L σ = (A L σ).bind fun a => (B L a.2).bind fun b => some (a.1 <<< (b.1 &&& 31), b.2) := rfl
theorem x_shr (A B : sEx Int32) : e_shr A B L σ = (A L σ).bind fun a => (B L a.2).bind fun b => some (a.1 >>> (b.1 &&& 31), b.2) := rfl
end
