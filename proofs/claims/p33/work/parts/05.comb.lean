/-! MY COMBINATORS (own work): expressions, conditions, statements as functions over locals and store, and how a stretch of bytecode follows each. -/
abbrev sEx (α : Type) : Type := List Value → sSt → Option (α × sSt)
abbrev sCd : Type := List Value → sSt → Option (Bool × sSt)
abbrev sRes : Type := (Option Value × sSt) ⊕ (List Value × sSt)
abbrev sStm : Type := List Value → sSt → Option sRes
abbrev sSem : Type := List Value → sSt → Option (Option Value × sSt)
def v_i (v : Option Value) : Option Int32 := match v with | some (.int x) => some x | _ => none
def v_r (v : Option Value) : Option (Option Nat) := match v with | some (.ref k) => some (some k) | some .null => some none | _ => none
def v_d (v : Option Value) : Option UInt64 := match v with | some (.double x) => some x | _ => none
def h_obj (σ : sSt) (r : Option Nat) (ci : Nat) : Option (List Value) := match r with
  | none => none
  | some b => match σ.1[b]? with
    | some (.inl (c, fs)) => if c = ci then some fs else none
    | _ => none
def h_arr (σ : sSt) (r : Option Nat) : Option (Nat × (Nat → Int32)) := match r with
  | none => none
  | some b => match σ.1[b]? with
    | some (.inr (.inl x)) => some x
    | _ => none
def h_rar (σ : sSt) (r : Option Nat) : Option (Nat × (Nat → Option Nat)) := match r with
  | none => none
  | some b => match σ.1[b]? with
    | some (.inr (.inr x)) => some x
    | _ => none
def h_ix (i : Int32) (n : Nat) : Option Nat := if 0 ≤ i.toInt ∧ i.toInt < n then some i.toNatClampNeg else none
def h_set (σ : sSt) (r : Option Nat) (a : sAC) : sSt := match r with
  | none => σ
  | some b => (σ.1.set b a, σ.2)
-- expressions
def e_k (v : Int32) : sEx Int32 := fun _ σ => some (v, σ)
def e_i (i : Nat) : sEx Int32 := fun L σ => (v_i L[i]?).map (fun x => (x, σ))
def e_r (i : Nat) : sEx (Option Nat) := fun L σ => (v_r L[i]?).map (fun x => (x, σ))
def e_nil : sEx (Option Nat) := fun _ σ => some (none, σ)
def e_add (A B : sEx Int32) : sEx Int32 := fun L σ => (A L σ).bind fun a => (B L a.2).bind fun b => some (a.1 + b.1, b.2)
def e_sub (A B : sEx Int32) : sEx Int32 := fun L σ => (A L σ).bind fun a => (B L a.2).bind fun b => some (a.1 - b.1, b.2)
def e_mul (A B : sEx Int32) : sEx Int32 := fun L σ => (A L σ).bind fun a => (B L a.2).bind fun b => some (a.1 * b.1, b.2)
def o_div (x z : Int32) : Option Int32 := if z = 0 then none else some (x / z)
def o_rem (x z : Int32) : Option Int32 := if z = 0 then none else some (x - x / z * z)
def e_div (A B : sEx Int32) : sEx Int32 := fun L σ => (A L σ).bind fun a => (B L a.2).bind fun b => (o_div a.1 b.1).map (fun x => (x, b.2))
def e_rem (A B : sEx Int32) : sEx Int32 := fun L σ => (A L σ).bind fun a => (B L a.2).bind fun b => (o_rem a.1 b.1).map (fun x => (x, b.2))
def e_get (ci k : Nat) (A : sEx (Option Nat)) : sEx Int32 := fun L σ => (A L σ).bind fun a => (h_obj a.2 a.1 ci).bind fun fs => (v_i fs[k]?).map (fun x => (x, a.2))
def e_getR (ci k : Nat) (A : sEx (Option Nat)) : sEx (Option Nat) := fun L σ => (A L σ).bind fun a => (h_obj a.2 a.1 ci).bind fun fs => (v_r fs[k]?).map (fun x => (x, a.2))
def e_ald (A : sEx (Option Nat)) (I : sEx Int32) : sEx Int32 := fun L σ => (A L σ).bind fun a => (I L a.2).bind fun i => (h_arr i.2 a.1).bind fun x => (h_ix i.1 x.1).map (fun j => (x.2 j, i.2))
def e_aldR (A : sEx (Option Nat)) (I : sEx Int32) : sEx (Option Nat) := fun L σ => (A L σ).bind fun a => (I L a.2).bind fun i => (h_rar i.2 a.1).bind fun x => (h_ix i.1 x.1).map (fun j => (x.2 j, i.2))
def e_len (A : sEx (Option Nat)) : sEx Int32 := fun L σ => (A L σ).bind fun a => (h_arr a.2 a.1).map (fun x => (Int32.ofNat x.1, a.2))
def e_lenR (A : sEx (Option Nat)) : sEx Int32 := fun L σ => (A L σ).bind fun a => (h_rar a.2 a.1).map (fun x => (Int32.ofNat x.1, a.2))
def e_if {α : Type} (C : sCd) (A B : sEx α) : sEx α := fun L σ => (C L σ).bind fun c => if c.1 = true then A L c.2 else B L c.2
def e_d0 : sEx UInt64 := fun _ σ => some (0, σ)
def e_i2d (A : sEx Int32) : sEx UInt64 := fun L σ => (A L σ).map (fun a => (FP.i2d a.1, a.2))
def o_ddiv (x z : UInt64) : Option UInt64 := if FP.ddiv x z &&& 0x7fffffffffffffff ≤ 0x7ff0000000000000 then some (FP.ddiv x z) else none
def e_ddiv (A B : sEx UInt64) : sEx UInt64 := fun L σ => (A L σ).bind fun a => (B L a.2).bind fun b => (o_ddiv a.1 b.1).map (fun x => (x, b.2))
-- arguments and calls
def a_nil : sEx (List Value) := fun _ σ => some ([], σ)
def a_ci (A : sEx Int32) (As : sEx (List Value)) : sEx (List Value) := fun L σ => (A L σ).bind fun a => (As L a.2).bind fun r => some (.int a.1 :: r.1, r.2)
def a_cr (A : sEx (Option Nat)) (As : sEx (List Value)) : sEx (List Value) := fun L σ => (A L σ).bind fun a => (As L a.2).bind fun r => some (va_rf a.1 :: r.1, r.2)
def e_callI (sem : sSem) (As : sEx (List Value)) : sEx Int32 := fun L σ => (As L σ).bind fun r => (sem r.1 r.2).bind fun q => (v_i q.1).map (fun x => (x, q.2))
def e_callR (sem : sSem) (As : sEx (List Value)) : sEx (Option Nat) := fun L σ => (As L σ).bind fun r => (sem r.1 r.2).bind fun q => (v_r q.1).map (fun x => (x, q.2))
def o_void (b : Nat) (q : Option Value × sSt) : Option (Option Nat × sSt) := match q.1 with
  | none => some (some b, q.2)
  | some _ => none
def e_new (ci : Nat) (fs : List Value) (sem : sSem) (As : sEx (List Value)) : sEx (Option Nat) := fun L σ => (As L (σ.1 ++ [.inl (ci, fs)], σ.2 + fs.length)).bind fun r => (sem (.ref σ.1.length :: r.1) r.2).bind fun q => o_void σ.1.length q
def e_newa (A : sEx Int32) : sEx (Option Nat) := fun L σ => (A L σ).bind fun a => if 0 ≤ a.1.toInt ∧ a.1.toInt ≤ 100000 then some (some a.2.1.length, (a.2.1 ++ [.inr (.inl (a.1.toNatClampNeg, fun _ => 0))], a.2.2 + a.1.toNatClampNeg)) else none
def e_newq (A : sEx Int32) : sEx (Option Nat) := fun L σ => (A L σ).bind fun a => if 0 ≤ a.1.toInt ∧ a.1.toInt ≤ 100000 then some (some a.2.1.length, (a.2.1 ++ [.inr (.inr (a.1.toNatClampNeg, fun _ => none))], a.2.2 + a.1.toNatClampNeg)) else none
-- conditions
def i_eq (x z : Int32) : Bool := decide (x = z)
def i_ne (x z : Int32) : Bool := decide (¬ x = z)
def i_lt (x z : Int32) : Bool := decide (x < z)
def i_ge (x z : Int32) : Bool := decide (z ≤ x)
def i_gt (x z : Int32) : Bool := decide (z < x)
def i_le (x z : Int32) : Bool := decide (x ≤ z)
def c_cmp (f : Int32 → Int32 → Bool) (A B : sEx Int32) : sCd := fun L σ => (A L σ).bind fun a => (B L a.2).bind fun b => some (f a.1 b.1, b.2)
def c_cmp0 (f : Int32 → Int32 → Bool) (A : sEx Int32) : sCd := fun L σ => (A L σ).bind fun a => some (f a.1 0, a.2)
def c_null (A : sEx (Option Nat)) : sCd := fun L σ => (A L σ).bind fun a => some (a.1.isNone, a.2)
def c_nn (A : sEx (Option Nat)) : sCd := fun L σ => (A L σ).bind fun a => some (a.1.isSome, a.2)
def c_not (C : sCd) : sCd := fun L σ => (C L σ).map (fun c => (!c.1, c.2))
def c_and (C D : sCd) : sCd := fun L σ => (C L σ).bind fun c => if c.1 = true then D L c.2 else some (false, c.2)
def c_or (C D : sCd) : sCd := fun L σ => (C L σ).bind fun c => if c.1 = true then some (true, c.2) else D L c.2
def c_if (C D E : sCd) : sCd := fun L σ => (C L σ).bind fun c => if c.1 = true then D L c.2 else E L c.2
-- statements
def s_skip : sStm := fun L σ => some (.inr (L, σ))
def s_go (r : sRes) (T : sStm) : Option sRes := match r with
  | .inl v => some (.inl v)
  | .inr q => T q.1 q.2
def s_seq (S T : sStm) : sStm := fun L σ => (S L σ).bind fun r => s_go r T
def s_decI (i : Nat) (E : sEx Int32) : sStm := fun L σ => if L.length = i then (E L σ).map (fun a => .inr (L ++ [.int a.1], a.2)) else none
def s_decR (i : Nat) (E : sEx (Option Nat)) : sStm := fun L σ => if L.length = i then (E L σ).map (fun a => .inr (L ++ [va_rf a.1], a.2)) else none
def s_setI (i : Nat) (E : sEx Int32) : sStm := fun L σ => (E L σ).map fun a => .inr (L.set i (.int a.1), a.2)
def s_inc (i : Nat) (k : Int32) : sStm := fun L σ => (v_i L[i]?).map fun x => .inr (L.set i (.int (x + k)), σ)
def s_if (C : sCd) (S T : sStm) : sStm := fun L σ => (C L σ).bind fun c => if c.1 = true then S L c.2 else T L c.2
def s_wh (C : sCd) (S : sStm) : Nat → sStm
  | 0 => fun _ _ => none
  | n + 1 => fun L σ => (C L σ).bind fun c => if c.1 = true then (S L c.2).bind fun r => s_go r (s_wh C S n) else some (.inr (L, c.2))
def s_FUEL : Nat := 1000000000000
def s_while (C : sCd) (S : sStm) : sStm := s_wh C S s_FUEL
def s_cut (n : Nat) (r : sRes) : sRes := match r with
  | .inl v => .inl v
  | .inr q => .inr (q.1.take n, q.2)
def s_blk (n : Nat) (S : sStm) : sStm := fun L σ => (S L σ).map (s_cut n)
def s_retI (E : sEx Int32) : sStm := fun L σ => (E L σ).map fun a => .inl (some (.int a.1), a.2)
def s_retZ (E : sEx Int32) : sStm := fun L σ => (E L σ).bind fun a => if a.1 = 0 ∨ a.1 = 1 then some (.inl (some (.int a.1), a.2)) else none
def s_retR (E : sEx (Option Nat)) : sStm := fun L σ => (E L σ).map fun a => .inl (some (va_rf a.1), a.2)
def s_retD (E : sEx UInt64) : sStm := fun L σ => (E L σ).map fun a => .inl (some (.double a.1), a.2)
def s_ret0 : sStm := fun _ σ => some (.inl (none, σ))
def s_putI (ci k : Nat) (A : sEx (Option Nat)) (E : sEx Int32) : sStm := fun L σ => (A L σ).bind fun a => (E L a.2).bind fun v => (h_obj v.2 a.1 ci).bind fun fs => if k < fs.length then some (.inr (L, h_set v.2 a.1 (.inl (ci, fs.set k (.int v.1))))) else none
def s_putZ (ci k : Nat) (A : sEx (Option Nat)) (E : sEx Int32) : sStm := fun L σ => (A L σ).bind fun a => (E L a.2).bind fun v => (h_obj v.2 a.1 ci).bind fun fs => if k < fs.length ∧ (v.1 = 0 ∨ v.1 = 1) then some (.inr (L, h_set v.2 a.1 (.inl (ci, fs.set k (.int v.1))))) else none
def s_putR (ci k : Nat) (A : sEx (Option Nat)) (E : sEx (Option Nat)) : sStm := fun L σ => (A L σ).bind fun a => (E L a.2).bind fun v => (h_obj v.2 a.1 ci).bind fun fs => if k < fs.length then some (.inr (L, h_set v.2 a.1 (.inl (ci, fs.set k (va_rf v.1))))) else none
def s_putop (ci k : Nat) (A : sEx (Option Nat)) (f : Int32 → Int32 → Int32) (E : sEx Int32) : sStm := fun L σ => (A L σ).bind fun a => (h_obj a.2 a.1 ci).bind fun fs0 => (v_i fs0[k]?).bind fun x => (E L a.2).bind fun v => (h_obj v.2 a.1 ci).bind fun fs => if k < fs.length then some (.inr (L, h_set v.2 a.1 (.inl (ci, fs.set k (.int (f x v.1)))))) else none
def s_ast (A : sEx (Option Nat)) (I E : sEx Int32) : sStm := fun L σ => (A L σ).bind fun a => (I L a.2).bind fun i => (E L i.2).bind fun v => (h_arr v.2 a.1).bind fun x => (h_ix i.1 x.1).map fun _ => .inr (L, h_set v.2 a.1 (.inr (.inl (x.1, upd x.2 i.1.toNatClampNeg v.1))))
def s_astop (A : sEx (Option Nat)) (I : sEx Int32) (f : Int32 → Int32 → Int32) (E : sEx Int32) : sStm := fun L σ => (A L σ).bind fun a => (I L a.2).bind fun i => (h_arr i.2 a.1).bind fun x0 => (h_ix i.1 x0.1).bind fun j => (E L i.2).bind fun v => (h_arr v.2 a.1).bind fun x => (h_ix i.1 x.1).map fun _ => .inr (L, h_set v.2 a.1 (.inr (.inl (x.1, upd x.2 i.1.toNatClampNeg (f (x0.2 j) v.1)))))
def s_astR (ci : Nat) (A : sEx (Option Nat)) (I : sEx Int32) (E : sEx (Option Nat)) : sStm := fun L σ => (A L σ).bind fun a => (I L a.2).bind fun i => (E L i.2).bind fun v => (h_rar v.2 a.1).bind fun x => (h_obj v.2 v.1 ci).bind fun _ => (h_ix i.1 x.1).map fun _ => .inr (L, h_set v.2 a.1 (.inr (.inr (x.1, va_up x.2 i.1.toNatClampNeg v.1))))
def s_callV (sem : sSem) (As : sEx (List Value)) : sStm := fun L σ => (As L σ).bind fun r => (sem r.1 r.2).bind fun q => match q.1 with
  | none => some (.inr (L, q.2))
  | some _ => none
def s_callP (sem : sSem) (As : sEx (List Value)) : sStm := fun L σ => (As L σ).bind fun r => (sem r.1 r.2).bind fun q => match q.1 with
  | some (.int _) => some (.inr (L, q.2))
  | _ => none
def o_some {α : Type} (r : Option Nat) (x : α) : Option α := match r with
  | none => none
  | some _ => some x
def s_super (A : sEx (Option Nat)) : sStm := fun L σ => (A L σ).bind fun a => o_some a.1 (.inr (L, a.2))
def s_sw (E : sEx Int32) (f : Int32 → sStm) : sStm := fun L σ => (E L σ).bind fun a => f a.1 L a.2
