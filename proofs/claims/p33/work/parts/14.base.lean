/-! MY BASE OF EVALUATION (own work): what each combinator is where it is applied; loops; numbers -/
section
variable {α : Type} {L : List Value} {σ : sSt}
theorem x_k (v : Int32) : e_k v L σ = some (v, σ) := rfl
theorem x_i (i : Nat) : e_i i L σ = (v_i L[i]?).map (fun x => (x, σ)) := rfl
theorem x_r (i : Nat) : e_r i L σ = (v_r L[i]?).map (fun x => (x, σ)) := rfl
theorem x_nil : e_nil L σ = some (none, σ) := rfl
theorem x_add (A B : sEx Int32) : e_add A B L σ = (A L σ).bind fun a => (B L a.2).bind fun b => some (a.1 + b.1, b.2) := rfl
theorem x_sub (A B : sEx Int32) : e_sub A B L σ = (A L σ).bind fun a => (B L a.2).bind fun b => some (a.1 - b.1, b.2) := rfl
theorem x_mul (A B : sEx Int32) : e_mul A B L σ = (A L σ).bind fun a => (B L a.2).bind fun b => some (a.1 * b.1, b.2) := rfl
theorem x_div (A B : sEx Int32) : e_div A B L σ = (A L σ).bind fun a => (B L a.2).bind fun b => (o_div a.1 b.1).map (fun x => (x, b.2)) := rfl
theorem x_rem (A B : sEx Int32) : e_rem A B L σ = (A L σ).bind fun a => (B L a.2).bind fun b => (o_rem a.1 b.1).map (fun x => (x, b.2)) := rfl
theorem x_max (A B : sEx Int32) : e_max A B L σ = (A L σ).bind fun a => (B L a.2).bind fun b => some (if a.1 < b.1 then b.1 else a.1, b.2) := rfl
theorem x_min (A B : sEx Int32) : e_min A B L σ = (A L σ).bind fun a => (B L a.2).bind fun b => some (if b.1 < a.1 then b.1 else a.1, b.2) := rfl
theorem x_get (ci k : Nat) (A : sEx (Option Nat)) : e_get ci k A L σ = (A L σ).bind fun a => (h_obj a.2 a.1 ci).bind fun fs => (v_i fs[k]?).map (fun x => (x, a.2)) := rfl
theorem x_getR (ci k : Nat) (A : sEx (Option Nat)) : e_getR ci k A L σ = (A L σ).bind fun a => (h_obj a.2 a.1 ci).bind fun fs => (v_r fs[k]?).map (fun x => (x, a.2)) := rfl
theorem x_ald (A : sEx (Option Nat)) (I : sEx Int32) : e_ald A I L σ = (A L σ).bind fun a => (I L a.2).bind fun i => (h_arr i.2 a.1).bind fun x => (h_ix i.1 x.1).map (fun j => (x.2 j, i.2)) := rfl
theorem x_aldR (A : sEx (Option Nat)) (I : sEx Int32) : e_aldR A I L σ = (A L σ).bind fun a => (I L a.2).bind fun i => (h_rar i.2 a.1).bind fun x => (h_ix i.1 x.1).map (fun j => (x.2 j, i.2)) := rfl
theorem x_len (A : sEx (Option Nat)) : e_len A L σ = (A L σ).bind fun a => (h_arr a.2 a.1).map (fun x => (Int32.ofNat x.1, a.2)) := rfl
theorem x_lenR (A : sEx (Option Nat)) : e_lenR A L σ = (A L σ).bind fun a => (h_rar a.2 a.1).map (fun x => (Int32.ofNat x.1, a.2)) := rfl
theorem x_if (C : sCd) (A B : sEx α) : e_if C A B L σ = (C L σ).bind fun c => if c.1 = true then A L c.2 else B L c.2 := rfl
theorem xa_nil : a_nil L σ = some ([], σ) := rfl
theorem xa_ci (A : sEx Int32) (As : sEx (List Value)) : a_ci A As L σ = (A L σ).bind fun a => (As L a.2).bind fun r => some (.int a.1 :: r.1, r.2) := rfl
theorem xa_cr (A : sEx (Option Nat)) (As : sEx (List Value)) : a_cr A As L σ = (A L σ).bind fun a => (As L a.2).bind fun r => some (va_rf a.1 :: r.1, r.2) := rfl
theorem x_callI (sem : sSem) (As : sEx (List Value)) : e_callI sem As L σ = (As L σ).bind fun r => (sem r.1 r.2).bind fun q => (v_i q.1).map (fun x => (x, q.2)) := rfl
theorem x_callR (sem : sSem) (As : sEx (List Value)) : e_callR sem As L σ = (As L σ).bind fun r => (sem r.1 r.2).bind fun q => (v_r q.1).map (fun x => (x, q.2)) := rfl
theorem x_new (ci : Nat) (fs : List Value) (sem : sSem) (As : sEx (List Value)) : e_new ci fs sem As L σ = (As L (σ.1 ++ [.inl (ci, fs)], σ.2 + fs.length)).bind fun r => (sem (.ref σ.1.length :: r.1) r.2).bind fun q => o_void σ.1.length q := rfl
theorem x_newa (A : sEx Int32) : e_newa A L σ = (A L σ).bind fun a => if 0 ≤ a.1.toInt ∧ a.1.toInt ≤ 100000 then some (some a.2.1.length, (a.2.1 ++ [.inr (.inl (a.1.toNatClampNeg, fun _ => 0))], a.2.2 + a.1.toNatClampNeg)) else none := rfl
theorem x_newq (A : sEx Int32) : e_newq A L σ = (A L σ).bind fun a => if 0 ≤ a.1.toInt ∧ a.1.toInt ≤ 100000 then some (some a.2.1.length, (a.2.1 ++ [.inr (.inr (a.1.toNatClampNeg, fun _ => none))], a.2.2 + a.1.toNatClampNeg)) else none := rfl
theorem xc_cmp (f : Int32 → Int32 → Bool) (A B : sEx Int32) : c_cmp f A B L σ = (A L σ).bind fun a => (B L a.2).bind fun b => some (f a.1 b.1, b.2) := rfl
theorem xc_cmp0 (f : Int32 → Int32 → Bool) (A : sEx Int32) : c_cmp0 f A L σ = (A L σ).bind fun a => some (f a.1 0, a.2) := rfl
theorem xc_null (A : sEx (Option Nat)) : c_null A L σ = (A L σ).bind fun a => some (a.1.isNone, a.2) := rfl
theorem xc_nn (A : sEx (Option Nat)) : c_nn A L σ = (A L σ).bind fun a => some (a.1.isSome, a.2) := rfl
theorem xc_not (C : sCd) : c_not C L σ = (C L σ).map (fun c => (!c.1, c.2)) := rfl
theorem xc_and (C D : sCd) : c_and C D L σ = (C L σ).bind fun c => if c.1 = true then D L c.2 else some (false, c.2) := rfl
theorem xc_or (C D : sCd) : c_or C D L σ = (C L σ).bind fun c => if c.1 = true then some (true, c.2) else D L c.2 := rfl
theorem xc_if (C D E : sCd) : c_if C D E L σ = (C L σ).bind fun c => if c.1 = true then D L c.2 else E L c.2 := rfl
theorem xs_skip : s_skip L σ = some (.inr (L, σ)) := rfl
theorem xs_seq (S T : sStm) : s_seq S T L σ = (S L σ).bind fun r => s_go r T := rfl
theorem xs_decI (i : Nat) (E : sEx Int32) : s_decI i E L σ = if L.length = i then (E L σ).map (fun a => .inr (L ++ [.int a.1], a.2)) else none := rfl
theorem xs_decR (i : Nat) (E : sEx (Option Nat)) : s_decR i E L σ = if L.length = i then (E L σ).map (fun a => .inr (L ++ [va_rf a.1], a.2)) else none := rfl
theorem xs_setI (i : Nat) (E : sEx Int32) : s_setI i E L σ = (E L σ).map fun a => .inr (L.set i (.int a.1), a.2) := rfl
theorem xs_inc (i : Nat) (k : Int32) : s_inc i k L σ = (v_i L[i]?).map fun x => .inr (L.set i (.int (x + k)), σ) := rfl
theorem xs_if (C : sCd) (S T : sStm) : s_if C S T L σ = (C L σ).bind fun c => if c.1 = true then S L c.2 else T L c.2 := rfl
theorem xs_blk (n : Nat) (S : sStm) : s_blk n S L σ = (S L σ).map (s_cut n) := rfl
theorem xs_retI (E : sEx Int32) : s_retI E L σ = (E L σ).map fun a => .inl (some (.int a.1), a.2) := rfl
theorem xs_retR (E : sEx (Option Nat)) : s_retR E L σ = (E L σ).map fun a => .inl (some (va_rf a.1), a.2) := rfl
theorem xs_retD (E : sEx UInt64) : s_retD E L σ = (E L σ).map fun a => .inl (some (.double a.1), a.2) := rfl
theorem xs_ret0 : s_ret0 L σ = some (.inl (none, σ)) := rfl
theorem xs_putI (ci k : Nat) (A : sEx (Option Nat)) (E : sEx Int32) : s_putI ci k A E L σ = (A L σ).bind fun a => (E L a.2).bind fun v => (h_obj v.2 a.1 ci).bind fun fs => if k < fs.length then some (.inr (L, h_set v.2 a.1 (.inl (ci, fs.set k (.int v.1))))) else none := rfl
theorem xs_putZ (ci k : Nat) (A : sEx (Option Nat)) (E : sEx Int32) : s_putZ ci k A E L σ = (A L σ).bind fun a => (E L a.2).bind fun v => (h_obj v.2 a.1 ci).bind fun fs => if k < fs.length ∧ (v.1 = 0 ∨ v.1 = 1) then some (.inr (L, h_set v.2 a.1 (.inl (ci, fs.set k (.int v.1))))) else none := rfl
theorem xs_putR (ci k : Nat) (A : sEx (Option Nat)) (E : sEx (Option Nat)) : s_putR ci k A E L σ = (A L σ).bind fun a => (E L a.2).bind fun v => (h_obj v.2 a.1 ci).bind fun fs => if k < fs.length then some (.inr (L, h_set v.2 a.1 (.inl (ci, fs.set k (va_rf v.1))))) else none := rfl
theorem xs_putop (ci k : Nat) (A : sEx (Option Nat)) (f : Int32 → Int32 → Int32) (E : sEx Int32) : s_putop ci k A f E L σ = (A L σ).bind fun a => (h_obj a.2 a.1 ci).bind fun fs0 => (v_i fs0[k]?).bind fun x => (E L a.2).bind fun v => (h_obj v.2 a.1 ci).bind fun fs => if k < fs.length then some (.inr (L, h_set v.2 a.1 (.inl (ci, fs.set k (.int (f x v.1)))))) else none := rfl
theorem xs_ast (A : sEx (Option Nat)) (I E : sEx Int32) : s_ast A I E L σ = (A L σ).bind fun a => (I L a.2).bind fun i => (E L i.2).bind fun v => (h_arr v.2 a.1).bind fun x => (h_ix i.1 x.1).map fun _ => .inr (L, h_set v.2 a.1 (.inr (.inl (x.1, upd x.2 i.1.toNatClampNeg v.1)))) := rfl
theorem xs_astop (A : sEx (Option Nat)) (I : sEx Int32) (f : Int32 → Int32 → Int32) (E : sEx Int32) : s_astop A I f E L σ = (A L σ).bind fun a => (I L a.2).bind fun i => (h_arr i.2 a.1).bind fun x0 => (h_ix i.1 x0.1).bind fun j => (E L i.2).bind fun v => (h_arr v.2 a.1).bind fun x => (h_ix i.1 x.1).map fun _ => .inr (L, h_set v.2 a.1 (.inr (.inl (x.1, upd x.2 i.1.toNatClampNeg (f (x0.2 j) v.1))))) := rfl
theorem xs_astR (ci : Nat) (A : sEx (Option Nat)) (I : sEx Int32) (E : sEx (Option Nat)) : s_astR ci A I E L σ = (A L σ).bind fun a => (I L a.2).bind fun i => (E L i.2).bind fun v => (h_rar v.2 a.1).bind fun x => (h_obj v.2 v.1 ci).bind fun _ => (h_ix i.1 x.1).map fun _ => .inr (L, h_set v.2 a.1 (.inr (.inr (x.1, va_up x.2 i.1.toNatClampNeg v.1)))) := rfl
def g_V (L : List Value) (q : Option Value × sSt) : Option sRes := match q.1 with
  | none => some (.inr (L, q.2))
  | some _ => none
def g_P (L : List Value) (q : Option Value × sSt) : Option sRes := match q.1 with
  | some (.int _) => some (.inr (L, q.2))
  | _ => none
theorem g_Vn : g_V L (none, σ) = some (.inr (L, σ)) := rfl
theorem g_Pi (x : Int32) : g_P L (some (.int x), σ) = some (.inr (L, σ)) := rfl
theorem xs_callV (sem : sSem) (As : sEx (List Value)) : s_callV sem As L σ = (As L σ).bind fun r => (sem r.1 r.2).bind fun q => g_V L q := rfl
theorem xs_callP (sem : sSem) (As : sEx (List Value)) : s_callP sem As L σ = (As L σ).bind fun r => (sem r.1 r.2).bind fun q => g_P L q := rfl
theorem xs_super (A : sEx (Option Nat)) : s_super A L σ = (A L σ).bind fun a => o_some a.1 (.inr (L, a.2)) := rfl
theorem xs_sw (E : sEx Int32) (f : Int32 → sStm) : s_sw E f L σ = (E L σ).bind fun a => f a.1 L a.2 := rfl
theorem s_go_inl (v : Option Value × sSt) (T : sStm) : s_go (.inl v) T = some (.inl v) := rfl
theorem s_go_inr (q : List Value × sSt) (T : sStm) : s_go (.inr q) T = T q.1 q.2 := rfl
theorem s_cut_inl (n : Nat) (v : Option Value × sSt) : s_cut n (.inl v) = .inl v := rfl
theorem s_cut_inr (n : Nat) (q : List Value × sSt) : s_cut n (.inr q) = .inr (q.1.take n, q.2) := rfl
theorem o_void_n (b : Nat) : o_void b (none, σ) = some (some b, σ) := rfl
theorem o_some_s (k : Nat) (x : α) : o_some (some k) x = some x := rfl
theorem v_i_int (x : Int32) : v_i (some (.int x)) = some x := rfl
theorem v_i_none : v_i none = none := rfl
theorem v_r_ref (k : Nat) : v_r (some (.ref k)) = some (some k) := rfl
theorem v_r_null : v_r (some .null) = some none := rfl
theorem v_r_rf (x : Option Nat) : v_r (some (va_rf x)) = some x := by cases x <;> rfl
theorem h_set_some (b : Nat) (a : sAC) : h_set σ (some b) a = (σ.1.set b a, σ.2) := rfl
end
/-! objects and rows of the store -/
theorem h_obj_eq {σ : sSt} {b ci : Nat} {fs : List Value} (h : σ.1[b]? = some (.inl (ci, fs))) : h_obj σ (some b) ci = some fs := by
  simp [h_obj, h]
theorem h_arr_eq {σ : sSt} {b n : Nat} {f : Nat → Int32} (h : σ.1[b]? = some (.inr (.inl (n, f)))) : h_arr σ (some b) = some (n, f) := by
  simp [h_arr, h]
theorem h_rar_eq {σ : sSt} {b n : Nat} {f : Nat → Option Nat} (h : σ.1[b]? = some (.inr (.inr (n, f)))) : h_rar σ (some b) = some (n, f) := by
  simp [h_rar, h]
theorem h_ix_nI {j n : Nat} (h : j < n) (hn : n ≤ 2 ^ 31) : h_ix (nI j) n = some j := by
  unfold h_ix
  have e := nI_toInt (n := j) (by omega)
  rw [if_pos ⟨by omega, by omega⟩, nI_clamp (by omega)]
/-! numbers -/
theorem j_lt {a b : Nat} (ha : a < 2 ^ 31) (hb : b < 2 ^ 31) : i_lt (nI a) (nI b) = decide (a < b) := by unfold i_lt; exact decide_eq_decide.mpr (nI_ltI ha hb)
theorem j_le {a b : Nat} (ha : a < 2 ^ 31) (hb : b < 2 ^ 31) : i_le (nI a) (nI b) = decide (a ≤ b) := by unfold i_le; exact decide_eq_decide.mpr (nI_leI ha hb)
theorem j_gt {a b : Nat} (ha : a < 2 ^ 31) (hb : b < 2 ^ 31) : i_gt (nI a) (nI b) = decide (b < a) := by unfold i_gt; exact decide_eq_decide.mpr (nI_ltI hb ha)
theorem j_ge {a b : Nat} (ha : a < 2 ^ 31) (hb : b < 2 ^ 31) : i_ge (nI a) (nI b) = decide (b ≤ a) := by unfold i_ge; exact decide_eq_decide.mpr (nI_leI hb ha)
theorem j_eq {a b : Nat} (ha : a < 2 ^ 31) (hb : b < 2 ^ 31) : i_eq (nI a) (nI b) = decide (a = b) := by unfold i_eq; exact decide_eq_decide.mpr (nI_eq ha hb)
theorem j_ne {a b : Nat} (ha : a < 2 ^ 31) (hb : b < 2 ^ 31) : i_ne (nI a) (nI b) = decide (¬ a = b) := by unfold i_ne; exact decide_eq_decide.mpr (not_congr (nI_eq ha hb))
theorem j_z : (0 : Int32) = nI 0 := rfl
theorem j_one : (1 : Int32) = nI 1 := rfl
theorem j_div {a b : Nat} (ha : a < 2 ^ 31) (h0 : 0 < b) (hb : b < 2 ^ 31) : o_div (nI a) (nI b) = some (nI (a / b)) := by
  unfold o_div
  rw [if_neg (nI_ne0 h0 hb), pk_div ha h0 hb]
theorem j_rem {a b : Nat} (ha : a < 2 ^ 31) (h0 : 0 < b) (hb : b < 2 ^ 31) : o_rem (nI a) (nI b) = some (nI (a % b)) := by
  unfold o_rem
  rw [if_neg (nI_ne0 h0 hb), pk_rem ha h0 hb]
/-- an Int32 that holds what the bool says -/
def zB (b : Bool) : Int32 := if b = true then nI 1 else nI 0
theorem zB_t : zB true = nI 1 := rfl
theorem zB_f : zB false = nI 0 := rfl
theorem zB_ne0 (b : Bool) : i_ne (zB b) 0 = b := by cases b <;> rfl
theorem zB_01 (b : Bool) : zB b = 0 ∨ zB b = 1 := by cases b <;> first | exact Or.inl rfl | exact Or.inr rfl
theorem zB_ite (b : Bool) {σ : sSt} : (if b = true then some (nI 1, σ) else some (nI 0, σ)) = some (zB b, σ) := by cases b <;> rfl
/-! loops -/
theorem wh_step {C : sCd} {S : sStm} {n : Nat} {L : List Value} {σ : sSt} : s_wh C S (n + 1) L σ = (C L σ).bind fun c => if c.1 = true then (S L c.2).bind fun r => s_go r (s_wh C S n) else some (.inr (L, c.2)) := rfl
/-- a loop that counts: from state i0 to state n -/
theorem wh_cnt {C : sCd} {S : sStm} (st : Nat → List Value × sSt) (n : Nat) (hE : C (st n).1 (st n).2 = some (false, (st n).2)) : ∀ (d i : Nat), i + d = n → (∀ j, i ≤ j → j < n → C (st j).1 (st j).2 = some (true, (st j).2) ∧ S (st j).1 (st j).2 = some (.inr (st (j + 1)))) → ∀ F, d < F → s_wh C S F (st i).1 (st i).2 = some (.inr (st n)) := by
  intro d
  induction d with
  | zero =>
    intro i hi hs F hF
    obtain ⟨F, rfl⟩ : ∃ F', F = F' + 1 := ⟨F - 1, by omega⟩
    rw [wh_step, show i = n by omega, hE]
    rfl
  | succ d ih =>
    intro i hi hs F hF
    obtain ⟨F, rfl⟩ : ∃ F', F = F' + 1 := ⟨F - 1, by omega⟩
    obtain ⟨h1, h2⟩ := hs i (Nat.le_refl _) (by omega)
    rw [wh_step, h1]
    show ((S (st i).1 (st i).2).bind fun r => s_go r (s_wh C S F)) = _
    rw [h2]
    exact ih (i + 1) (by omega) (fun j h3 h4 => hs j (by omega) h4) F (by omega)
theorem wh_up {C : sCd} {S : sStm} {L : List Value} {σ : sSt} (st : Nat → List Value × sSt) (i n : Nat) (h0 : (L, σ) = st i) (hi : i ≤ n) (hn : n < i + 100000000000) (hs : ∀ j, i ≤ j → j < n → C (st j).1 (st j).2 = some (true, (st j).2) ∧ S (st j).1 (st j).2 = some (.inr (st (j + 1)))) (hE : C (st n).1 (st n).2 = some (false, (st n).2)) : s_while C S L σ = some (.inr (st n)) := by
  have h := wh_cnt st n hE (n - i) i (by omega) hs s_FUEL (by unfold s_FUEL; omega)
  rw [← h0] at h
  exact h
/-- a loop that counts and returns in the midst, or goes to its end -/
theorem wh_ret {C : sCd} {S : sStm} (st : Nat → List Value × sSt) (n : Nat) (v : Option Value × sSt) (hE : C (st n).1 (st n).2 = some (true, (st n).2) ∧ S (st n).1 (st n).2 = some (.inl v)) : ∀ (d i : Nat), i + d = n → (∀ j, i ≤ j → j < n → C (st j).1 (st j).2 = some (true, (st j).2) ∧ S (st j).1 (st j).2 = some (.inr (st (j + 1)))) → ∀ F, d < F → s_wh C S F (st i).1 (st i).2 = some (.inl v) := by
  intro d
  induction d with
  | zero =>
    intro i hi hs F hF
    obtain ⟨F, rfl⟩ : ∃ F', F = F' + 1 := ⟨F - 1, by omega⟩
    rw [wh_step, show i = n by omega, hE.1]
    show ((S (st n).1 (st n).2).bind fun r => s_go r (s_wh C S F)) = _
    rw [hE.2]
    rfl
  | succ d ih =>
    intro i hi hs F hF
    obtain ⟨F, rfl⟩ : ∃ F', F = F' + 1 := ⟨F - 1, by omega⟩
    obtain ⟨h1, h2⟩ := hs i (Nat.le_refl _) (by omega)
    rw [wh_step, h1]
    show ((S (st i).1 (st i).2).bind fun r => s_go r (s_wh C S F)) = _
    rw [h2]
    exact ih (i + 1) (by omega) (fun j h3 h4 => hs j (by omega) h4) F (by omega)
theorem wh_out {C : sCd} {S : sStm} {L : List Value} {σ : sSt} (st : Nat → List Value × sSt) (i n : Nat) (v : Option Value × sSt) (h0 : (L, σ) = st i) (hi : i ≤ n) (hn : n < i + 100000000000) (hs : ∀ j, i ≤ j → j < n → C (st j).1 (st j).2 = some (true, (st j).2) ∧ S (st j).1 (st j).2 = some (.inr (st (j + 1)))) (hE : C (st n).1 (st n).2 = some (true, (st n).2) ∧ S (st n).1 (st n).2 = some (.inl v)) : s_while C S L σ = some (.inl v) := by
  have h := wh_ret st n v hE (n - i) i (by omega) hs s_FUEL (by unfold s_FUEL; omega)
  rw [← h0] at h
  exact h
/-- a loop by what holds at its head: a measure falls -/
theorem wh_I {C : sCd} {S : sStm} (I : List Value → sSt → Prop) (μ : List Value → sSt → Nat) (Q : sRes → Prop)
    (h : ∀ (L : List Value) (σ : sSt), I L σ → ∃ (b : Bool) (σ1 : sSt), C L σ = some (b, σ1) ∧ (b = false → Q (.inr (L, σ1))) ∧ (b = true → ∃ r, S L σ1 = some r ∧ ((∃ v, r = .inl v ∧ Q (.inl v)) ∨ ∃ L2 σ2, r = .inr (L2, σ2) ∧ I L2 σ2 ∧ μ L2 σ2 < μ L σ))) :
    ∀ (F : Nat) (L : List Value) (σ : sSt), I L σ → μ L σ < F → ∃ r, s_wh C S F L σ = some r ∧ Q r := by
  intro F
  induction F with
  | zero => intro L σ _ hF; exact absurd hF (Nat.not_lt_zero _)
  | succ F ih =>
    intro L σ hI hF
    obtain ⟨b, σ1, h1, h2, h3⟩ := h L σ hI
    rw [wh_step, h1]
    cases b with
    | false => exact ⟨_, rfl, h2 rfl⟩
    | true =>
      obtain ⟨r, h4, h5⟩ := h3 rfl
      show ∃ r', ((S L σ1).bind fun r => s_go r (s_wh C S F)) = some r' ∧ Q r'
      rw [h4]
      rcases h5 with ⟨v, rfl, hq⟩ | ⟨L2, σ2, rfl, hI2, hm⟩
      · exact ⟨_, rfl, hq⟩
      · exact ih L2 σ2 hI2 (by omega)
theorem wh_inv {C : sCd} {S : sStm} (I : List Value → sSt → Prop) (μ : List Value → sSt → Nat) (Q : sRes → Prop) {L : List Value} {σ : sSt} (h0 : I L σ) (hm : μ L σ < 1000000000000)
    (h : ∀ (L : List Value) (σ : sSt), I L σ → ∃ (b : Bool) (σ1 : sSt), C L σ = some (b, σ1) ∧ (b = false → Q (.inr (L, σ1))) ∧ (b = true → ∃ r, S L σ1 = some r ∧ ((∃ v, r = .inl v ∧ Q (.inl v)) ∨ ∃ L2 σ2, r = .inr (L2, σ2) ∧ I L2 σ2 ∧ μ L2 σ2 < μ L σ))) : ∃ r, s_while C S L σ = some r ∧ Q r := wh_I I μ Q h s_FUEL L σ h0 (by unfold s_FUEL; omega)
/-! methods -/
theorem m_eq {n : Nat} {body : sStm} {args : List Value} {σ : sSt} {r : Option Value × sSt} (hn : args.length = n) (hc : (args.all fun v => v.category == 1) = true) (h : body args σ = some (.inl r)) : m_of n body args σ = some r := by
  unfold m_of m_run
  rw [if_pos ⟨hn, hc⟩, h]
theorem mV_eq {ci n b : Nat} {body : sStm} {As fs : List Value} {σ : sSt} {r : Option Value × sSt} (hb : σ.1[b]? = some (.inl (ci, fs))) (hn : (Value.ref b :: As).length = n) (hc : ((Value.ref b :: As).all fun v => v.category == 1) = true) (h : body (.ref b :: As) σ = some (.inl r)) : m_ofV ci n body (.ref b :: As) σ = some r := by
  show ((h_obj σ (some b) ci).bind fun _ => m_of n body (.ref b :: As) σ) = _
  rw [h_obj_eq hb]
  exact m_eq hn hc h
theorem j_gt0 {a : Nat} (ha : a < 2 ^ 31) : i_gt (nI a) 0 = decide (0 < a) := j_gt (b := 0) ha (by omega)
theorem j_lt0 {a : Nat} (ha : a < 2 ^ 31) : i_lt (nI a) 0 = false := (j_lt (b := 0) ha (by omega)).trans (decide_eq_false (by omega))
theorem j_ge0 {a : Nat} (ha : a < 2 ^ 31) : i_ge (nI a) 0 = true := (j_ge (b := 0) ha (by omega)).trans (decide_eq_true (by omega))
theorem j_le0 {a : Nat} (ha : a < 2 ^ 31) : i_le (nI a) 0 = decide (a = 0) := (j_le (b := 0) ha (by omega)).trans (decide_eq_decide.mpr (by omega))
theorem j_eq0 {a : Nat} (ha : a < 2 ^ 31) : i_eq (nI a) 0 = decide (a = 0) := j_eq (b := 0) ha (by omega)
theorem j_ne0 {a : Nat} (ha : a < 2 ^ 31) : i_ne (nI a) 0 = decide (¬ a = 0) := j_ne (b := 0) ha (by omega)
theorem xs_retB {L : List Value} {σ : sSt} (C : sCd) : s_retZ (e_if C (e_k (nI 1)) (e_k (nI 0))) L σ = (C L σ).map (fun c => .inl (some (.int (zB c.1)), c.2)) := by
  unfold s_retZ e_if e_k
  cases C L σ with
  | none => rfl
  | some c =>
    obtain ⟨b, σ1⟩ := c
    cases b <;> rfl
theorem xB {L : List Value} {σ : sSt} (C : sCd) : e_if C (e_k (nI 1)) (e_k (nI 0)) L σ = (C L σ).map (fun c => (zB c.1, c.2)) := by
  show ((C L σ).bind fun c => if c.1 = true then some (nI 1, c.2) else some (nI 0, c.2)) = _
  cases C L σ with
  | none => rfl
  | some c =>
    obtain ⟨b, σ1⟩ := c
    cases b <;> rfl
theorem xs_retZ {L : List Value} {σ : sSt} (E : sEx Int32) {b : Bool} {σ1 : sSt} (h : E L σ = some (zB b, σ1)) : s_retZ E L σ = some (.inl (some (.int (zB b)), σ1)) := by
  show (E L σ).bind _ = _
  rw [h]
  show (if zB b = 0 ∨ zB b = 1 then _ else _) = _
  rw [if_pos (zB_01 b)]
theorem zB_ite2 (p : Prop) [Decidable p] {σ : sSt} : (if p then some (nI 1, σ) else some (nI 0, σ)) = some (zB (decide p), σ) := by
  by_cases h : p
  · rw [if_pos h, decide_eq_true h]; rfl
  · rw [if_neg h, decide_eq_false h]; rfl
theorem nI_m1 {n : Nat} (h : 0 < n) : nI n + (-1) = nI (n - 1) := sb_m1 h
/-! a step of a loop -/
theorem wh_T {C : sCd} {S : sStm} {F : Nat} {L L2 : List Value} {σ σ1 σ2 : sSt} (hC : C L σ = some (true, σ1)) (hS : S L σ1 = some (.inr (L2, σ2))) : s_wh C S (F + 1) L σ = s_wh C S F L2 σ2 := by
  rw [wh_step, hC]
  show ((S L σ1).bind fun r => s_go r (s_wh C S F)) = _
  rw [hS]
  rfl
theorem wh_F {C : sCd} {S : sStm} {F : Nat} {L : List Value} {σ σ1 : sSt} (hC : C L σ = some (false, σ1)) : s_wh C S (F + 1) L σ = some (.inr (L, σ1)) := by
  rw [wh_step, hC]
  rfl
theorem wh_R {C : sCd} {S : sStm} {F : Nat} {L : List Value} {σ σ1 : sSt} {v : Option Value × sSt} (hC : C L σ = some (true, σ1)) (hS : S L σ1 = some (.inl v)) : s_wh C S (F + 1) L σ = some (.inl v) := by
  rw [wh_step, hC]
  show ((S L σ1).bind fun r => s_go r (s_wh C S F)) = _
  rw [hS]
  rfl
theorem wh_fuel {C : sCd} {S : sStm} {L : List Value} {σ : sSt} {r : Option sRes} (k : Nat) (hk : k < 1000000000000) (h : ∀ F, k < F → s_wh C S F L σ = r) : s_while C S L σ = r := h s_FUEL (by unfold s_FUEL; omega)
