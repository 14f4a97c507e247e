/-! CLIMBS, as numbers (own work): how many; the best one of a kind-/
def iI (x : Int) : Int32 := Int32.ofInt x
theorem iI_n (n : Nat) : iI n = nI n := Int32.ofInt_eq_ofNat
theorem iI_add (a b : Int) : iI a + iI b = iI (a + b) := (Int32.ofInt_add a b).symm
theorem iI_lt {a b : Int} (ha : -200000 ≤ a ∧ a ≤ 200000) (hb : -200000 ≤ b ∧ b ≤ 200000) : i_lt (iI a) (iI b) = decide (a < b) := decide_eq_decide.mpr (by
  rw [Int32.lt_iff_toInt_lt]
  unfold iI
  rw [Int32.toInt_ofInt_of_le (by omega) (by omega), Int32.toInt_ofInt_of_le (by omega) (by omega)])
theorem iI_gt {a b : Int} (ha : -200000 ≤ a ∧ a ≤ 200000) (hb : -200000 ≤ b ∧ b ≤ 200000) : i_gt (iI a) (iI b) = decide (b < a) := iI_lt hb ha
/-- how many climbs lead from one step to a higher one: told by adding up -/
def wayT (S : tS) (fr : Nat) : Nat → Nat → Nat
  | 0 => fun _ => 0
  | k + 1 => fun z => if z = k then (if k = fr then 1 else sumN (fun j => if fr ≤ j ∧ ld S j k = true then wayT S fr k j else 0) k) else wayT S fr k z
def way (S : tS) (fr k : Nat) : Nat := wayT S fr (k + 1) k
theorem wayT_lt (S : tS) (fr : Nat) : ∀ (d z : Nat), wayT S fr (z + 1 + d) z = way S fr z
  | 0, z => rfl
  | d + 1, z => by
    show (if z = z + 1 + d then _ else wayT S fr (z + 1 + d) z) = _
    rw [if_neg (by omega)]
    exact wayT_lt S fr d z
theorem way_eq (S : tS) (fr k : Nat) : way S fr k = if k = fr then 1 else sumN (fun j => if fr ≤ j ∧ ld S j k = true then way S fr j else 0) k := by
  show (if k = k then (if k = fr then 1 else sumN (fun j => if fr ≤ j ∧ ld S j k = true then wayT S fr k j else 0) k) else _) = _
  rw [if_pos rfl]
  by_cases e : k = fr
  · rw [if_pos e, if_pos e]
  · rw [if_neg e, if_neg e]
    refine sumN_congr k (fun j hj => ?_)
    have := wayT_lt S fr (k - (j + 1)) j
    rw [show j + 1 + (k - (j + 1)) = k by omega] at this
    rw [this]
theorem sumN_zero {f : Nat → Nat} : ∀ n, (∀ k, k < n → f k = 0) → sumN f n = 0
  | 0, _ => rfl
  | n + 1, h => by
    show sumN f n + f n = 0
    rw [sumN_zero n (fun k hk => h k (by omega)), h n (by omega)]
/-- told by going each: r more steps are to be tried from the step at -/
def gF (S : tS) (to : Nat) : Nat → Nat → Nat
  | 0, at_ => if at_ = to then 1 else 0
  | r + 1, at_ => gF S to r at_ + (if ld S at_ (to - r) = true then gF S to r (to - r) else 0)
/-- the best climb of a kind to a step, from each step: what comes next, what it is worth -/
def ownW (S : tS) (kind k : Nat) : Int := if kind = 0 then 1 else if kind = 1 then -1 else (sN S k : Int)
def better (t : Nat → Option Nat × Int) (o : Option Nat) (j : Nat) : Bool := match o with | none => true | some b => decide ((t b).2 < (t j).2)
def bnN (S : tS) (t : Nat → Option Nat × Int) (k : Nat) : Nat → Option Nat
  | 0 => none
  | m + 1 => if ((t (k + 1 + m)).1.isSome && ld S k (k + 1 + m) && better t (bnN S t k m) (k + 1 + m)) = true then some (k + 1 + m) else bnN S t k m
def valO (t : Nat → Option Nat × Int) (o : Option Nat) : Int := match o with | none => 0 | some b => (t b).2
def entS (S : tS) (kind to : Nat) (t : Nat → Option Nat × Int) (k : Nat) : Option Nat × Int := if k = to then (some to, ownW S kind k) else (bnN S t k (to - k), ownW S kind k + valO t (bnN S t k (to - k)))
def skT (S : tS) (kind to : Nat) : Nat → Nat → Option Nat × Int
  | 0 => fun _ => (none, 0)
  | d + 1 => fun z => if z + d = to then entS S kind to (skT S kind to d) z else skT S kind to d z
def sk (S : tS) (kind to k : Nat) : Option Nat × Int := skT S kind to (to - k + 1) k
theorem bnN_in {S : tS} {t : Nat → Option Nat × Int} {k : Nat} : ∀ {m b : Nat}, bnN S t k m = some b → k < b ∧ b ≤ k + m ∧ (t b).1.isSome = true ∧ ld S k b = true
  | 0, b, h => by cases h
  | m + 1, b, h => by
    unfold bnN at h
    by_cases c : ((t (k + 1 + m)).1.isSome && ld S k (k + 1 + m) && better t (bnN S t k m) (k + 1 + m)) = true
    · rw [if_pos c] at h
      cases h
      rw [Bool.and_eq_true, Bool.and_eq_true] at c
      exact ⟨by omega, by omega, c.1.1, c.1.2⟩
    · rw [if_neg c] at h
      obtain ⟨a1, a2, a3⟩ := bnN_in h
      exact ⟨a1, by omega, a3⟩
theorem bnN_congr {S : tS} {t u : Nat → Option Nat × Int} {k : Nat} : ∀ m, (∀ j, k < j → j ≤ k + m → t j = u j) → bnN S t k m = bnN S u k m
  | 0, _ => rfl
  | m + 1, h => by
    have ih := bnN_congr (S := S) m (fun j h1 h2 => h j h1 (by omega))
    have e1 := h (k + 1 + m) (by omega) (by omega)
    have e2 : better t (bnN S u k m) (k + 1 + m) = better u (bnN S u k m) (k + 1 + m) := by
      cases q : bnN S u k m with
      | none => rfl
      | some b =>
        have hb := bnN_in q
        show decide ((t b).2 < (t (k + 1 + m)).2) = decide ((u b).2 < (u (k + 1 + m)).2)
        rw [e1, h b hb.1 (by omega)]
    unfold bnN
    rw [ih, e1, e2]
theorem skT_in (S : tS) (kind to : Nat) : ∀ (d z : Nat), z ≤ to → skT S kind to (to - z + 1 + d) z = sk S kind to z
  | 0, z, _ => rfl
  | d + 1, z, h => by
    show (if z + (to - z + 1 + d) = to then _ else skT S kind to (to - z + 1 + d) z) = _
    rw [if_neg (by omega)]
    exact skT_in S kind to d z h
theorem sk_eq (S : tS) (kind to k : Nat) (hk : k ≤ to) : sk S kind to k = entS S kind to (sk S kind to) k := by
  show (if k + (to - k) = to then entS S kind to (skT S kind to (to - k)) k else _) = _
  rw [if_pos (by omega)]
  unfold entS
  by_cases e : k = to
  · rw [if_pos e, if_pos e]
  · rw [if_neg e, if_neg e]
    have hc : ∀ j, k < j → j ≤ k + (to - k) → skT S kind to (to - k) j = sk S kind to j := fun j h1 h2 => by
      have := skT_in S kind to (to - k - (to - j + 1)) j (by omega)
      rw [show to - j + 1 + (to - k - (to - j + 1)) = to - k by omega] at this
      exact this
    have e1 := bnN_congr (S := S) (t := skT S kind to (to - k)) (u := sk S kind to) (k := k) (to - k) hc
    rw [e1]
    cases q : bnN S (sk S kind to) k (to - k) with
    | none => rfl
    | some b =>
      have hb := bnN_in q
      show (some b, ownW S kind k + (skT S kind to (to - k) b).2) = (some b, ownW S kind k + (sk S kind to b).2)
      rw [hc b hb.1 hb.2.1]
theorem sk_to (S : tS) (kind to : Nat) : sk S kind to to = (some to, ownW S kind to) := by
  rw [sk_eq S kind to to (Nat.le_refl _)]
  exact if_pos rfl
theorem sk_up {S : tS} {kind to k : Nat} (hk : k < to) : sk S kind to k = (bnN S (sk S kind to) k (to - k), ownW S kind k + valO (sk S kind to) (bnN S (sk S kind to) k (to - k))) := by
  rw [sk_eq S kind to k (by omega)]
  exact if_neg (by omega)
theorem sk_next {S : tS} {kind to k j : Nat} (hk : k < to) (h : (sk S kind to k).1 = some j) : k < j ∧ j ≤ to ∧ (sk S kind to j).1.isSome = true ∧ ld S k j = true := by
  rw [sk_up hk] at h
  obtain ⟨a, b, c, d⟩ := bnN_in h
  exact ⟨a, by omega, c, d⟩
theorem ownW_in {S : tS} (h : okS S) (kind k : Nat) : -9999 ≤ ownW S kind k ∧ ownW S kind k ≤ 9999 := by
  have := sN_ok h k
  unfold ownW
  split
  · omega
  · split <;> omega
theorem sk_in {S : tS} (h : okS S) (kind to : Nat) : ∀ (d k : Nat), to - k ≤ d → k ≤ to → -(9999 * (d + 1) : Int) ≤ (sk S kind to k).2 ∧ (sk S kind to k).2 ≤ 9999 * (d + 1)
  | 0, k, h1, h2 => by
    have e : k = to := by omega
    subst e
    have := ownW_in h kind k
    rw [sk_to]
    show -(9999 * ((0 : Nat) + 1 : Int)) ≤ ownW S kind k ∧ ownW S kind k ≤ 9999 * ((0 : Nat) + 1 : Int)
    omega
  | d + 1, k, h1, h2 => by
    have ho := ownW_in h kind k
    by_cases e : k = to
    · subst e
      rw [sk_to]
      show -(9999 * (((d + 1 : Nat) : Int) + 1)) ≤ ownW S kind k ∧ ownW S kind k ≤ 9999 * (((d + 1 : Nat) : Int) + 1)
      omega
    · rw [sk_up (by omega)]
      cases q : bnN S (sk S kind to) k (to - k) with
      | none =>
        show -(9999 * (((d + 1 : Nat) : Int) + 1)) ≤ ownW S kind k + 0 ∧ ownW S kind k + 0 ≤ 9999 * (((d + 1 : Nat) : Int) + 1)
        omega
      | some b =>
        have hb := bnN_in q
        have ih := sk_in h kind to d b (by omega) (by omega)
        show -(9999 * (((d + 1 : Nat) : Int) + 1)) ≤ ownW S kind k + (sk S kind to b).2 ∧ ownW S kind k + (sk S kind to b).2 ≤ 9999 * (((d + 1 : Nat) : Int) + 1)
        omega
theorem sk_in12 {S : tS} (h : okS S) {kind to k : Nat} (ht : to < 12) (hk : k ≤ to) : -119988 ≤ (sk S kind to k).2 ∧ (sk S kind to k).2 ≤ 119988 := by
  have := sk_in h kind to 11 k (by omega) hk
  omega
/-- the steps of the best climb -/
def pth (S : tS) (kind to : Nat) : Nat → Nat → List Nat
  | 0, _ => []
  | n + 1, k => k :: (if k = to then [] else match (sk S kind to k).1 with | none => [] | some j => pth S kind to n j)
theorem pth_to (S : tS) (kind to n : Nat) : pth S kind to (n + 1) to = [to] := by
  show to :: (if to = to then [] else _) = _
  rw [if_pos rfl]
theorem pth_up {S : tS} {kind to n k j : Nat} (hk : k ≠ to) (h : (sk S kind to k).1 = some j) : pth S kind to (n + 1) k = k :: pth S kind to n j := by
  show k :: (if k = to then [] else match (sk S kind to k).1 with | none => [] | some j => pth S kind to n j) = _
  rw [if_neg hk, h]
theorem pth_facts {S : tS} {kind to : Nat} : ∀ (n k : Nat), k ≤ to → to - k < n → (sk S kind to k).1.isSome = true → 1 ≤ (pth S kind to n k).length ∧ (pth S kind to n k).length ≤ to - k + 1 ∧ (pth S kind to n k)[0]? = some k ∧ (∀ (i x : Nat), (pth S kind to n k)[i]? = some x → x ≤ to) ∧ (∀ (i x : Nat), (pth S kind to n k)[i]? = some x → i + 1 < (pth S kind to n k).length → x ≠ to ∧ (sk S kind to x).1 = (pth S kind to n k)[i + 1]?) ∧ (∀ (i x : Nat), (pth S kind to n k)[i]? = some x → i + 1 = (pth S kind to n k).length → x = to)
  | 0, k, _, h2, _ => absurd h2 (Nat.not_lt_zero _)
  | n + 1, k, h1, h2, h3 => by
    by_cases e : k = to
    · subst e
      rw [pth_to]
      refine ⟨Nat.le_refl 1, by show 1 ≤ _; omega, rfl, fun i x h => ?_, fun i x _ h => ?_, fun i x h hi => ?_⟩
      · have : i < 1 := (List.getElem?_eq_some_iff.mp h).1
        have : i = 0 := by omega
        subst this; cases h; exact Nat.le_refl _
      · exact absurd h (by show ¬ i + 1 < 1; omega)
      · have hi : i + 1 = 1 := hi
        have : i = 0 := by omega
        subst this; cases h; rfl
    · cases q : (sk S kind to k).1 with
      | none => rw [q] at h3; cases h3
      | some j =>
        obtain ⟨a1, a2, a3, a4⟩ := sk_next (by omega) q
        obtain ⟨b1, b2, b3, b4, b5, b6⟩ := pth_facts n j a2 (by omega) a3
        rw [pth_up e q, List.length_cons]
        refine ⟨by omega, by omega, rfl, fun i x h => ?_, fun i x h hi => ?_, fun i x h hi => ?_⟩
        · cases i with
          | zero => cases h; exact h1
          | succ i => exact b4 i x h
        · cases i with
          | zero =>
            cases h
            exact ⟨e, q.trans b3.symm⟩
          | succ i => exact b5 i x h (by omega)
        · cases i with
          | zero => omega
          | succ i => exact b6 i x h (by omega)
def isK (S : tS) (kind fr to : Nat) : Bool := (sk S kind to fr).1.isSome
def pthL (S : tS) (kind fr to : Nat) : List Nat := if isK S kind fr to = true then pth S kind to 12 fr else []
def gcdN (f : Nat → Nat) : Nat → Nat
  | 0 => 0
  | n + 1 => Nat.gcd (gcdN f n) (f n)
theorem gcdN_le {f : Nat → Nat} (h : ∀ k, 1 ≤ f k ∧ f k ≤ 9999) : ∀ n, gcdN f n ≤ 9999
  | 0 => Nat.zero_le _
  | n + 1 => by
    have := h n
    exact Nat.le_trans (Nat.le_of_dvd (by omega) (Nat.gcd_dvd_right _ _)) this.2
def nx (o : Option Nat) : Int32 := match o with | none => -1 | some j => nI j
def nx4 (o : Option Nat) : Int32 := match o with | none => -4 | some j => nI j
theorem nx_ne {o : Option Nat} (h : ∀ j, o = some j → j < 2 ^ 31) : i_ne (nx o) (-1) = o.isSome := by
  cases o with
  | none => decide
  | some j =>
    have := j_eqM (h j rfl)
    unfold i_eq at this
    unfold i_ne
    show decide (¬ nI j = -1) = true
    rw [decide_eq_false_iff_not] at this
    exact decide_eq_true this
theorem nx_eq {o : Option Nat} (h : ∀ j, o = some j → j < 2 ^ 31) : i_eq (nx o) (-1) = !o.isSome := by
  cases o with
  | none => decide
  | some j => exact j_eqM (h j rfl)
/-! THE WORLD OF Climbs: its object lies at 55 of the store, its rows behind it -/
abbrev tC : Type := (Nat → Int32) × (Nat → Nat → Int32)
def cF (I : Nat → Int32) : List Value := [.ref 56, .int (I 1), .int (I 2), .int (I 3), .int (I 4), .ref 57, .ref 58, .ref 59]
def cC (C : tC) : List sAC := [kO 1 (cF C.1), kI 12 (C.2 1), kI 12 (C.2 2), kI 12 (C.2 3), kI 12 (C.2 4)]
def cp (σ : sSt) (C : tC) : sSt := (σ.1.take 55 ++ (cC C ++ σ.1.drop 60), σ.2)
section
variable {σ : sSt} {C : tC}
theorem cp_at {k : Nat} {c : sAC} (hσ : 72 ≤ σ.1.length) (h : (cC C)[k]? = some c) : (cp σ C).1[55 + k]? = some c := by
  have hk : k < 5 := (List.getElem?_eq_some_iff.mp h).1
  have e : (σ.1.take 55).length = 55 := by rw [List.length_take]; omega
  show (σ.1.take 55 ++ (cC C ++ σ.1.drop 60))[55 + k]? = _
  rw [List.getElem?_append_right (by omega), e, Nat.add_sub_cancel_left, List.getElem?_append_left hk, h]
theorem cp_len (hσ : 72 ≤ σ.1.length) : (cp σ C).1.length = σ.1.length := by
  show (σ.1.take 55 ++ (cC C ++ σ.1.drop 60)).length = _
  have e2 : (cC C).length = 5 := rfl
  rw [List.length_append, List.length_append, List.length_take, List.length_drop, e2]
  omega
theorem cp_set {k : Nat} {c : sAC} (hσ : 72 ≤ σ.1.length) (hk : k < 5) : (cp σ C).1.set (55 + k) c = σ.1.take 55 ++ ((cC C).set k c ++ σ.1.drop 60) := by
  have e : (σ.1.take 55).length = 55 := by rw [List.length_take]; omega
  show (σ.1.take 55 ++ (cC C ++ σ.1.drop 60)).set (55 + k) c = _
  rw [List.set_append_right _ _ (by omega), e, Nat.add_sub_cancel_left, List.set_append_left _ _ hk]
theorem cp_out {i : Nat} (hσ : 72 ≤ σ.1.length) (hi : i < 55 ∨ 60 ≤ i) : (cp σ C).1[i]? = σ.1[i]? := by
  have e : (σ.1.take 55).length = 55 := by rw [List.length_take]; omega
  have e2 : (cC C).length = 5 := rfl
  show (σ.1.take 55 ++ (cC C ++ σ.1.drop 60))[i]? = _
  rcases hi with h | h
  · rw [List.getElem?_append_left (by omega), List.getElem?_take_of_lt h]
  · rw [List.getElem?_append_right (by omega), List.getElem?_append_right (by omega), List.getElem?_drop, e, e2]
    congr 1
    omega
theorem cp_of (hσ : 72 ≤ σ.1.length) (h : ∀ k, k < 5 → σ.1[55 + k]? = (cC C)[k]?) : σ = cp σ C := by
  refine Prod.ext (List.ext_getElem? fun i => ?_) rfl
  by_cases hi : i < 55 ∨ 60 ≤ i
  · exact (cp_out hσ hi).symm
  · have hk := h (i - 55) (by omega)
    rw [show 55 + (i - 55) = i by omega] at hk
    obtain ⟨c, hc⟩ : ∃ c, (cC C)[i - 55]? = some c := ⟨_, List.getElem?_eq_getElem (show i - 55 < 5 by omega)⟩
    have := cp_at (σ := σ) hσ hc
    rw [show 55 + (i - 55) = i by omega] at this
    rw [hk, this, hc]
theorem cp_keep (hσ : 72 ≤ σ.1.length) : Keep σ (cp σ C) (fun k => 55 ≤ k ∧ k < 60) := ⟨by rw [cp_len hσ]; exact Nat.le_refl _, fun i _ hF => cp_out hσ (by omega)⟩
theorem cp_StO {a : Nat} {S : tS} (hσ : 72 ≤ σ.1.length) (h : StO σ a S) (ha : a < 54) : StO (cp σ C) a S := h.keep (cp_keep hσ) ⟨by omega, by omega⟩
theorem cp_o (hσ : 72 ≤ σ.1.length) : h_obj (cp σ C) (some 55) 1 = some (cF C.1) := h_obj_eq (cp_at (k := 0) hσ rfl)
theorem cF_len {I : Nat → Int32} : (cF I).length = 8 := rfl
theorem cp_s0 (hσ : 72 ≤ σ.1.length) {I : Nat → Int32} : ((cp σ C).1.set 55 (.inl (1, cF I)), (cp σ C).2) = cp σ (I, C.2) := by
  show ((cp σ C).1.set (55 + 0) _, σ.2) = _
  rw [cp_set hσ (by omega)]
  rfl
theorem cp_s1 (hσ : 72 ≤ σ.1.length) {f : Nat → Int32} : ((cp σ C).1.set 56 (.inr (.inl (12, f))), (cp σ C).2) = cp σ (C.1, uN C.2 1 f) := by
  show ((cp σ C).1.set (55 + 1) _, σ.2) = _
  rw [cp_set hσ (by omega)]
  rfl
theorem c_at1 (hσ : 72 ≤ σ.1.length) {j : Nat} (hj : j < 12) : M_X5_at [.ref 56, .int (nI j)] (cp σ C) = some (some (.int (C.2 1 j)), cp σ C) := by
  have := f_at (cp_at (k := 1) (C := C) hσ rfl) (show 12 < 2 ^ 31 by omega) (show j < 2 ^ 31 by omega)
  rw [if_pos hj] at this
  exact this
theorem c_put1 (hσ : 72 ≤ σ.1.length) {j : Nat} (hj : j < 12) (v : Int32) : M_X5_put [.ref 56, .int (nI j), .int v] (cp σ C) = some (none, cp σ (C.1, uN C.2 1 (upd (C.2 1) j v))) := by
  rw [← cp_s1 hσ]
  exact f_put (cp_at (k := 1) (C := C) hσ rfl) (show 12 < 2 ^ 31 by omega) hj v
theorem cp_s2 (hσ : 72 ≤ σ.1.length) {f : Nat → Int32} : ((cp σ C).1.set 57 (.inr (.inl (12, f))), (cp σ C).2) = cp σ (C.1, uN C.2 2 f) := by
  show ((cp σ C).1.set (55 + 2) _, σ.2) = _
  rw [cp_set hσ (by omega)]
  rfl
theorem c_at2 (hσ : 72 ≤ σ.1.length) {j : Nat} (hj : j < 12) : M_X5_at [.ref 57, .int (nI j)] (cp σ C) = some (some (.int (C.2 2 j)), cp σ C) := by
  have := f_at (cp_at (k := 2) (C := C) hσ rfl) (show 12 < 2 ^ 31 by omega) (show j < 2 ^ 31 by omega)
  rw [if_pos hj] at this
  exact this
theorem c_put2 (hσ : 72 ≤ σ.1.length) {j : Nat} (hj : j < 12) (v : Int32) : M_X5_put [.ref 57, .int (nI j), .int v] (cp σ C) = some (none, cp σ (C.1, uN C.2 2 (upd (C.2 2) j v))) := by
  rw [← cp_s2 hσ]
  exact f_put (cp_at (k := 2) (C := C) hσ rfl) (show 12 < 2 ^ 31 by omega) hj v
theorem cp_s3 (hσ : 72 ≤ σ.1.length) {f : Nat → Int32} : ((cp σ C).1.set 58 (.inr (.inl (12, f))), (cp σ C).2) = cp σ (C.1, uN C.2 3 f) := by
  show ((cp σ C).1.set (55 + 3) _, σ.2) = _
  rw [cp_set hσ (by omega)]
  rfl
theorem c_at3 (hσ : 72 ≤ σ.1.length) {j : Nat} (hj : j < 12) : M_X5_at [.ref 58, .int (nI j)] (cp σ C) = some (some (.int (C.2 3 j)), cp σ C) := by
  have := f_at (cp_at (k := 3) (C := C) hσ rfl) (show 12 < 2 ^ 31 by omega) (show j < 2 ^ 31 by omega)
  rw [if_pos hj] at this
  exact this
theorem c_put3 (hσ : 72 ≤ σ.1.length) {j : Nat} (hj : j < 12) (v : Int32) : M_X5_put [.ref 58, .int (nI j), .int v] (cp σ C) = some (none, cp σ (C.1, uN C.2 3 (upd (C.2 3) j v))) := by
  rw [← cp_s3 hσ]
  exact f_put (cp_at (k := 3) (C := C) hσ rfl) (show 12 < 2 ^ 31 by omega) hj v
theorem cp_s4 (hσ : 72 ≤ σ.1.length) {f : Nat → Int32} : ((cp σ C).1.set 59 (.inr (.inl (12, f))), (cp σ C).2) = cp σ (C.1, uN C.2 4 f) := by
  show ((cp σ C).1.set (55 + 4) _, σ.2) = _
  rw [cp_set hσ (by omega)]
  rfl
theorem c_at4 (hσ : 72 ≤ σ.1.length) {j : Nat} (hj : j < 12) : M_X5_at [.ref 59, .int (nI j)] (cp σ C) = some (some (.int (C.2 4 j)), cp σ C) := by
  have := f_at (cp_at (k := 4) (C := C) hσ rfl) (show 12 < 2 ^ 31 by omega) (show j < 2 ^ 31 by omega)
  rw [if_pos hj] at this
  exact this
theorem c_put4 (hσ : 72 ≤ σ.1.length) {j : Nat} (hj : j < 12) (v : Int32) : M_X5_put [.ref 59, .int (nI j), .int v] (cp σ C) = some (none, cp σ (C.1, uN C.2 4 (upd (C.2 4) j v))) := by
  rw [← cp_s4 hσ]
  exact f_put (cp_at (k := 4) (C := C) hσ rfl) (show 12 < 2 ^ 31 by omega) hj v
theorem cg0 {I : Nat → Int32} : (cF I)[0]? = some (.ref 56) := rfl
theorem cg1 {I : Nat → Int32} : (cF I)[1]? = some (.int (I 1)) := rfl
theorem cg2 {I : Nat → Int32} : (cF I)[2]? = some (.int (I 2)) := rfl
theorem cg3 {I : Nat → Int32} : (cF I)[3]? = some (.int (I 3)) := rfl
theorem cg4 {I : Nat → Int32} : (cF I)[4]? = some (.int (I 4)) := rfl
theorem cg5 {I : Nat → Int32} : (cF I)[5]? = some (.ref 57) := rfl
theorem cg6 {I : Nat → Int32} : (cF I)[6]? = some (.ref 58) := rfl
theorem cg7 {I : Nat → Int32} : (cF I)[7]? = some (.ref 59) := rfl
theorem cs1 {I : Nat → Int32} {v : Int32} : (cF I).set 1 (.int v) = cF (uN I 1 v) := rfl
theorem cs2 {I : Nat → Int32} {v : Int32} : (cF I).set 2 (.int v) = cF (uN I 2 v) := rfl
theorem cs3 {I : Nat → Int32} {v : Int32} : (cF I).set 3 (.int v) = cF (uN I 3 v) := rfl
theorem cs4 {I : Nat → Int32} {v : Int32} : (cF I).set 4 (.int v) = cF (uN I 4 v) := rfl
end
