/-! THE LAW'S WORLD (own work): its five rows lie at 60 to 64 of the store: numbers, settings, chips, what came, primes -/
def uN {α : Type} (F : Nat → α) (k : Nat) (v : α) : Nat → α := fun j => if j = k then v else F j
theorem uN_ap {α : Type} (F : Nat → α) (k : Nat) (v : α) (j : Nat) : uN F k v j = if j = k then v else F j := rfl
abbrev tM : Type := Nat → Nat → Int32
def mC (M : tM) : List sAC := [kI 12 (M 0), kI 4 (M 1), kI 25 (M 2), kI 25 (M 3), kI 25 (M 4)]
def mp (σ : sSt) (M : tM) : sSt := (σ.1.take 60 ++ (mC M ++ σ.1.drop 65), σ.2)
section
variable {σ : sSt} {M : tM}
theorem mp_at {k : Nat} {c : sAC} (hσ : 65 ≤ σ.1.length) (h : (mC M)[k]? = some c) : (mp σ M).1[60 + k]? = some c := by
  have hk : k < 5 := (List.getElem?_eq_some_iff.mp h).1
  have e : (σ.1.take 60).length = 60 := by rw [List.length_take]; omega
  show (σ.1.take 60 ++ (mC M ++ σ.1.drop 65))[60 + k]? = _
  rw [List.getElem?_append_right (by omega), e, Nat.add_sub_cancel_left, List.getElem?_append_left hk, h]
theorem mp_out {i : Nat} (hσ : 65 ≤ σ.1.length) (hi : i < 60 ∨ 65 ≤ i) : (mp σ M).1[i]? = σ.1[i]? := by
  have e : (σ.1.take 60).length = 60 := by rw [List.length_take]; omega
  have e2 : (mC M).length = 5 := rfl
  show (σ.1.take 60 ++ (mC M ++ σ.1.drop 65))[i]? = _
  rcases hi with h | h
  · rw [List.getElem?_append_left (by omega), List.getElem?_take_of_lt h]
  · rw [List.getElem?_append_right (by omega), List.getElem?_append_right (by omega), List.getElem?_drop, e, e2]
    congr 1
    omega
/-- a store that holds it is of this form -/
theorem mp_of (hσ : 65 ≤ σ.1.length) (h : ∀ k, k < 5 → σ.1[60 + k]? = (mC M)[k]?) : σ = mp σ M := by
  refine Prod.ext (List.ext_getElem? fun i => ?_) rfl
  by_cases hi : i < 60 ∨ 65 ≤ i
  · exact (mp_out hσ hi).symm
  · have hk := h (i - 60) (by omega)
    rw [show 60 + (i - 60) = i by omega] at hk
    obtain ⟨c, hc⟩ : ∃ c, (mC M)[i - 60]? = some c := ⟨_, List.getElem?_eq_getElem (show i - 60 < 5 by omega)⟩
    have := mp_at (σ := σ) hσ hc
    rw [show 60 + (i - 60) = i by omega] at this
    rw [hk, this, hc]
theorem mp_len (hσ : 65 ≤ σ.1.length) : (mp σ M).1.length = σ.1.length := by
  show (σ.1.take 60 ++ (mC M ++ σ.1.drop 65)).length = _
  have e2 : (mC M).length = 5 := rfl
  rw [List.length_append, List.length_append, List.length_take, List.length_drop, e2]
  omega
theorem mp_set {k : Nat} {c : sAC} (hσ : 65 ≤ σ.1.length) (hk : k < 5) : (mp σ M).1.set (60 + k) c = σ.1.take 60 ++ ((mC M).set k c ++ σ.1.drop 65) := by
  have e : (σ.1.take 60).length = 60 := by rw [List.length_take]; omega
  show (σ.1.take 60 ++ (mC M ++ σ.1.drop 65)).set (60 + k) c = _
  rw [List.set_append_right _ _ (by omega), e, Nat.add_sub_cancel_left, List.set_append_left _ _ hk]
theorem mp_a0 (hσ : 65 ≤ σ.1.length) : h_arr (mp σ M) (some 60) = some (12, M 0) := h_arr_eq (mp_at (k := 0) hσ rfl)
theorem mp_s0 (hσ : 65 ≤ σ.1.length) {f : Nat → Int32} : ((mp σ M).1.set 60 (.inr (.inl (12, f))), (mp σ M).2) = mp σ (uN M 0 f) := by
  show ((mp σ M).1.set (60 + 0) _, σ.2) = _
  rw [mp_set hσ (by omega)]
  rfl
theorem mp_a1 (hσ : 65 ≤ σ.1.length) : h_arr (mp σ M) (some 61) = some (4, M 1) := h_arr_eq (mp_at (k := 1) hσ rfl)
theorem mp_s1 (hσ : 65 ≤ σ.1.length) {f : Nat → Int32} : ((mp σ M).1.set 61 (.inr (.inl (4, f))), (mp σ M).2) = mp σ (uN M 1 f) := by
  show ((mp σ M).1.set (60 + 1) _, σ.2) = _
  rw [mp_set hσ (by omega)]
  rfl
theorem mp_a2 (hσ : 65 ≤ σ.1.length) : h_arr (mp σ M) (some 62) = some (25, M 2) := h_arr_eq (mp_at (k := 2) hσ rfl)
theorem mp_s2 (hσ : 65 ≤ σ.1.length) {f : Nat → Int32} : ((mp σ M).1.set 62 (.inr (.inl (25, f))), (mp σ M).2) = mp σ (uN M 2 f) := by
  show ((mp σ M).1.set (60 + 2) _, σ.2) = _
  rw [mp_set hσ (by omega)]
  rfl
theorem mp_a3 (hσ : 65 ≤ σ.1.length) : h_arr (mp σ M) (some 63) = some (25, M 3) := h_arr_eq (mp_at (k := 3) hσ rfl)
theorem mp_s3 (hσ : 65 ≤ σ.1.length) {f : Nat → Int32} : ((mp σ M).1.set 63 (.inr (.inl (25, f))), (mp σ M).2) = mp σ (uN M 3 f) := by
  show ((mp σ M).1.set (60 + 3) _, σ.2) = _
  rw [mp_set hσ (by omega)]
  rfl
theorem mp_a4 (hσ : 65 ≤ σ.1.length) : h_arr (mp σ M) (some 64) = some (25, M 4) := h_arr_eq (mp_at (k := 4) hσ rfl)
theorem mp_s4 (hσ : 65 ≤ σ.1.length) {f : Nat → Int32} : ((mp σ M).1.set 64 (.inr (.inl (25, f))), (mp σ M).2) = mp σ (uN M 4 f) := by
  show ((mp σ M).1.set (60 + 4) _, σ.2) = _
  rw [mp_set hσ (by omega)]
  rfl
end
/-- a row of the reference's that tells a state -/
def SRow (f : Nat → Int32) (S : tS) : Prop := okS S ∧ f 0 = nI S.2.1 ∧ f 1 = nI S.2.2.1 ∧ f 2 = nI S.1.length ∧ f 3 = S.2.2.2.1 ∧ (∀ i, i < S.1.length → f (4 + i) = nI (sN S i)) ∧ ∀ k q, PRS[k]? = some q → f (16 + k) = sCh S q
theorem j_leP {x : Int32} {n k : Nat} (hn : n < 2 ^ 30) (hk : k < 2 ^ 30) (h : k < n) : i_le x (nI n - nI (k + 1)) = i_lt x (nI (n - k)) := decide_eq_decide.mpr (by
  rw [Int32.le_iff_toInt_le, Int32.lt_iff_toInt_lt, pk_sub_toInt hn (by omega), nI_toInt (by omega)]
  omega)
/-- is it a step; is it one but the highest -/
def stB (S : tS) (x : Int32) : Bool := i_ge x (nI 0) && i_lt x (nI S.1.length)
def s2B (S : tS) (x : Int32) : Bool := i_ge x (nI 0) && i_lt x (nI (S.1.length - 1))
theorem j_in {x : Int32} {n : Nat} (hn : n < 2 ^ 31) (h : (i_ge x (nI 0) && i_lt x (nI n)) = true) : ∃ i, i < n ∧ x = nI i := by
  rcases i_two x with q | ⟨j, hj, rfl⟩
  · rw [show i_ge x (nI 0) = i_ge x 0 from rfl, (j_neg q hn).1] at h
    cases h
  · rw [j_lt hj hn, Bool.and_eq_true, decide_eq_true_eq] at h
    exact ⟨j, h.2, rfl⟩
theorem stB_t {S : tS} (h0 : okS S) {x : Int32} (h : stB S x = true) : ∃ i, i < S.1.length ∧ x = nI i := j_in (by have := h0.1; omega) h
theorem s2B_t {S : tS} (h0 : okS S) {x : Int32} (h : s2B S x = true) : ∃ i, i + 1 < S.1.length ∧ x = nI i := by
  obtain ⟨i, h1, h2⟩ := j_in (by have := h0.1; omega) h
  exact ⟨i, by omega, h2⟩
theorem s2B_n {S : tS} (h0 : okS S) {i : Nat} (hi : i < 2 ^ 31) : s2B S (nI i) = decide (i + 1 < S.1.length) := by
  have := h0.1
  unfold s2B
  rw [j_lt hi (by omega), j_ge (a := i) (b := 0) hi (by omega), decide_eq_true (Nat.zero_le i), Bool.true_and]
  exact decide_eq_decide.mpr (by omega)
/-! what a truth is that is returned -/
theorem xz_ret {L : List Value} {σ : sSt} (E : sEx Int32) : s_retZ E L σ = (E L σ).bind fun a => if a.1 = 0 ∨ a.1 = 1 then some (.inl (some (.int a.1), a.2)) else none := rfl
theorem n0_ne : i_ne (nI 0) 0 = false := by decide
theorem n1_ne : i_ne (nI 1) 0 = true := by decide
theorem zb_if {α : Type} (b : Bool) (x z : α) : (if zB b = 0 ∨ zB b = 1 then x else z) = x := if_pos (zB_01 b)
theorem n1_if {α : Type} (x z : α) : (if nI 1 = 0 ∨ nI 1 = 1 then x else z) = x := if_pos (Or.inr rfl)
theorem n0_if {α : Type} (x z : α) : (if nI 0 = 0 ∨ nI 0 = 1 then x else z) = x := if_pos (Or.inl rfl)
theorem SRow.congr {f g : Nat → Int32} {S : tS} (h : SRow f S) (e : ∀ z, z < 1245 → g z = f z) : SRow g S := by
  obtain ⟨h0, h1, h2, h3, h4, h5, h6⟩ := h
  have hl := h0.1
  exact ⟨h0, (e _ (by omega)).trans h1, (e _ (by omega)).trans h2, (e _ (by omega)).trans h3, (e _ (by omega)).trans h4, fun i hi => (e _ (by omega)).trans (h5 i hi), fun k q hk => (e _ (by have := (List.getElem?_eq_some_iff.mp hk).1; rw [PRS_len] at this; omega)).trans (h6 k q hk)⟩
theorem uN_uN {α : Type} (F : Nat → α) (k : Nat) (v w : α) : uN (uN F k v) k w = uN F k w := by
  funext j
  show (if j = k then w else (if j = k then v else F j)) = (if j = k then w else F j)
  by_cases h : j = k
  · rw [if_pos h, if_pos h]
  · rw [if_neg h, if_neg h, if_neg h]
theorem uN_self {α : Type} (F : Nat → α) (k : Nat) : uN F k (F k) = F := by
  funext j
  show (if j = k then F k else F j) = F j
  by_cases h : j = k
  · rw [if_pos h, h]
  · rw [if_neg h]
section
variable {σ : sSt} {M : tM} {S : tS}
end
