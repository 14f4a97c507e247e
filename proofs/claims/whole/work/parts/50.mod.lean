/-! THE REFERENCE'S WORLD (own work): its object lies at 60 of the store, its rows behind it -/
def uN {α : Type} (F : Nat → α) (k : Nat) (v : α) : Nat → α := fun j => if j = k then v else F j
theorem uN_ap {α : Type} (F : Nat → α) (k : Nat) (v : α) (j : Nat) : uN F k v j = if j = k then v else F j := rfl
/-- its numbers by the places of its fields; its rows by their places behind it -/
abbrev tM : Type := (Nat → Int32) × (Nat → Nat → Int32)
def mF (I : Nat → Int32) : List Value := [.ref 61, .ref 62, .ref 63, .ref 64, .ref 65, .int (I 5), .int (I 6), .int (I 7), .ref 66, .int (I 9), .int (I 10), .ref 67, .ref 68, .int (I 13), .int (I 14), .ref 69, .ref 70, .ref 71]
def mC (M : tM) : List sAC := [kO 7 (mF M.1), kI 1245 (M.2 1), kI 4980 (M.2 2), kI 1245 (M.2 3), kI 1245 (M.2 4), kI 1229 (M.2 5), kI 60 (M.2 6), kI 3 (M.2 7), kI 12 (M.2 8), kI 124 (M.2 9), kI 12 (M.2 10), kI 12 (M.2 11)]
def mp (σ : sSt) (M : tM) : sSt := (σ.1.take 60 ++ (mC M ++ σ.1.drop 72), σ.2)
section
variable {σ : sSt} {M : tM}
theorem mp_at {k : Nat} {c : sAC} (hσ : 72 ≤ σ.1.length) (h : (mC M)[k]? = some c) : (mp σ M).1[60 + k]? = some c := by
  have hk : k < 12 := (List.getElem?_eq_some_iff.mp h).1
  have e : (σ.1.take 60).length = 60 := by rw [List.length_take]; omega
  show (σ.1.take 60 ++ (mC M ++ σ.1.drop 72))[60 + k]? = _
  rw [List.getElem?_append_right (by omega), e, Nat.add_sub_cancel_left, List.getElem?_append_left hk, h]
theorem mp_len (hσ : 72 ≤ σ.1.length) : (mp σ M).1.length = σ.1.length := by
  show (σ.1.take 60 ++ (mC M ++ σ.1.drop 72)).length = _
  have e2 : (mC M).length = 12 := rfl
  rw [List.length_append, List.length_append, List.length_take, List.length_drop, e2]
  omega
theorem mp_set {k : Nat} {c : sAC} (hσ : 72 ≤ σ.1.length) (hk : k < 12) : (mp σ M).1.set (60 + k) c = σ.1.take 60 ++ ((mC M).set k c ++ σ.1.drop 72) := by
  have e : (σ.1.take 60).length = 60 := by rw [List.length_take]; omega
  show (σ.1.take 60 ++ (mC M ++ σ.1.drop 72)).set (60 + k) c = _
  rw [List.set_append_right _ _ (by omega), e, Nat.add_sub_cancel_left, List.set_append_left _ _ hk]
theorem mp_out {i : Nat} (hσ : 72 ≤ σ.1.length) (hi : i < 60 ∨ 72 ≤ i) : (mp σ M).1[i]? = σ.1[i]? := by
  have e : (σ.1.take 60).length = 60 := by rw [List.length_take]; omega
  have e2 : (mC M).length = 12 := rfl
  show (σ.1.take 60 ++ (mC M ++ σ.1.drop 72))[i]? = _
  rcases hi with h | h
  · rw [List.getElem?_append_left (by omega), List.getElem?_take_of_lt h]
  · rw [List.getElem?_append_right (by omega), List.getElem?_append_right (by omega), List.getElem?_drop, e, e2]
    congr 1
    omega
theorem mp_mp {M' : tM} (hσ : 72 ≤ σ.1.length) : mp (mp σ M) M' = mp σ M' := by
  have e2 : (mC M).length = 12 := rfl
  have e : (σ.1.take 60).length = 60 := by rw [List.length_take]; omega
  have h1 : (mp σ M).1.take 60 = σ.1.take 60 := by
    show (σ.1.take 60 ++ (mC M ++ σ.1.drop 72)).take 60 = _
    rw [List.take_append_of_le_length (by omega), List.take_of_length_le (by omega)]
  have h2 : (mp σ M).1.drop 72 = σ.1.drop 72 := by
    show (σ.1.take 60 ++ (mC M ++ σ.1.drop 72)).drop 72 = _
    rw [← List.append_assoc, List.drop_append_of_le_length (by rw [List.length_append]; omega), List.drop_of_length_le (by rw [List.length_append]; omega), List.nil_append]
  show ((mp σ M).1.take 60 ++ (mC M' ++ (mp σ M).1.drop 72), _) = _
  rw [h1, h2]
  rfl
/-- a store that holds it is of this form -/
theorem mp_of (hσ : 72 ≤ σ.1.length) (h : ∀ k, k < 12 → σ.1[60 + k]? = (mC M)[k]?) : σ = mp σ M := by
  refine Prod.ext (List.ext_getElem? fun i => ?_) rfl
  by_cases hi : i < 60 ∨ 72 ≤ i
  · exact (mp_out hσ hi).symm
  · have hk := h (i - 60) (by omega)
    rw [show 60 + (i - 60) = i by omega] at hk
    obtain ⟨c, hc⟩ : ∃ c, (mC M)[i - 60]? = some c := ⟨_, List.getElem?_eq_getElem (show i - 60 < 12 by omega)⟩
    have := mp_at (σ := σ) hσ hc
    rw [show 60 + (i - 60) = i by omega] at this
    rw [hk, this, hc]
theorem mp_o (hσ : 72 ≤ σ.1.length) : h_obj (mp σ M) (some 60) 7 = some (mF M.1) := h_obj_eq (mp_at (k := 0) hσ rfl)
theorem mF_len {I : Nat → Int32} : (mF I).length = 18 := rfl
theorem mp_a1 (hσ : 72 ≤ σ.1.length) : h_arr (mp σ M) (some 61) = some (1245, M.2 1) := h_arr_eq (mp_at (k := 1) hσ rfl)
theorem mp_a2 (hσ : 72 ≤ σ.1.length) : h_arr (mp σ M) (some 62) = some (4980, M.2 2) := h_arr_eq (mp_at (k := 2) hσ rfl)
theorem mp_a3 (hσ : 72 ≤ σ.1.length) : h_arr (mp σ M) (some 63) = some (1245, M.2 3) := h_arr_eq (mp_at (k := 3) hσ rfl)
theorem mp_a4 (hσ : 72 ≤ σ.1.length) : h_arr (mp σ M) (some 64) = some (1245, M.2 4) := h_arr_eq (mp_at (k := 4) hσ rfl)
theorem mp_a5 (hσ : 72 ≤ σ.1.length) : h_arr (mp σ M) (some 65) = some (1229, M.2 5) := h_arr_eq (mp_at (k := 5) hσ rfl)
theorem mp_a6 (hσ : 72 ≤ σ.1.length) : h_arr (mp σ M) (some 66) = some (60, M.2 6) := h_arr_eq (mp_at (k := 6) hσ rfl)
theorem mp_a7 (hσ : 72 ≤ σ.1.length) : h_arr (mp σ M) (some 67) = some (3, M.2 7) := h_arr_eq (mp_at (k := 7) hσ rfl)
theorem mp_a8 (hσ : 72 ≤ σ.1.length) : h_arr (mp σ M) (some 68) = some (12, M.2 8) := h_arr_eq (mp_at (k := 8) hσ rfl)
theorem mp_a9 (hσ : 72 ≤ σ.1.length) : h_arr (mp σ M) (some 69) = some (124, M.2 9) := h_arr_eq (mp_at (k := 9) hσ rfl)
theorem mp_a10 (hσ : 72 ≤ σ.1.length) : h_arr (mp σ M) (some 70) = some (12, M.2 10) := h_arr_eq (mp_at (k := 10) hσ rfl)
theorem mp_a11 (hσ : 72 ≤ σ.1.length) : h_arr (mp σ M) (some 71) = some (12, M.2 11) := h_arr_eq (mp_at (k := 11) hσ rfl)
theorem mp_s0 (hσ : 72 ≤ σ.1.length) {I : Nat → Int32} : ((mp σ M).1.set 60 (.inl (7, mF I)), (mp σ M).2) = mp σ (I, M.2) := by
  show ((mp σ M).1.set (60 + 0) _, σ.2) = _
  rw [mp_set hσ (by omega)]
  rfl
theorem mp_s1 (hσ : 72 ≤ σ.1.length) {f : Nat → Int32} : ((mp σ M).1.set 61 (.inr (.inl (1245, f))), (mp σ M).2) = mp σ (M.1, uN M.2 1 f) := by
  show ((mp σ M).1.set (60 + 1) _, σ.2) = _
  rw [mp_set hσ (by omega)]
  rfl
theorem mp_s2 (hσ : 72 ≤ σ.1.length) {f : Nat → Int32} : ((mp σ M).1.set 62 (.inr (.inl (4980, f))), (mp σ M).2) = mp σ (M.1, uN M.2 2 f) := by
  show ((mp σ M).1.set (60 + 2) _, σ.2) = _
  rw [mp_set hσ (by omega)]
  rfl
theorem mp_s3 (hσ : 72 ≤ σ.1.length) {f : Nat → Int32} : ((mp σ M).1.set 63 (.inr (.inl (1245, f))), (mp σ M).2) = mp σ (M.1, uN M.2 3 f) := by
  show ((mp σ M).1.set (60 + 3) _, σ.2) = _
  rw [mp_set hσ (by omega)]
  rfl
theorem mp_s4 (hσ : 72 ≤ σ.1.length) {f : Nat → Int32} : ((mp σ M).1.set 64 (.inr (.inl (1245, f))), (mp σ M).2) = mp σ (M.1, uN M.2 4 f) := by
  show ((mp σ M).1.set (60 + 4) _, σ.2) = _
  rw [mp_set hσ (by omega)]
  rfl
theorem mp_s5 (hσ : 72 ≤ σ.1.length) {f : Nat → Int32} : ((mp σ M).1.set 65 (.inr (.inl (1229, f))), (mp σ M).2) = mp σ (M.1, uN M.2 5 f) := by
  show ((mp σ M).1.set (60 + 5) _, σ.2) = _
  rw [mp_set hσ (by omega)]
  rfl
theorem mp_s6 (hσ : 72 ≤ σ.1.length) {f : Nat → Int32} : ((mp σ M).1.set 66 (.inr (.inl (60, f))), (mp σ M).2) = mp σ (M.1, uN M.2 6 f) := by
  show ((mp σ M).1.set (60 + 6) _, σ.2) = _
  rw [mp_set hσ (by omega)]
  rfl
theorem mp_s7 (hσ : 72 ≤ σ.1.length) {f : Nat → Int32} : ((mp σ M).1.set 67 (.inr (.inl (3, f))), (mp σ M).2) = mp σ (M.1, uN M.2 7 f) := by
  show ((mp σ M).1.set (60 + 7) _, σ.2) = _
  rw [mp_set hσ (by omega)]
  rfl
theorem mp_s8 (hσ : 72 ≤ σ.1.length) {f : Nat → Int32} : ((mp σ M).1.set 68 (.inr (.inl (12, f))), (mp σ M).2) = mp σ (M.1, uN M.2 8 f) := by
  show ((mp σ M).1.set (60 + 8) _, σ.2) = _
  rw [mp_set hσ (by omega)]
  rfl
theorem mp_s9 (hσ : 72 ≤ σ.1.length) {f : Nat → Int32} : ((mp σ M).1.set 69 (.inr (.inl (124, f))), (mp σ M).2) = mp σ (M.1, uN M.2 9 f) := by
  show ((mp σ M).1.set (60 + 9) _, σ.2) = _
  rw [mp_set hσ (by omega)]
  rfl
theorem mp_s10 (hσ : 72 ≤ σ.1.length) {f : Nat → Int32} : ((mp σ M).1.set 70 (.inr (.inl (12, f))), (mp σ M).2) = mp σ (M.1, uN M.2 10 f) := by
  show ((mp σ M).1.set (60 + 10) _, σ.2) = _
  rw [mp_set hσ (by omega)]
  rfl
theorem mp_s11 (hσ : 72 ≤ σ.1.length) {f : Nat → Int32} : ((mp σ M).1.set 71 (.inr (.inl (12, f))), (mp σ M).2) = mp σ (M.1, uN M.2 11 f) := by
  show ((mp σ M).1.set (60 + 11) _, σ.2) = _
  rw [mp_set hσ (by omega)]
  rfl
theorem mg0 {I : Nat → Int32} : (mF I)[0]? = some (.ref 61) := rfl
theorem mg1 {I : Nat → Int32} : (mF I)[1]? = some (.ref 62) := rfl
theorem mg2 {I : Nat → Int32} : (mF I)[2]? = some (.ref 63) := rfl
theorem mg3 {I : Nat → Int32} : (mF I)[3]? = some (.ref 64) := rfl
theorem mg4 {I : Nat → Int32} : (mF I)[4]? = some (.ref 65) := rfl
theorem mg5 {I : Nat → Int32} : (mF I)[5]? = some (.int (I 5)) := rfl
theorem mg6 {I : Nat → Int32} : (mF I)[6]? = some (.int (I 6)) := rfl
theorem mg7 {I : Nat → Int32} : (mF I)[7]? = some (.int (I 7)) := rfl
theorem mg8 {I : Nat → Int32} : (mF I)[8]? = some (.ref 66) := rfl
theorem mg9 {I : Nat → Int32} : (mF I)[9]? = some (.int (I 9)) := rfl
theorem mg10 {I : Nat → Int32} : (mF I)[10]? = some (.int (I 10)) := rfl
theorem mg11 {I : Nat → Int32} : (mF I)[11]? = some (.ref 67) := rfl
theorem mg12 {I : Nat → Int32} : (mF I)[12]? = some (.ref 68) := rfl
theorem mg13 {I : Nat → Int32} : (mF I)[13]? = some (.int (I 13)) := rfl
theorem mg14 {I : Nat → Int32} : (mF I)[14]? = some (.int (I 14)) := rfl
theorem mg15 {I : Nat → Int32} : (mF I)[15]? = some (.ref 69) := rfl
theorem mg16 {I : Nat → Int32} : (mF I)[16]? = some (.ref 70) := rfl
theorem mg17 {I : Nat → Int32} : (mF I)[17]? = some (.ref 71) := rfl
theorem ms5 {I : Nat → Int32} {v : Int32} : (mF I).set 5 (.int v) = mF (uN I 5 v) := rfl
theorem ms6 {I : Nat → Int32} {v : Int32} : (mF I).set 6 (.int v) = mF (uN I 6 v) := rfl
theorem ms7 {I : Nat → Int32} {v : Int32} : (mF I).set 7 (.int v) = mF (uN I 7 v) := rfl
theorem ms9 {I : Nat → Int32} {v : Int32} : (mF I).set 9 (.int v) = mF (uN I 9 v) := rfl
theorem ms10 {I : Nat → Int32} {v : Int32} : (mF I).set 10 (.int v) = mF (uN I 10 v) := rfl
theorem ms13 {I : Nat → Int32} {v : Int32} : (mF I).set 13 (.int v) = mF (uN I 13 v) := rfl
theorem ms14 {I : Nat → Int32} {v : Int32} : (mF I).set 14 (.int v) = mF (uN I 14 v) := rfl
end
/-- a row of the reference's that tells a state -/
def SRow (f : Nat → Int32) (S : tS) : Prop := okS S ∧ f 0 = nI S.2.1 ∧ f 1 = nI S.2.2.1 ∧ f 2 = nI S.1.length ∧ f 3 = S.2.2.2.1 ∧ (∀ i, i < S.1.length → f (4 + i) = nI (sN S i)) ∧ ∀ k q, PRS[k]? = some q → f (16 + k) = sCh S q
/-- the row of all primes -/
def PRow (f : Nat → Int32) : Prop := ∀ k q, PRS[k]? = some q → f k = nI q
theorem j_leP {x : Int32} {n k : Nat} (hn : n < 2 ^ 30) (hk : k < 2 ^ 30) (h : k < n) : i_le x (nI n - nI (k + 1)) = i_lt x (nI (n - k)) := decide_eq_decide.mpr (by
  rw [Int32.le_iff_toInt_le, Int32.lt_iff_toInt_lt, pk_sub_toInt hn (by omega), nI_toInt (by omega)]
  omega)
/-- is it a step; is it one but the highest -/
def stB (S : tS) (x : Int32) : Bool := i_ge x (nI 0) && i_lt x (nI S.1.length)
def s2B (S : tS) (x : Int32) : Bool := i_ge x (nI 0) && i_lt x (nI (S.1.length - 1))
theorem j_in {x : Int32} {n : Nat} (hn : n < 2 ^ 31) (h : (i_ge x (nI 0) && i_lt x (nI n)) = true) : ∃ i, i < n ∧ x = nI i := by
  rcases i_two x with q | ⟨j, hj, rfl⟩
  · rw [show i_ge x (nI 0) = i_ge x 0 from rfl, (j_neg q hn).1] at h
    cases h
  · rw [j_lt hj hn, Bool.and_eq_true, decide_eq_true_eq] at h
    exact ⟨j, h.2, rfl⟩
theorem stB_t {S : tS} (h0 : okS S) {x : Int32} (h : stB S x = true) : ∃ i, i < S.1.length ∧ x = nI i := j_in (by have := h0.1; omega) h
theorem s2B_t {S : tS} (h0 : okS S) {x : Int32} (h : s2B S x = true) : ∃ i, i + 1 < S.1.length ∧ x = nI i := by
  obtain ⟨i, h1, h2⟩ := j_in (by have := h0.1; omega) h
  exact ⟨i, by omega, h2⟩
theorem stB_n {S : tS} (h0 : okS S) {i : Nat} (hi : i < 2 ^ 31) : stB S (nI i) = decide (i < S.1.length) := by
  have := h0.1
  unfold stB
  rw [j_lt hi (by omega), j_ge (a := i) (b := 0) hi (by omega), decide_eq_true (Nat.zero_le i), Bool.true_and]
theorem s2B_n {S : tS} (h0 : okS S) {i : Nat} (hi : i < 2 ^ 31) : s2B S (nI i) = decide (i + 1 < S.1.length) := by
  have := h0.1
  unfold s2B
  rw [j_lt hi (by omega), j_ge (a := i) (b := 0) hi (by omega), decide_eq_true (Nat.zero_le i), Bool.true_and]
  exact decide_eq_decide.mpr (by omega)
/-! what a truth is that is returned -/
theorem xz_ret {L : List Value} {σ : sSt} (E : sEx Int32) : s_retZ E L σ = (E L σ).bind fun a => if a.1 = 0 ∨ a.1 = 1 then some (.inl (some (.int a.1), a.2)) else none := rfl
theorem n0_ne : i_ne (nI 0) 0 = false := by decide
theorem n1_ne : i_ne (nI 1) 0 = true := by decide
theorem zb_if {α : Type} (b : Bool) (x z : α) : (if zB b = 0 ∨ zB b = 1 then x else z) = x := if_pos (zB_01 b)
theorem n1_if {α : Type} (x z : α) : (if nI 1 = 0 ∨ nI 1 = 1 then x else z) = x := if_pos (Or.inr rfl)
theorem n0_if {α : Type} (x z : α) : (if nI 0 = 0 ∨ nI 0 = 1 then x else z) = x := if_pos (Or.inl rfl)
/-- the reference with another row of its state -/
def mS (M : tM) (f : Nat → Int32) : tM := (M.1, uN M.2 1 f)
theorem mS_mS (M : tM) (f g : Nat → Int32) : mS (mS M f) g = mS M g := by
  refine Prod.ext rfl (funext fun k => ?_)
  show (if k = 1 then g else (if k = 1 then f else M.2 k)) = (if k = 1 then g else M.2 k)
  by_cases h : k = 1
  · rw [if_pos h, if_pos h]
  · rw [if_neg h, if_neg h, if_neg h]
theorem mS_self (M : tM) : mS M (M.2 1) = M := by
  refine Prod.ext rfl (funext fun k => ?_)
  show (if k = 1 then M.2 1 else M.2 k) = M.2 k
  by_cases h : k = 1
  · rw [if_pos h, h]
  · rw [if_neg h]
theorem mS_1 (M : tM) (f : Nat → Int32) : (mS M f).2 1 = f := rfl
theorem mS_5 (M : tM) (f : Nat → Int32) : (mS M f).2 5 = M.2 5 := rfl
theorem mS_I (M : tM) (f : Nat → Int32) : (mS M f).1 = M.1 := rfl
theorem mS_up (M : tM) (f g : Nat → Int32) : ((M.1, uN (mS M f).2 1 g) : tM) = mS M g := mS_mS M f g
theorem mS_up2 (M : tM) (g : Nat → Int32) : ((M.1, uN M.2 1 g) : tM) = mS M g := rfl
theorem srow_mk {g : Nat → Int32} {S : tS} (h0 : okS S) (h1 : g 0 = nI S.2.1) (h2 : g 1 = nI S.2.2.1) (h3 : g 2 = nI S.1.length) (h4 : g 3 = S.2.2.2.1) (h5 : ∀ i x, S.1[i]? = some x → g (4 + i) = nI x) (h6 : ∀ k q, PRS[k]? = some q → g (16 + k) = sCh S q) : SRow g S := ⟨h0, h1, h2, h3, h4, fun i hi => h5 i _ (sN_in hi), h6⟩
theorem SRow.num {g : Nat → Int32} {S : tS} (h : SRow g S) {i x : Nat} (hi : S.1[i]? = some x) : g (4 + i) = nI x := by
  have hl := (List.getElem?_eq_some_iff.mp hi).1
  rw [h.2.2.2.2.2.1 i hl]
  rw [sN_in hl] at hi
  cases hi
  rfl
theorem SRow.congr {f g : Nat → Int32} {S : tS} (h : SRow f S) (e : ∀ z, z < 1245 → g z = f z) : SRow g S := by
  obtain ⟨h0, h1, h2, h3, h4, h5, h6⟩ := h
  have hl := h0.1
  exact ⟨h0, (e _ (by omega)).trans h1, (e _ (by omega)).trans h2, (e _ (by omega)).trans h3, (e _ (by omega)).trans h4, fun i hi => (e _ (by omega)).trans (h5 i hi), fun k q hk => (e _ (by have := (List.getElem?_eq_some_iff.mp hk).1; rw [PRS_len] at this; omega)).trans (h6 k q hk)⟩
theorem uN_uN {α : Type} (F : Nat → α) (k : Nat) (v w : α) : uN (uN F k v) k w = uN F k w := by
  funext j
  show (if j = k then w else (if j = k then v else F j)) = (if j = k then w else F j)
  by_cases h : j = k
  · rw [if_pos h, if_pos h]
  · rw [if_neg h, if_neg h, if_neg h]
theorem uN_self {α : Type} (F : Nat → α) (k : Nat) : uN F k (F k) = F := by
  funext j
  show (if j = k then F k else F j) = F j
  by_cases h : j = k
  · rw [if_pos h, h]
  · rw [if_neg h]
section
variable {σ : sSt} {M : tM} {S : tS}
theorem g_in (v l m : Int32) : M_X9_in [.int v, .int l, .int m] σ = some (some (.int (zB (i_ge v l && i_le v m))), σ) := by
  refine m_eq rfl rfl ?_
  unfold B_X9_in
  cases h : i_ge v l <;> simp only [x_k, x_i, x_r, x_nil, x_add, x_sub, x_mul, x_div, x_rem, x_get, x_getR, x_ald, x_aldR, x_len, x_lenR, x_if, xa_nil, xa_ci, xa_cr, x_callI, x_callR, x_new, x_newa, x_newq, x_max, x_min, xc_cmp, xc_cmp0, xc_null, xc_nn, xc_not, xc_and, xc_or, xc_if, xs_skip, xs_seq, xs_decI, xs_decR, xs_setI, xs_inc, xs_if, xs_blk, xs_retI, xs_retB, xs_retR, xs_retD, xs_ret0, xs_putI, xs_putZ, xs_putR, xs_putop, xs_ast, xs_astop, xs_astR, xs_callV, xs_callP, xs_super, xs_sw, s_go_inl, s_go_inr, s_cut_inl, s_cut_inr, o_void_n, v_i_int, v_i_none, v_r_ref, v_r_null, v_r_rf, h_set_some, o_some_s, zB_ne0, zB_ite, zB_ite2, g_Vn, g_Pi, nI_add, Option.bind_some, Option.map_some, Option.bind_none, Option.map_none, List.getElem?_cons_zero, List.getElem?_cons_succ, List.set_cons_zero, List.set_cons_succ, List.cons_append, List.nil_append, List.take_succ_cons, List.take_zero, List.length_cons, List.length_nil, Nat.zero_add, Nat.reduceAdd, Nat.reduceLT, if_true, if_false, Bool.false_eq_true, Bool.true_eq_false, decide_eq_true_eq, decide_true, decide_false, Bool.not_true, Bool.not_false, Option.isNone_none, Option.isNone_some, Option.isSome_none, Option.isSome_some, ite_true, ite_false, reduceIte, reduceCtorEq, and_true, true_and, eq_self, Option.some.injEq, Sum.inr.injEq, Sum.inl.injEq, Prod.mk.injEq, h, Bool.true_and, Bool.false_and]
theorem g_isStep (hσ : 72 ≤ σ.1.length) (h : SRow (M.2 1) S) (x : Int32) : M_X9_isStep [.ref 60, .int x] (mp σ M) = some (some (.int (zB (stB S x))), mp σ M) := by
  have hl := h.1.1
  refine mV_eq (mp_at (k := 0) hσ rfl) rfl rfl ?_
  unfold B_X9_isStep
  refine xs_retZ _ ?_
  simp (disch := omega) only [x_k, x_i, x_r, x_nil, x_add, x_sub, x_mul, x_div, x_rem, x_get, x_getR, x_ald, x_aldR, x_len, x_lenR, x_if, xa_nil, xa_ci, xa_cr, x_callI, x_callR, x_new, x_newa, x_newq, x_max, x_min, xc_cmp, xc_cmp0, xc_null, xc_nn, xc_not, xc_and, xc_or, xc_if, xs_skip, xs_seq, xs_decI, xs_decR, xs_setI, xs_inc, xs_if, xs_blk, xs_retI, xs_retB, xs_retR, xs_retD, xs_ret0, xs_putI, xs_putZ, xs_putR, xs_putop, xs_ast, xs_astop, xs_astR, xs_callV, xs_callP, xs_super, xs_sw, s_go_inl, s_go_inr, s_cut_inl, s_cut_inr, o_void_n, v_i_int, v_i_none, v_r_ref, v_r_null, v_r_rf, h_set_some, o_some_s, zB_ne0, zB_ite, zB_ite2, g_Vn, g_Pi, nI_add, Option.bind_some, Option.map_some, Option.bind_none, Option.map_none, List.getElem?_cons_zero, List.getElem?_cons_succ, List.set_cons_zero, List.set_cons_succ, List.cons_append, List.nil_append, List.take_succ_cons, List.take_zero, List.length_cons, List.length_nil, Nat.zero_add, Nat.reduceAdd, Nat.reduceLT, if_true, if_false, Bool.false_eq_true, Bool.true_eq_false, decide_eq_true_eq, decide_true, decide_false, Bool.not_true, Bool.not_false, Option.isNone_none, Option.isNone_some, Option.isSome_none, Option.isSome_some, ite_true, ite_false, reduceIte, reduceCtorEq, and_true, true_and, eq_self, Option.some.injEq, Sum.inr.injEq, Sum.inl.injEq, Prod.mk.injEq, Bool.decide_eq_true, n0_ne, n1_ne, xz_ret, zb_if, n1_if, n0_if, v_rf, h_ix_nI, nI_clamp, zB_t, zB_f, uN_uN, uN_ap, Nat.reduceEqDiff, Nat.reduceMul, Nat.reduceSub, mp_o hσ, mF_len, mp_a1 hσ, mp_a2 hσ, mp_a3 hσ, mp_a4 hσ, mp_a5 hσ, mp_a6 hσ, mp_a7 hσ, mp_a8 hσ, mp_a9 hσ, mp_a10 hσ, mp_a11 hσ, mp_s0 hσ, mp_s1 hσ, mp_s2 hσ, mp_s3 hσ, mp_s4 hσ, mp_s5 hσ, mp_s6 hσ, mp_s7 hσ, mp_s8 hσ, mp_s9 hσ, mp_s10 hσ, mp_s11 hσ, mg0, mg1, mg2, mg3, mg4, mg5, mg6, mg7, mg8, mg9, mg10, mg11, mg12, mg13, mg14, mg15, mg16, mg17, ms5, ms6, ms7, ms9, ms10, ms13, ms14, h.2.2.2.1, g_in]
  have e : (i_ge x (nI 0) && i_le x (nI S.1.length - nI 1)) = stB S x := by
    unfold stB
    by_cases q : 0 < S.1.length
    · rw [j_leP (k := 0) (by omega) (by omega) q]
      rfl
    · have z : S.1.length = 0 := by omega
      rw [z]
      rcases i_two x with q | ⟨j, hj, rfl⟩
      · rw [show i_ge x (nI 0) = i_ge x 0 from rfl, (j_neg q (n := 0) (by omega)).1]
        rfl
      · rw [j_lt hj (by omega), decide_eq_false (Nat.not_lt_zero j)]
        have : i_le (nI j) (nI 0 - nI 1) = false := decide_eq_false (by
          rw [Int32.le_iff_toInt_le, pk_sub_toInt (by omega) (by omega), nI_toInt hj]
          omega)
        rw [this]
  rw [e]
theorem g_of (hσ : 72 ≤ σ.1.length) (h : SRow (M.2 1) S) {i : Nat} (hi : i < S.1.length) : M_X9_of [.ref 60, .int (nI i)] (mp σ M) = some (some (.int (nI (sN S i))), mp σ M) := by
  have hl := h.1.1
  refine mV_eq (mp_at (k := 0) hσ rfl) rfl rfl ?_
  unfold B_X9_of
  simp (disch := omega) only [x_k, x_i, x_r, x_nil, x_add, x_sub, x_mul, x_div, x_rem, x_get, x_getR, x_ald, x_aldR, x_len, x_lenR, x_if, xa_nil, xa_ci, xa_cr, x_callI, x_callR, x_new, x_newa, x_newq, x_max, x_min, xc_cmp, xc_cmp0, xc_null, xc_nn, xc_not, xc_and, xc_or, xc_if, xs_skip, xs_seq, xs_decI, xs_decR, xs_setI, xs_inc, xs_if, xs_blk, xs_retI, xs_retB, xs_retR, xs_retD, xs_ret0, xs_putI, xs_putZ, xs_putR, xs_putop, xs_ast, xs_astop, xs_astR, xs_callV, xs_callP, xs_super, xs_sw, s_go_inl, s_go_inr, s_cut_inl, s_cut_inr, o_void_n, v_i_int, v_i_none, v_r_ref, v_r_null, v_r_rf, h_set_some, o_some_s, zB_ne0, zB_ite, zB_ite2, g_Vn, g_Pi, nI_add, Option.bind_some, Option.map_some, Option.bind_none, Option.map_none, List.getElem?_cons_zero, List.getElem?_cons_succ, List.set_cons_zero, List.set_cons_succ, List.cons_append, List.nil_append, List.take_succ_cons, List.take_zero, List.length_cons, List.length_nil, Nat.zero_add, Nat.reduceAdd, Nat.reduceLT, if_true, if_false, Bool.false_eq_true, Bool.true_eq_false, decide_eq_true_eq, decide_true, decide_false, Bool.not_true, Bool.not_false, Option.isNone_none, Option.isNone_some, Option.isSome_none, Option.isSome_some, ite_true, ite_false, reduceIte, reduceCtorEq, and_true, true_and, eq_self, Option.some.injEq, Sum.inr.injEq, Sum.inl.injEq, Prod.mk.injEq, Bool.decide_eq_true, n0_ne, n1_ne, xz_ret, zb_if, n1_if, n0_if, v_rf, h_ix_nI, nI_clamp, zB_t, zB_f, uN_uN, uN_ap, Nat.reduceEqDiff, Nat.reduceMul, Nat.reduceSub, mp_o hσ, mF_len, mp_a1 hσ, mp_a2 hσ, mp_a3 hσ, mp_a4 hσ, mp_a5 hσ, mp_a6 hσ, mp_a7 hσ, mp_a8 hσ, mp_a9 hσ, mp_a10 hσ, mp_a11 hσ, mp_s0 hσ, mp_s1 hσ, mp_s2 hσ, mp_s3 hσ, mp_s4 hσ, mp_s5 hσ, mp_s6 hσ, mp_s7 hσ, mp_s8 hσ, mp_s9 hσ, mp_s10 hσ, mp_s11 hσ, mg0, mg1, mg2, mg3, mg4, mg5, mg6, mg7, mg8, mg9, mg10, mg11, mg12, mg13, mg14, mg15, mg16, mg17, ms5, ms6, ms7, ms9, ms10, ms13, ms14, h.2.2.2.2.2.1 i hi]
end
