/-! THE REFERENCE'S CALLS that change its state (own work) -/
theorem inB_t {x : Int32} {l m : Nat} (hl : l < 2 ^ 31) (hm : m < 2 ^ 31) (h : inB x (nI l) (nI m) = true) : ∃ i, l ≤ i ∧ i ≤ m ∧ x = nI i := by
  unfold inB at h
  rw [Bool.and_eq_true] at h
  rcases i_two x with q | ⟨j, hj, rfl⟩
  · rw [show i_ge x (nI l) = false from (j_neg q hl).2.2.2.1] at h
    cases h.1
  · rw [j_ge hj hl, j_le hj hm, decide_eq_true_eq, decide_eq_true_eq] at h
    exact ⟨j, h.1, h.2, rfl⟩
theorem inB_n {i l m : Nat} (hi : i < 2 ^ 31) (hl : l < 2 ^ 31) (hm : m < 2 ^ 31) : inB (nI i) (nI l) (nI m) = (decide (l ≤ i) && decide (i ≤ m)) := by
  unfold inB
  rw [j_ge hi hl, j_le hi hm]
theorem prI_t {x : Int32} (h : prI x = true) : ∃ q, isPr q ∧ q ≤ 9999 ∧ x = nI q := by
  unfold prI at h
  rw [Bool.and_eq_true] at h
  rcases i_two x with q | ⟨j, hj, rfl⟩
  · rw [show i_ge x (nI 0) = i_ge x 0 from rfl, (j_neg q (n := 0) (by omega)).1] at h
    cases h.1
  · rw [nN_n hj] at h
    have := h.2
    unfold prB at this
    rw [decide_eq_true_eq] at this
    exact ⟨j, lp_isPr this.1 this.2.2, this.2.1, rfl⟩
theorem prB_t {q : Nat} (h : isPr q) (h9 : q ≤ 9999) : prB q = true := by
  unfold prB
  rw [decide_eq_true_eq]
  exact ⟨h.1, h9, isPr_lp h⟩
theorem wrap_no (V : tV) {v : Int32} {S : tS} (hv : i_lt v 0 = true) : wrap V (v, S) = (v, V) := by unfold wrap; exact if_pos hv
theorem wrap_yes (V : tV) {n : Nat} {S : tS} (hn : n < 2 ^ 31) : wrap V (nI n, S) = (nI n, chg V S) := by unfold wrap; exact if_neg (by rw [j_lt0 hn]; exact Bool.false_ne_true)
section
variable {σ : sSt} {M M1 : tM} {S : tS}
end
