/-! THE REFERENCE'S NUMBERS (own work) -/
section
variable {σ : sSt}
/-- the factor at a place, as the reference answers it -/
def facI (n q : Nat) : Int32 := match (fac n)[q]? with | some p => nI p | none => -4
end
/-! the places of primes -/
theorem PRS_lt : ∀ {i j p q : Nat}, PRS[i]? = some p → PRS[j]? = some q → i < j → p < q := by
  have h : PRS.Pairwise (· < ·) := List.Pairwise.filter _ List.pairwise_lt_range
  intro i j p q hi hj hij
  obtain ⟨hi1, hi2⟩ := List.getElem?_eq_some_iff.mp hi
  obtain ⟨hj1, hj2⟩ := List.getElem?_eq_some_iff.mp hj
  have := List.pairwise_iff_getElem.mp h i j hi1 hj1 hij
  rw [hi2, hj2] at this
  exact this
theorem PRS_9 {i p : Nat} (h : PRS[i]? = some p) : isPr p ∧ 2 ≤ p ∧ p ≤ 9999 ∧ i < 1229 := by
  have h1 := mem_PRS.mp (List.mem_of_getElem? h)
  have h2 := (List.getElem?_eq_some_iff.mp h).1
  rw [PRS_len] at h2
  exact ⟨h1.1, h1.1.1, h1.2, h2⟩
section
variable {σ : sSt} {M : tM}
end
