/-! THE REFERENCE'S DEEDS (own work) -/
theorem getD_set {l : List Nat} {i x k y : Nat} (h : (l.set i x)[k]? = some y) : (k = i ∧ y = x) ∨ (k ≠ i ∧ l[k]? = some y) := by
  by_cases e : i = k
  · subst e
    have hl := (List.getElem?_eq_some_iff.mp h).1
    rw [List.length_set] at hl
    rw [List.getElem?_set_self hl] at h
    cases h
    exact Or.inl ⟨rfl, rfl⟩
  · rw [List.getElem?_set_ne e] at h
    exact Or.inr ⟨fun q => e q.symm, h⟩
theorem erase_set {l : List Nat} {i x : Nat} : (l.set i x).eraseIdx i = l.eraseIdx i := by
  apply List.ext_getElem?
  intro k
  rw [List.getElem?_eraseIdx, List.getElem?_eraseIdx]
  by_cases h : k < i
  · rw [if_pos h, if_pos h, List.getElem?_set_ne (by omega)]
  · rw [if_neg h, if_neg h, List.getElem?_set_ne (by omega)]
theorem ex_pr {p q : Nat} (hp : isPr p) (hq : isPr q) : ex p q = if p = q then 1 else 0 := by
  by_cases e : p = q
  · subst e
    have h1 : ex p (p * 1) = ex p 1 + 1 := ex_mulS hp.1 (Nat.le_refl 1)
    rw [Nat.mul_one, ex_1] at h1
    rw [if_pos rfl, h1]
  · rw [if_neg e]
    refine ex_s (fun z => ?_)
    exact e (pr_dvd hp hq (Nat.dvd_of_mod_eq_zero z.2.2))
section
variable {σ : sSt} {M : tM} {S : tS}
/-- a step divided, ahead of breaking -/
def splS (S : tS) (i d : Nat) : tS := (S.1.set i (sN S i / d), S.2.1, S.2.2.1, S.2.2.2.1, fun q => sCh S q + nI (ex q d))
end
