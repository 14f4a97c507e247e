/-! THE WORLD OF Pad (own work): its object lies at 51 of the store, its row behind it -/
def qF (I : Nat → Int32) : List Value := [.ref 52, .int (I 1), .int (I 2), .int (I 3), .int (I 4), .int (I 5), .int (I 6), .int (I 7), .int (I 8)]
def qC (C : tC) : List sAC := [kO 4 (qF C.1), kI 60 (C.2 1)]
def qp (σ : sSt) (C : tC) : sSt := (σ.1.take 51 ++ (qC C ++ σ.1.drop 53), σ.2)
section
variable {σ : sSt} {C : tC}
theorem qp_at {k : Nat} {c : sAC} (hσ : 65 ≤ σ.1.length) (h : (qC C)[k]? = some c) : (qp σ C).1[51 + k]? = some c := by
  have hk : k < 2 := (List.getElem?_eq_some_iff.mp h).1
  have e : (σ.1.take 51).length = 51 := by rw [List.length_take]; omega
  show (σ.1.take 51 ++ (qC C ++ σ.1.drop 53))[51 + k]? = _
  rw [List.getElem?_append_right (by omega), e, Nat.add_sub_cancel_left, List.getElem?_append_left hk, h]
theorem qp_out {i : Nat} (hσ : 65 ≤ σ.1.length) (hi : i < 51 ∨ 53 ≤ i) : (qp σ C).1[i]? = σ.1[i]? := by
  have e : (σ.1.take 51).length = 51 := by rw [List.length_take]; omega
  have e2 : (qC C).length = 2 := rfl
  show (σ.1.take 51 ++ (qC C ++ σ.1.drop 53))[i]? = _
  rcases hi with h | h
  · rw [List.getElem?_append_left (by omega), List.getElem?_take_of_lt h]
  · rw [List.getElem?_append_right (by omega), List.getElem?_append_right (by omega), List.getElem?_drop, e, e2]
    congr 1
    omega
theorem qp_of (hσ : 65 ≤ σ.1.length) (h : ∀ k, k < 2 → σ.1[51 + k]? = (qC C)[k]?) : σ = qp σ C := by
  refine Prod.ext (List.ext_getElem? fun i => ?_) rfl
  by_cases hi : i < 51 ∨ 53 ≤ i
  · exact (qp_out hσ hi).symm
  · have hk := h (i - 51) (by omega)
    rw [show 51 + (i - 51) = i by omega] at hk
    obtain ⟨c, hc⟩ : ∃ c, (qC C)[i - 51]? = some c := ⟨_, List.getElem?_eq_getElem (show i - 51 < 2 by omega)⟩
    have := qp_at (σ := σ) hσ hc
    rw [show 51 + (i - 51) = i by omega] at this
    rw [hk, this, hc]
theorem qp_o (hσ : 65 ≤ σ.1.length) : h_obj (qp σ C) (some 51) 4 = some (qF C.1) := h_obj_eq (qp_at (k := 0) hσ rfl)
end
/-- the pad as it lies -/
def PadQ (Q : tC) (p : List Nat) : Prop := p.length ≤ 60 ∧ Q.1 1 = nI p.length ∧ ∀ i, i < p.length → Q.2 1 i = nI (pc p i) ∧ 33 ≤ pc p i ∧ pc p i ≤ 126
section
variable {σ : sSt} {Q : tC} {p : List Nat}
end
