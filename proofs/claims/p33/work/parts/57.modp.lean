/-! THE REFERENCE'S SMALL CALLS (own work) -/
def rFactor (S : tS) (x y : Int32) : Int32 := if (stB S x && i_ge y 0) = true then facI (sN S (nN x)) (nN y) else -1
def rCommon (S : tS) (x y z : Int32) : Int32 := if (stB S x && stB S y && inB z (nI 0) (nI 1)) = true then (if z = nI 0 then nI (Nat.gcd (sN S (nN x)) (sN S (nN y))) else nI (cfac (sN S (nN x)) (sN S (nN y)))) else -1
def rPrime (S : tS) (x y : Int32) : Int32 := if (prI x && inB y (nI 0) (nI 4)) = true then (if y = nI 0 then sCh S (nN x) else if y = nI 1 then came S (nN x) else if y = nI 2 then nI (sumN (fun k => ex (nN x) (sN S k)) S.1.length) else if y = nI 3 then nI (maxN (fun k => ex (nN x) (sN S k)) S.1.length) else nI (cnt (fun k => decide (sN S k % nN x = 0)) S.1.length)) else -1
def kinN (S : tS) (i : Nat) : Nat := cnt (kin S i) S.1.length
def crB (S : tS) : Nat → Option Nat
  | 0 => none
  | j + 1 => match crB S j with
    | none => some j
    | some b => if kinN S b < kinN S j ∨ (kinN S j = kinN S b ∧ sN S b < sN S j) then some j else some b
def oN (o : Option Nat) : Int32 := match o with | some b => nI b | none => -4
def rCrown (S : tS) : Int32 := oN (crB S S.1.length)
theorem exL_sum (q : Nat) : ∀ (l : List Nat) (n : Nat), n ≤ l.length → sumF (fun x => nI (ex q x)) (l.take n) = nI (sumN (fun k => ex q (l.getD k 1)) n)
  | l, 0, _ => by rw [List.take_zero]; rfl
  | l, n + 1, h => by
    have hx := List.getElem?_eq_getElem (l := l) (i := n) (by omega)
    rw [sumF_take hx, exL_sum q l n (by omega)]
    show nI _ + nI _ = nI (sumN (fun k => ex q (l.getD k 1)) n + ex q (l.getD n 1))
    rw [nI_add, List.getD_eq_getElem?_getD, hx]
    rfl
theorem came_sum (S : tS) (q : Nat) : came S q = sCh S q + nI (sumN (fun k => ex q (sN S k)) S.1.length) := by
  have := exL_sum q S.1 S.1.length (Nat.le_refl _)
  rw [List.take_of_length_le (Nat.le_refl _)] at this
  show sCh S q + sumF _ S.1 = _
  rw [this]
  rfl
theorem crB_lt {S : tS} : ∀ {n b : Nat}, crB S n = some b → b < n
  | 0, b, h => by cases h
  | n + 1, b, h => by
    unfold crB at h
    cases q : crB S n with
    | none => rw [q] at h; cases h; omega
    | some c =>
      rw [q] at h
      have := crB_lt q
      by_cases z : kinN S c < kinN S n ∨ (kinN S n = kinN S c ∧ sN S c < sN S n)
      · simp only [if_pos z] at h
        cases h; omega
      · simp only [if_neg z] at h
        cases h; omega
theorem crB_0n {S : tS} {j : Nat} (q : crB S j = none) : crB S (j + 1) = some j := by
  show (match crB S j with | none => some j | some b => if kinN S b < kinN S j ∨ (kinN S j = kinN S b ∧ sN S b < sN S j) then some j else some b) = _
  rw [q]
theorem crB_s {S : tS} {j b : Nat} (q : crB S j = some b) : crB S (j + 1) = if kinN S b < kinN S j ∨ (kinN S j = kinN S b ∧ sN S b < sN S j) then some j else some b := by
  show (match crB S j with | none => some j | some b => if kinN S b < kinN S j ∨ (kinN S j = kinN S b ∧ sN S b < sN S j) then some j else some b) = _
  rw [q]
section
variable {σ : sSt} {M : tM} {S : tS} {V : tV}
end
