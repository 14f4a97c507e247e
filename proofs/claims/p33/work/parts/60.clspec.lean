/-! CLIMBS, as numbers (own work): how many; the best one of a kind-/
def nx (o : Option Nat) : Int32 := match o with | none => -1 | some j => nI j
/-! THE WORLD OF Climbs: its object lies at 55 of the store, its rows behind it -/
abbrev tC : Type := (Nat → Int32) × (Nat → Nat → Int32)
def cF (I : Nat → Int32) : List Value := [.ref 56, .int (I 1), .int (I 2), .int (I 3), .int (I 4), .ref 57, .ref 58, .ref 59]
def cC (C : tC) : List sAC := [kO 1 (cF C.1), kI 12 (C.2 1), kI 12 (C.2 2), kI 12 (C.2 3), kI 12 (C.2 4)]
section
variable {σ : sSt} {C : tC}
end
