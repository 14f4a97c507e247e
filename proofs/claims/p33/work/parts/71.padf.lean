/-! Pad (own work): deeds, parts, the fault -/
def kn (c : Nat) : Int32 := if c = 115 then nI 0 else if c = 100 then nI 1 else if c = 107 then nI 2 else -1
section
variable {σ : sSt} {Q : tC} {p : List Nat}
end
