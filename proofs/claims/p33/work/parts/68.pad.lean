/-! TEXTS (own work): how a pad is read; the reference's way -/
def pc (p : List Nat) (i : Nat) : Nat := p.getD i 0
section
variable {σ : sSt} {M : tM} {p : List Nat}
end
