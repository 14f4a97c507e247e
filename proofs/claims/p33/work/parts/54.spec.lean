/-! WHAT THE CALLS ANSWER (own work): one picture for both texts. Steps with settings and accounts; states before; the snapshot; the pad; where deeds stopped -/
abbrev tV : Type := tS × List tS × Option tS × List Nat × Option (Int32 × Nat × Nat)
def nN (x : Int32) : Nat := x.toNatClampNeg
theorem nN_n {n : Nat} (h : n < 2 ^ 31) : nN (nI n) = n := nI_clamp h
def inB (x l m : Int32) : Bool := i_ge x l && i_le x m
def prI (x : Int32) : Bool := i_ge x (nI 0) && prB (nN x)
def pushH (h : List tS) (S : tS) : List tS := if h.length = 4 then h.tail ++ [S] else h ++ [S]
/-- a change: what was goes into the history -/
def chg (V : tV) (S : tS) : tV := (S, pushH V.2.1 V.1, V.2.2)
def wrap (V : tV) (r : Int32 × tS) : Int32 × tV := if i_lt r.1 0 = true then (r.1, V) else (r.1, chg V r.2)
def dAdd (S : tS) (x y : Int32) : Int32 × tS := if (inB x (nI 0) (nI S.1.length) && inB y (nI 1) (nI 9999)) = true then (if S.1.length = 12 then (-3, S) else (nI (S.1.length + 1), S.1.insertIdx (nN x) (nN y), S.2)) else (-1, S)
def dTake (S : tS) (x : Int32) : Int32 × tS := if stB S x = true then (nI (sN S (nN x)), S.1.eraseIdx (nN x), S.2) else (-1, S)
def dShare (S : tS) (x : Int32) : Int32 × tS := if s2B S x = true then (if 9999 < lcm2 (sN S (nN x)) (sN S (nN x + 1)) then (-3, S) else (nI (Nat.gcd (sN S (nN x)) (sN S (nN x + 1))), shr S (nN x))) else (-1, S)
def dDivide (S : tS) (x : Int32) : Int32 × tS := if s2B S x = true then (if sN S (nN x + 1) % sN S (nN x) = 0 then (nI (sN S (nN x + 1) / sN S (nN x)), spl S (nN x + 1) (sN S (nN x))) else (-2, S)) else (-1, S)
def dStrike (S : tS) (x y : Int32) : Int32 × tS := if (stB S x && prI y) = true then (if sN S (nN x) % nN y = 0 then (nI (sN S (nN x) / nN y), spl S (nN x) (nN y)) else (-2, S)) else (-1, S)
def dSet (S : tS) (x y : Int32) : Int32 × tS := if (i_eq x (nI 0) && inB y (nI 0) (nI 2)) = true then (nI S.2.1, S.1, nN y, S.2.2) else if (i_eq x (nI 1) && inB y (nI 1) (nI 4)) = true then (nI S.2.2.1, S.1, S.2.1, nN y, S.2.2.2) else (-1, S)
def dSettle (S : tS) : Int32 × tS := match sirF 13 S with | some r => (nI r.1, r.2) | none => (-3, S)
section
variable {σ : sSt} {M : tM}
theorem pushH_len {h : List tS} {S : tS} (hl : h.length ≤ 4) : (pushH h S).length = (if h.length = 4 then 4 else h.length + 1) := by
  unfold pushH
  by_cases h4 : h.length = 4
  · rw [if_pos h4, if_pos h4, List.length_append, List.length_tail, h4]; rfl
  · rw [if_neg h4, if_neg h4, List.length_append]; rfl
end
