/-! THE REFERENCE'S step, count, ifDone, bestStrike (own work) -/
def rChips (S : tS) : Int32 := sumF (sCh S) PRS
def rKinds (S : tS) : Nat := PRS.countP (fun q => isPos (sCh S q))
def rStep (S : tS) (x v : Int32) : Int32 := if (stB S x && inB v (nI 0) (nI 7)) = true then (if v = nI 0 then nI (sN S (nN x)) else if v = nI 1 then nI (kinN S (nN x)) else if v = nI 2 then nI (findF S (nN x)) else if v = nI 3 then nI (rSize S (findF S (nN x))) else if v = nI 4 then nI (fac (sN S (nN x))).length else if v = nI 5 then nI (dfac (sN S (nN x))).length else if v = nI 6 then (if sN S (nN x) = 1 then -4 else nI (gpr (sN S (nN x)) 1)) else nI (cnt (ld S (nN x)) S.1.length)) else -1
def rCount (V : tV) (x : Int32) : Int32 := if x = nI 0 then nI V.1.1.length else if x = nI 1 then nI (pairsN V.1) else if x = nI 2 then nI (rFam V.1) else if x = nI 3 then nI (rGreat V.1) else if x = nI 4 then zB (stl V.1) else if x = nI 5 then rChips V.1 else if x = nI 6 then nI (rKinds V.1) else if x = nI 7 then V.1.2.2.2.1 else if x = nI 8 then nI (dpN V.1) else if x = nI 9 then nI (cnt (fun k => decide (sN V.1 k = 1)) V.1.1.length) else if x = nI 10 then nI V.1.2.1 else if x = nI 11 then nI V.1.2.2.1 else if x = nI 12 then nI V.2.2.2.1.length else if x = nI 13 then nI V.2.1.length else -1
section
variable {σ : sSt} {M : tM} {S : tS} {V : tV}
theorem sw_1 {b : Nat} {x : Int32} {f : Int32 → sStm} : s_sw (e_i 1) f [.ref b, .int x] σ = f x [.ref b, .int x] σ := rfl
theorem spl_ok {i d : Nat} (h : okS S) (hi : i < S.1.length) (hd : 1 ≤ d) (hdv : sN S i % d = 0) : okS (spl S i d) := by
  have b := sN_ok h i
  have q1 := dvd_pos b.1 hdv
  have q2 := Nat.div_le_self (sN S i) d
  unfold spl
  split
  · exact h.erase hi
  · exact h.set (i := i) (x := sN S i / d) q1 (by omega)
theorem pairsN_le (h : S.1.length ≤ 12) : pairsN S ≤ 144 := by
  have h1 := sumN_le (f := fun h => cnt (fun l => kin S l h) h) (c := 12) S.1.length (fun k hk => Nat.le_trans (cnt_le _ _) (by omega))
  have h2 := Nat.mul_le_mul_right 12 h
  exact Nat.le_trans h1 h2
end
