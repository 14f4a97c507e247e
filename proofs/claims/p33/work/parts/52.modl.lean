/-! THE REFERENCE'S LOOKS (own work) -/
theorem kin_sym (S : tS) (i j : Nat) : kin S i j = kin S j i := by
  unfold kin
  rw [Nat.min_comm i j, Nat.max_comm i j]
  by_cases h : i = j
  · rw [if_pos h, if_pos h.symm]
  · have h' : ¬ j = i := fun e => h e.symm
    rw [if_neg h, if_neg h']
theorem kin_irr (S : tS) (i : Nat) : kin S i i = false := by unfold kin; rw [if_pos rfl]
theorem cnt_congr {P Q : Nat → Bool} : ∀ n, (∀ k, k < n → P k = Q k) → cnt P n = cnt Q n
  | 0, _ => rfl
  | n + 1, h => by rw [cnt_succ, cnt_succ, h n (Nat.lt_succ_self n), cnt_congr n (fun k hk => h k (by omega))]
theorem cnt_more {P : Nat → Bool} {m : Nat} : ∀ d, (∀ k, m ≤ k → k < m + d → P k = false) → cnt P (m + d) = cnt P m
  | 0, _ => rfl
  | d + 1, h => by
    rw [show m + (d + 1) = (m + d) + 1 by omega, cnt_succ, h (m + d) (by omega) (by omega), if_neg (by decide), Nat.add_zero]
    exact cnt_more d (fun k h1 h2 => h k h1 (by omega))
theorem sumN_congr {f g : Nat → Nat} : ∀ n, (∀ k, k < n → f k = g k) → sumN f n = sumN g n
  | 0, _ => rfl
  | n + 1, h => by
    show sumN f n + f n = sumN g n + g n
    rw [h n (Nat.lt_succ_self n), sumN_congr n (fun k hk => h k (by omega))]
theorem sumN_add (f g : Nat → Nat) : ∀ n, sumN (fun k => f k + g k) n = sumN f n + sumN g n
  | 0 => rfl
  | n + 1 => by
    show sumN (fun k => f k + g k) n + (f n + g n) = (sumN f n + f n) + (sumN g n + g n)
    rw [sumN_add f g n]
    omega
theorem cnt_sum (P : Nat → Bool) : ∀ n, cnt P n = sumN (fun k => if P k = true then 1 else 0) n
  | 0 => rfl
  | n + 1 => by
    rw [cnt_succ, cnt_sum P n]
    rfl
/-- each pair is seen from both sides -/
theorem pairs_two (K : Nat → Nat → Bool) (hs : ∀ i j, K i j = K j i) (hi : ∀ i, K i i = false) : ∀ n, sumN (fun k => cnt (K k) n) n = 2 * sumN (fun h => cnt (fun l => K l h) h) n
  | 0 => rfl
  | n + 1 => by
    have ih := pairs_two K hs hi n
    show sumN (fun k => cnt (K k) (n + 1)) n + cnt (K n) (n + 1) = 2 * (sumN (fun h => cnt (fun l => K l h) h) n + cnt (fun l => K l n) n)
    have e1 : sumN (fun k => cnt (K k) (n + 1)) n = sumN (fun k => cnt (K k) n) n + cnt (fun l => K l n) n := by
      rw [cnt_sum (fun l => K l n), ← sumN_add]
      exact sumN_congr n (fun k _ => cnt_succ (K k) n)
    have e2 : cnt (K n) (n + 1) = cnt (fun l => K l n) n := by
      rw [cnt_succ, hi n, if_neg (by decide), Nat.add_zero]
      exact cnt_congr n (fun k _ => hs n k)
    rw [e1, e2, ih]
    omega
theorem e_s2 {S : tS} (h0 : okS S) (x : Int32) : (i_ge x (nI 0) && i_le x (nI S.1.length - nI 2)) = s2B S x := by
  have hl := h0.1
  unfold s2B
  by_cases q : 1 < S.1.length
  · rw [j_leP (k := 1) (by omega) (by omega) q]
  · rcases i_two x with g | ⟨j, hj, rfl⟩
    · rw [show i_ge x (nI 0) = i_ge x 0 from rfl, (j_neg g (n := 0) (by omega)).1, Bool.false_and, Bool.false_and]
    · rw [j_lt hj (by omega), decide_eq_false (show ¬ j < S.1.length - 1 by omega)]
      have : i_le (nI j) (nI S.1.length - nI 2) = false := decide_eq_false (by
        rw [Int32.le_iff_toInt_le, pk_sub_toInt (by omega) (by omega), nI_toInt hj]
        omega)
      rw [this]
section
variable {σ : sSt} {M : tM} {S : tS}
def stlU (S : tS) (n : Nat) : Bool := decide (∀ i, i < n → sN S (i + 1) % sN S i = 0)
theorem stlU_succ (S : tS) (n : Nat) : stlU S (n + 1) = (stlU S n && decide (sN S (n + 1) % sN S n = 0)) := by
  unfold stlU
  rw [← Bool.decide_and]
  exact decide_eq_decide.mpr ⟨fun h => ⟨fun i hi => h i (by omega), h n (by omega)⟩, fun h i hi => by
    by_cases e : i = n
    · rw [e]; exact h.2
    · exact h.1 i (by omega)⟩
theorem ld_of (S : tS) (i j : Nat) : ld S i j = (decide (i < j) && decide (j - i ≤ S.2.2.1) && kin S i j) := by
  unfold ld obst
  by_cases h1 : j ≤ i
  · rw [if_pos h1, decide_eq_false (show ¬ i < j by omega)]; rfl
  · rw [if_neg h1, decide_eq_true (show i < j by omega)]
    by_cases h2 : S.2.2.1 < j - i
    · rw [if_pos h2, decide_eq_false (show ¬ j - i ≤ S.2.2.1 by omega)]; rfl
    · rw [if_neg h2, decide_eq_true (show j - i ≤ S.2.2.1 by omega)]
      cases kin S i j <;> rfl
end
