/-! NUMBERS (own work): least factors, lists of factors, exponents, common divisors, as both texts count them -/
/-- the least divisor from d on, k looked at -/
def lpS (n : Nat) : Nat → Nat → Nat
  | 0, d => d
  | k + 1, d => if n % d = 0 then d else lpS n k (d + 1)
/-- the least divisor above 1 of a number above 1; the number itself below 2 -/
def lp (n : Nat) : Nat := if n < 2 then n else lpS n n 2
theorem lpS_spec (n : Nat) : ∀ (k d : Nat), 2 ≤ d → d ≤ n → n ≤ d + k → lpS n k d ∣ n ∧ d ≤ lpS n k d ∧ lpS n k d ≤ n ∧ ∀ e, d ≤ e → e < lpS n k d → ¬ e ∣ n := by
  intro k
  induction k with
  | zero =>
    intro d h2 hd hn
    have e : d = n := by omega
    subst e
    exact ⟨Nat.dvd_refl _, Nat.le_refl _, Nat.le_refl _, fun e h1 h3 => absurd h3 (by show ¬ e < d; omega)⟩
  | succ k ih =>
    intro d h2 hd hn
    show (if n % d = 0 then d else lpS n k (d + 1)) ∣ n ∧ _ ≤ (if n % d = 0 then d else lpS n k (d + 1)) ∧ (if n % d = 0 then d else lpS n k (d + 1)) ≤ n ∧ ∀ e, d ≤ e → e < (if n % d = 0 then d else lpS n k (d + 1)) → ¬ e ∣ n
    by_cases hm : n % d = 0
    · rw [if_pos hm]
      exact ⟨Nat.dvd_of_mod_eq_zero hm, Nat.le_refl _, hd, fun e h1 h3 => absurd h3 (by omega)⟩
    · rw [if_neg hm]
      have hne : d ≠ n := fun e => hm (by rw [e]; exact Nat.mod_self n)
      obtain ⟨a1, a2, a3, a4⟩ := ih (d + 1) (by omega) (by omega) (by omega)
      refine ⟨a1, by omega, a3, fun e h1 h3 => ?_⟩
      by_cases he : e = d
      · subst he
        exact fun h => hm (Nat.mod_eq_zero_of_dvd h)
      · exact a4 e (by omega) h3
theorem lp_spec {n : Nat} (h : 2 ≤ n) : lp n ∣ n ∧ 2 ≤ lp n ∧ lp n ≤ n ∧ ∀ e, 2 ≤ e → e < lp n → ¬ e ∣ n := by
  unfold lp
  rw [if_neg (by omega)]
  exact lpS_spec n n 2 (Nat.le_refl _) h (by omega)
theorem lp_uniq {n p : Nat} (h : 2 ≤ n) (h1 : p ∣ n) (h2 : 2 ≤ p) (h3 : ∀ e, 2 ≤ e → e < p → ¬ e ∣ n) : lp n = p := by
  obtain ⟨a1, a2, a3, a4⟩ := lp_spec h
  rcases Nat.lt_trichotomy (lp n) p with q | q | q
  · exact absurd a1 (h3 _ a2 q)
  · exact q
  · exact absurd h1 (a4 _ h2 q)
theorem lp_1 : lp 1 = 1 := rfl
theorem lp_0 : lp 0 = 0 := rfl
/-- a prime -/
def isPr (p : Nat) : Prop := 2 ≤ p ∧ ∀ e, 2 ≤ e → e < p → ¬ e ∣ p
theorem lp_pr {n : Nat} (h : 2 ≤ n) : isPr (lp n) := by
  obtain ⟨a1, a2, a3, a4⟩ := lp_spec h
  exact ⟨a2, fun e h1 h2 h3 => a4 e h1 h2 (Nat.dvd_trans h3 a1)⟩
theorem isPr_lp {p : Nat} (h : isPr p) : lp p = p := lp_uniq h.1 (Nat.dvd_refl _) h.1 h.2
theorem lp_isPr {p : Nat} (h : 2 ≤ p) (e : lp p = p) : isPr p := by rw [← e]; exact lp_pr h
/-- where no divisor is found up to the root, there is none -/
theorem lp_root {n d : Nat} (h : 2 ≤ n) (hd : n < d * d) (hno : ∀ e, 2 ≤ e → e < d → ¬ e ∣ n) : lp n = n := by
  obtain ⟨a1, a2, a3, a4⟩ := lp_spec h
  have h1 : d ≤ lp n := by
    rcases Nat.lt_or_ge (lp n) d with q | q
    · exact absurd a1 (hno _ a2 q)
    · exact q
  obtain ⟨m, hm⟩ := a1
  rcases Nat.lt_or_ge m 2 with q | q
  · have : m = 1 := by
      rcases Nat.lt_or_ge m 1 with z | z
      · have : m = 0 := by omega
        rw [this, Nat.mul_zero] at hm
        omega
      · omega
    rw [this, Nat.mul_one] at hm
    exact hm.symm
  · have h2 : m ∣ n := ⟨lp n, by rw [Nat.mul_comm]; exact hm⟩
    have h3 : d ≤ m := by
      rcases Nat.lt_or_ge m d with z | z
      · exact absurd h2 (hno _ q z)
      · exact z
    have h4 := Nat.mul_le_mul h1 h3
    omega
theorem lp_div_lt {n : Nat} (h : 2 ≤ n) : n / lp n < n := Nat.div_lt_self (by omega) (lp_spec h).2.1
theorem lp_div_pos {n : Nat} (h : 2 ≤ n) : 1 ≤ n / lp n := Nat.div_pos (lp_spec h).2.2.1 (by have := (lp_spec h).2.1; omega)
/-- the prime factors from the least on, each as often as it is there -/
def fac (n : Nat) : List Nat := if h : 2 ≤ n then lp n :: fac (n / lp n) else []
termination_by n
decreasing_by exact lp_div_lt h
theorem fac_s {n : Nat} (h : ¬ 2 ≤ n) : fac n = [] := by rw [fac, dif_neg h]
theorem fac_c {n : Nat} (h : 2 ≤ n) : fac n = lp n :: fac (n / lp n) := by rw [fac, dif_pos h]
theorem fac_len : ∀ (k n : Nat), n < 2 ^ k → (fac n).length ≤ k - 1 := by
  intro k
  induction k with
  | zero => intro n h; rw [fac_s (by omega)]; exact Nat.zero_le _
  | succ k ih =>
    intro n h
    by_cases h2 : 2 ≤ n
    · rw [fac_c h2, List.length_cons]
      have h3 : n / lp n < 2 ^ k := by
        have h4 := (lp_spec h2).2.1
        have h5 : n / lp n ≤ n / 2 := Nat.div_le_div_left h4 (by omega)
        have h6 : n / 2 < 2 ^ k := by rw [Nat.div_lt_iff_lt_mul (by omega)]; rw [Nat.pow_succ] at h; exact h
        omega
      have h7 := ih _ h3
      have h8 : k ≠ 0 := by intro e; subst e; simp at h; omega
      omega
    · rw [fac_s h2]; exact Nat.zero_le _
theorem fac_le13 {n : Nat} (h : n ≤ 9999) : (fac n).length ≤ 13 := fac_len 14 n (by omega)
/-- the rest when all of one prime is taken out -/
def wo (p n : Nat) : Nat := if h : 2 ≤ p ∧ 1 ≤ n ∧ n % p = 0 then wo p (n / p) else n
termination_by n
decreasing_by exact Nat.div_lt_self (by omega) (by omega)
def ex (p n : Nat) : Nat := if h : 2 ≤ p ∧ 1 ≤ n ∧ n % p = 0 then ex p (n / p) + 1 else 0
termination_by n
decreasing_by exact Nat.div_lt_self (by omega) (by omega)
theorem wo_c {p n : Nat} (h : 2 ≤ p ∧ 1 ≤ n ∧ n % p = 0) : wo p n = wo p (n / p) := by rw [wo, dif_pos h]
theorem wo_s {p n : Nat} (h : ¬ (2 ≤ p ∧ 1 ≤ n ∧ n % p = 0)) : wo p n = n := by rw [wo, dif_neg h]
theorem ex_c {p n : Nat} (h : 2 ≤ p ∧ 1 ≤ n ∧ n % p = 0) : ex p n = ex p (n / p) + 1 := by rw [ex, dif_pos h]
theorem ex_s {p n : Nat} (h : ¬ (2 ≤ p ∧ 1 ≤ n ∧ n % p = 0)) : ex p n = 0 := by rw [ex, dif_neg h]
theorem dvd_pos {p n : Nat} (h1 : 1 ≤ n) (h2 : n % p = 0) : 1 ≤ n / p := by
  have h : p ≤ n := Nat.le_of_dvd h1 (Nat.dvd_of_mod_eq_zero h2)
  rcases Nat.eq_zero_or_pos p with q | q
  · subst q; rw [Nat.mod_zero] at h2; omega
  · exact Nat.div_pos h q
theorem wo_pos {p : Nat} : ∀ (k n : Nat), n ≤ k → 1 ≤ n → 1 ≤ wo p n ∧ wo p n ≤ n := by
  intro k
  induction k with
  | zero => intro n h1 h2; omega
  | succ k ih =>
    intro n h1 h2
    by_cases h : 2 ≤ p ∧ 1 ≤ n ∧ n % p = 0
    · rw [wo_c h]
      have h3 := Nat.div_lt_self (n := n) (k := p) (by omega) (by omega)
      have h4 := ih (n / p) (by omega) (dvd_pos h2 h.2.2)
      omega
    · rw [wo_s h]; omega
theorem wo_lt {n : Nat} (h : 2 ≤ n) : wo (lp n) n < n := by
  obtain ⟨a1, a2, a3, a4⟩ := lp_spec h
  have hm := Nat.mod_eq_zero_of_dvd a1
  rw [wo_c ⟨a2, by omega, hm⟩]
  have h1 := wo_pos (p := lp n) (n / lp n) (n / lp n) (Nat.le_refl _) (lp_div_pos h)
  have h2 := lp_div_lt h
  omega
theorem ex_lt {p : Nat} : ∀ (k n : Nat), n < 2 ^ k → ex p n ≤ k - 1 := by
  intro k
  induction k with
  | zero => intro n h; rw [ex_s (by omega)]; exact Nat.zero_le _
  | succ k ih =>
    intro n h
    by_cases h2 : 2 ≤ p ∧ 1 ≤ n ∧ n % p = 0
    · rw [ex_c h2]
      have h3 : n / p < 2 ^ k := by
        have h5 : n / p ≤ n / 2 := Nat.div_le_div_left h2.1 (by omega)
        have h6 : n / 2 < 2 ^ k := by rw [Nat.div_lt_iff_lt_mul (by omega)]; rw [Nat.pow_succ] at h; exact h
        omega
      have h7 := ih _ h3
      have h8 : k ≠ 0 := by
        intro e; subst e
        have := dvd_pos h2.2.1 h2.2.2
        rw [Nat.pow_zero] at h3
        omega
      omega
    · rw [ex_s h2]; exact Nat.zero_le _
theorem ex_le13 {p n : Nat} (h : n ≤ 9999) : ex p n ≤ 13 := ex_lt 14 n (by omega)
/-- the different prime factors from the least on -/
def dfac (n : Nat) : List Nat := if h : 2 ≤ n then lp n :: dfac (wo (lp n) n) else []
termination_by n
decreasing_by exact wo_lt h
theorem dfac_s {n : Nat} (h : ¬ 2 ≤ n) : dfac n = [] := by rw [dfac, dif_neg h]
theorem dfac_c {n : Nat} (h : 2 ≤ n) : dfac n = lp n :: dfac (wo (lp n) n) := by rw [dfac, dif_pos h]
theorem dfac_len : ∀ (k n : Nat), n < 2 ^ k → (dfac n).length ≤ k - 1 := by
  intro k
  induction k with
  | zero => intro n h; rw [dfac_s (by omega)]; exact Nat.zero_le _
  | succ k ih =>
    intro n h
    by_cases h2 : 2 ≤ n
    · rw [dfac_c h2, List.length_cons]
      obtain ⟨a1, a2, a3, a4⟩ := lp_spec h2
      have hm := Nat.mod_eq_zero_of_dvd a1
      have h3 : wo (lp n) n < 2 ^ k := by
        rw [wo_c ⟨a2, by omega, hm⟩]
        have h9 := wo_pos (p := lp n) (n / lp n) (n / lp n) (Nat.le_refl _) (lp_div_pos h2)
        have h5 : n / lp n ≤ n / 2 := Nat.div_le_div_left a2 (by omega)
        have h6 : n / 2 < 2 ^ k := by rw [Nat.div_lt_iff_lt_mul (by omega)]; rw [Nat.pow_succ] at h; exact h
        omega
      have h7 := ih _ h3
      have h8 : k ≠ 0 := by intro e; subst e; simp at h; omega
      omega
    · rw [dfac_s h2]; exact Nat.zero_le _
theorem dfac_le13 {n : Nat} (h : n ≤ 9999) : (dfac n).length ≤ 13 := dfac_len 14 n (by omega)
/-- the common divisor told by factors -/
def cfac (x y : Nat) : Nat := if h : 2 ≤ x then (if y % lp x = 0 then cfac (x / lp x) (y / lp x) * lp x else cfac (x / lp x) y) else 1
termination_by x
decreasing_by
  · exact lp_div_lt h
  · exact lp_div_lt h
/-- rows of remainders are short -/
theorem gcd_half {x y : Nat} (hy : 0 < y) (hr : 0 < x % y) : 2 * (y % (x % y)) < y := by
  have h1 := Nat.mod_lt x hy
  have h2 := Nat.mod_lt y hr
  rcases Nat.lt_or_ge (2 * (x % y)) y with q | q
  · omega
  · have h3 : y % (x % y) < y - x % y + 1 ∧ (y = 2 * (x % y) → y % (x % y) = 0) := by
      refine ⟨?_, fun e => ?_⟩
      · rw [Nat.mod_eq_sub_mod (by omega)]
        exact Nat.lt_succ_of_le (Nat.mod_le _ _)
      · exact Nat.mod_eq_zero_of_dvd ⟨2, by omega⟩
    by_cases e : y = 2 * (x % y)
    · have := h3.2 e
      omega
    · omega
