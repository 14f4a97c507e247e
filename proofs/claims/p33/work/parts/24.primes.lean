/-! PRIMES (own work): which divide, how many different ones there can be -/
theorem lp_le {n e : Nat} (h : 2 ≤ n) (h1 : 2 ≤ e) (h2 : e ∣ n) : lp n ≤ e := by
  rcases Nat.lt_or_ge e (lp n) with q | q
  · exact absurd h2 ((lp_spec h).2.2.2 e h1 q)
  · exact q
theorem pr_dvd {p q : Nat} (hp : isPr p) (hq : isPr q) (h : p ∣ q) : p = q := by
  rcases Nat.lt_or_ge p q with z | z
  · exact absurd h (hq.2 p hp.1 z)
  · have := Nat.le_of_dvd (by have := hq.1; omega) h
    omega
/-- Euclid's -/
theorem pr_mul {p a b : Nat} (hp : isPr p) (h : p ∣ a * b) : p ∣ a ∨ p ∣ b := by
  have h1 := Nat.gcd_dvd_left p a
  rcases Nat.lt_or_ge (Nat.gcd p a) 2 with z | z
  · have h3 : 0 < Nat.gcd p a := Nat.gcd_pos_of_pos_left a (by have := hp.1; omega)
    have hc : Nat.Coprime p a := by show Nat.gcd p a = 1; omega
    exact Or.inr (Nat.Coprime.dvd_of_dvd_mul_left hc h)
  · left
    have e1 : Nat.gcd p a = p := by
      rcases Nat.lt_or_ge (Nat.gcd p a) p with y | y
      · exact absurd h1 (hp.2 _ z y)
      · have := Nat.le_of_dvd (by have := hp.1; omega) h1
        omega
    rw [← e1]
    exact Nat.gcd_dvd_right p a
theorem wo_dvd {p : Nat} : ∀ (k n : Nat), n ≤ k → wo p n ∣ n := by
  intro k
  induction k with
  | zero =>
    intro n h
    rw [wo_s (by omega)]
    exact Nat.dvd_refl _
  | succ k ih =>
    intro n h
    by_cases hq : 2 ≤ p ∧ 1 ≤ n ∧ n % p = 0
    · rw [wo_c hq]
      exact Nat.dvd_trans (ih _ (by have := Nat.div_lt_self (n := n) (k := p) (by omega) (by omega); omega)) (Nat.div_dvd_of_dvd (Nat.dvd_of_mod_eq_zero hq.2.2))
    · rw [wo_s hq]
      exact Nat.dvd_refl _
theorem wo_no {p : Nat} (hp : 2 ≤ p) : ∀ (k n : Nat), n ≤ k → 1 ≤ n → ¬ p ∣ wo p n := by
  intro k
  induction k with
  | zero => intro n h h1; omega
  | succ k ih =>
    intro n h h1
    by_cases hq : 2 ≤ p ∧ 1 ≤ n ∧ n % p = 0
    · rw [wo_c hq]
      exact ih _ (by have := Nat.div_lt_self (n := n) (k := p) (by omega) (by omega); omega) (dvd_pos h1 hq.2.2)
    · rw [wo_s hq]
      exact fun hd => hq ⟨hp, h1, Nat.mod_eq_zero_of_dvd hd⟩
/-- another prime stays -/
theorem wo_oth {p q : Nat} (hp : isPr p) (hq : isPr q) (hpq : p ≠ q) : ∀ (k n : Nat), n ≤ k → 1 ≤ n → q ∣ n → q ∣ wo p n := by
  intro k
  induction k with
  | zero => intro n h h1; omega
  | succ k ih =>
    intro n h h1 hd
    by_cases hz : 2 ≤ p ∧ 1 ≤ n ∧ n % p = 0
    · rw [wo_c hz]
      refine ih _ (by have := Nat.div_lt_self (n := n) (k := p) (by omega) (by omega); omega) (dvd_pos h1 hz.2.2) ?_
      have e : n = p * (n / p) := (Nat.mul_div_cancel' (Nat.dvd_of_mod_eq_zero hz.2.2)).symm
      rw [e] at hd
      rcases pr_mul hq hd with h2 | h2
      · exact absurd (pr_dvd hq hp h2) (Ne.symm hpq)
      · exact h2
    · rw [wo_s hz]
      exact hd
theorem mem_dfac : ∀ (k n q : Nat), n ≤ k → 1 ≤ n → (q ∈ dfac n ↔ isPr q ∧ q ∣ n) := by
  intro k
  induction k with
  | zero => intro n q h h1; omega
  | succ k ih =>
    intro n q h h1
    by_cases h2 : 2 ≤ n
    · rw [dfac_c h2, List.mem_cons]
      have hw := wo_pos (p := lp n) n n (Nat.le_refl _) h1
      have hl := wo_lt h2
      rw [ih _ q (by omega) hw.1]
      constructor
      · rintro (e | ⟨e1, e2⟩)
        · subst e; exact ⟨lp_pr h2, (lp_spec h2).1⟩
        · exact ⟨e1, Nat.dvd_trans e2 (wo_dvd n n (Nat.le_refl _))⟩
      · rintro ⟨e1, e2⟩
        by_cases e : q = lp n
        · exact Or.inl e
        · exact Or.inr ⟨e1, wo_oth (lp_pr h2) e1 (Ne.symm e) n n (Nat.le_refl _) h1 e2⟩
    · rw [dfac_s h2]
      constructor
      · intro hm; cases hm
      · rintro ⟨e1, e2⟩
        have := Nat.le_of_dvd h1 e2
        have := e1.1
        omega
theorem mem_fac : ∀ (k n q : Nat), n ≤ k → 1 ≤ n → (q ∈ fac n ↔ isPr q ∧ q ∣ n) := by
  intro k
  induction k with
  | zero => intro n q h h1; omega
  | succ k ih =>
    intro n q h h1
    by_cases h2 : 2 ≤ n
    · have hd := lp_div_lt h2
      rw [fac_c h2, List.mem_cons, ih _ q (by omega) (lp_div_pos h2)]
      have e : n = lp n * (n / lp n) := (Nat.mul_div_cancel' (lp_spec h2).1).symm
      constructor
      · rintro (e1 | ⟨e1, e2⟩)
        · subst e1; exact ⟨lp_pr h2, (lp_spec h2).1⟩
        · exact ⟨e1, Nat.dvd_trans e2 (Nat.div_dvd_of_dvd (lp_spec h2).1)⟩
      · rintro ⟨e1, e2⟩
        rw [e] at e2
        rcases pr_mul e1 e2 with h3 | h3
        · exact Or.inl (pr_dvd e1 (lp_pr h2) h3)
        · exact Or.inr ⟨e1, h3⟩
    · rw [fac_s h2]
      constructor
      · intro hm; cases hm
      · rintro ⟨e1, e2⟩
        have := Nat.le_of_dvd h1 e2
        have := e1.1
        omega
/-- odd numbers from d on: the product of k + 1 of them -/
def oddP (d : Nat) : Nat → Nat
  | 0 => d
  | k + 1 => d * oddP (d + 2) k
theorem dfac_odd : ∀ (k d n : Nat), 1 ≤ n → d % 2 = 1 → n % 2 = 1 → 3 ≤ d → (∀ e, 2 ≤ e → e ∣ n → d ≤ e) → n < oddP d k → (dfac n).length ≤ k := by
  intro k
  induction k with
  | zero =>
    intro d n h1 h2 h3 h4 h5 h6
    rw [dfac_s]
    · exact Nat.le_refl _
    · intro h
      have := h5 n h (Nat.dvd_refl _)
      have h6 : n < d := h6
      omega
  | succ k ih =>
    intro d n h1 h2 h3 h4 h5 h6
    by_cases h : 2 ≤ n
    · rw [dfac_c h, List.length_cons]
      obtain ⟨a1, a2, a3, a4⟩ := lp_spec h
      have hdl := h5 (lp n) a2 a1
      have hw := wo_pos (p := lp n) n n (Nat.le_refl _) h1
      have hwd := wo_dvd (p := lp n) n n (Nat.le_refl _)
      have odd : ∀ e, e ∣ n → e % 2 = 1 := by
        intro e he
        rcases Nat.mod_two_eq_zero_or_one e with z | z
        · have : 2 ∣ n := Nat.dvd_trans (Nat.dvd_of_mod_eq_zero z) he
          have := Nat.mod_eq_zero_of_dvd this
          omega
        · exact z
      have := ih (d + 2) (wo (lp n) n) hw.1 (by omega) (odd _ hwd) (by omega) (fun e he1 he2 => ?_) ?_
      · omega
      · have h7 := Nat.dvd_trans he2 hwd
        have h8 := odd e h7
        have h9 := odd (lp n) a1
        have h10 : lp n ≤ e := lp_le h he1 h7
        have h11 : e ≠ lp n := fun q => wo_no a2 n n (Nat.le_refl _) h1 (q ▸ he2)
        omega
      · have hm := Nat.mod_eq_zero_of_dvd a1
        have h7 : wo (lp n) n ≤ n / lp n := by
          rw [wo_c ⟨a2, h1, hm⟩]
          exact (wo_pos (p := lp n) (n / lp n) (n / lp n) (Nat.le_refl _) (lp_div_pos h)).2
        have h8 : n / lp n ≤ n / d := Nat.div_le_div_left hdl (by omega)
        have h9 : n / d < oddP (d + 2) k := by
          rw [Nat.div_lt_iff_lt_mul (by omega), Nat.mul_comm]
          exact h6
        omega
    · rw [dfac_s h]
      exact Nat.zero_le _
theorem dfac_le5 {n : Nat} (h1 : 1 ≤ n) (hn : n ≤ 9999) : (dfac n).length ≤ 5 := by
  have hodd : ∀ m, 1 ≤ m → m ≤ 9999 → m % 2 = 1 → (dfac m).length ≤ 4 := by
    intro m a b c
    refine dfac_odd 4 3 m a rfl c (Nat.le_refl _) (fun e he1 he2 => ?_) (Nat.lt_of_le_of_lt b (by decide))
    rcases Nat.lt_or_ge e 3 with z | z
    · have : e = 2 := by omega
      subst this
      have := Nat.mod_eq_zero_of_dvd he2
      omega
    · exact z
  rcases Nat.mod_two_eq_zero_or_one n with z | z
  · have h2 : 2 ≤ n := by omega
    have hl : lp n = 2 := lp_uniq h2 (Nat.dvd_of_mod_eq_zero z) (Nat.le_refl _) (fun e a b => by omega)
    rw [dfac_c h2, List.length_cons, hl]
    have hw := wo_pos (p := 2) n n (Nat.le_refl _) h1
    have hno := wo_no (p := 2) (Nat.le_refl _) n n (Nat.le_refl _) h1
    have := hodd (wo 2 n) hw.1 (by omega) (by
      rcases Nat.mod_two_eq_zero_or_one (wo 2 n) with y | y
      · exact absurd (Nat.dvd_of_mod_eq_zero y) hno
      · exact y)
    omega
  · have := hodd n h1 hn z
    omega
theorem nodup_len {α : Type} [DecidableEq α] : ∀ (l m : List α), l.Nodup → (∀ x ∈ l, x ∈ m) → l.length ≤ m.length := by
  intro l
  induction l with
  | nil => intro m _ _; exact Nat.zero_le _
  | cons a l ih =>
    intro m h h1
    rw [List.nodup_cons] at h
    have ha : a ∈ m := h1 a List.mem_cons_self
    have := ih (m.erase a) h.2 (fun x hx => by
      have hxa : x ≠ a := fun e => h.1 (e ▸ hx)
      exact (List.mem_erase_of_ne hxa).mpr (h1 x (List.mem_cons_of_mem _ hx)))
    rw [List.length_erase_of_mem ha] at this
    have hp : 0 < m.length := List.length_pos_of_mem ha
    rw [List.length_cons]
    omega
/-- tried by divisors up to the root -/
def spG (p : Nat) : Nat → Nat → Bool
  | 0, _ => true
  | k + 1, d => if p < d * d then true else if p % d = 0 then false else spG p k (d + 1)
def sp (p : Nat) : Bool := if p < 2 then false else spG p 100 2
theorem spG_spec (p : Nat) (h : 2 ≤ p) : ∀ (k d : Nat), 2 ≤ d → (∀ e, 2 ≤ e → e < d → ¬ e ∣ p) → p < (d + k) * (d + k) → (spG p k d = true ↔ lp p = p) := by
  intro k
  induction k with
  | zero =>
    intro d h2 hno hp
    exact ⟨fun _ => lp_root h hp hno, fun _ => rfl⟩
  | succ k ih =>
    intro d h2 hno hp
    show (if p < d * d then true else if p % d = 0 then false else spG p k (d + 1)) = true ↔ _
    by_cases c1 : p < d * d
    · rw [if_pos c1]
      exact ⟨fun _ => lp_root h c1 hno, fun _ => rfl⟩
    · rw [if_neg c1]
      by_cases c2 : p % d = 0
      · rw [if_pos c2]
        refine ⟨fun q => (by cases q), fun q => ?_⟩
        have := lp_uniq h (Nat.dvd_of_mod_eq_zero c2) h2 hno
        have h3 : d * 2 ≤ d * d := Nat.mul_le_mul_left d h2
        omega
      · rw [if_neg c2]
        refine ih (d + 1) (by omega) (fun e he1 he2 => ?_) (by rw [show d + 1 + k = d + (k + 1) by omega]; exact hp)
        by_cases he : e = d
        · subst he
          exact fun q => c2 (Nat.mod_eq_zero_of_dvd q)
        · exact hno e he1 (by omega)
theorem sp_spec {p : Nat} (hp : p ≤ 9999) : sp p = true ↔ isPr p := by
  unfold sp
  by_cases h : p < 2
  · rw [if_pos h]
    exact ⟨fun q => (by cases q), fun q => by have := q.1; omega⟩
  · rw [if_neg h, spG_spec p (by omega) 100 2 (Nat.le_refl _) (fun e a b => by omega) (by omega)]
    exact ⟨fun q => lp_isPr (by omega) q, fun q => isPr_lp q⟩
/-- all primes up to 9999 -/
def PRS : List Nat := (List.range 10000).filter sp
set_option maxRecDepth 100000 in
theorem PRS_len : PRS.length = 1229 := by decide +kernel
theorem mem_PRS {p : Nat} : p ∈ PRS ↔ isPr p ∧ p ≤ 9999 := by
  unfold PRS
  rw [List.mem_filter, List.mem_range]
  constructor
  · rintro ⟨h1, h2⟩
    exact ⟨(sp_spec (by omega)).mp h2, by omega⟩
  · rintro ⟨h1, h2⟩
    exact ⟨by omega, (sp_spec h2).mpr h1⟩
theorem pr_many {ps : List Nat} (h : ps.Nodup) (h1 : ∀ q ∈ ps, isPr q ∧ q ≤ 9999) : ps.length ≤ 1229 := by
  rw [← PRS_len]
  exact nodup_len ps PRS h (fun q hq => mem_PRS.mpr (h1 q hq))
