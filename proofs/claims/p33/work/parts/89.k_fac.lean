/-! THE 25 PRIMES in order (own work): the prime factors of a number, by its exponents -/
/-- how often the first f of the 25 divide n, all in all -/
def exS (n : Nat) : Nat → Nat
  | 0 => 0
  | f + 1 => exS n f + ex (p25 f) n
/-- how many of the first f divide n -/
def exN (n : Nat) : Nat → Nat
  | 0 => 0
  | f + 1 => exN n f + if 0 < ex (p25 f) n then 1 else 0
/-- the greatest of the first f that divides n -/
def exG (n : Nat) : Nat → Option Nat
  | 0 => none
  | f + 1 => if 0 < ex (p25 f) n then some (p25 f) else exG n f
theorem p25_mono : ∀ j, j < 25 → ∀ k, k < 25 → j < k → p25 j < p25 k := by decide +kernel
theorem p25_of {q : Nat} (h : q ∈ P25) : ∃ k, k < 25 ∧ q = p25 k := by
  obtain ⟨k, hk⟩ := List.getElem?_of_mem h
  have hl : k < 25 := (List.getElem?_eq_some_iff.mp hk).1
  refine ⟨k, hl, ?_⟩
  unfold p25
  rw [List.getD_eq_getElem?_getD, hk]
  rfl
theorem ex_dvd {q n : Nat} (h2 : 2 ≤ q) (h1 : 1 ≤ n) : 0 < ex q n ↔ q ∣ n := by
  constructor
  · intro h
    rcases Classical.em (2 ≤ q ∧ 1 ≤ n ∧ n % q = 0) with z | z
    · exact Nat.dvd_of_mod_eq_zero z.2.2
    · rw [ex_s z] at h; omega
  · intro h
    rw [ex_c ⟨h2, h1, Nat.mod_eq_zero_of_dvd h⟩]
    omega
/-- the least prime factor of n is the m-th of the 25: all below it don't divide -/
theorem lp_25 {n : Nat} (h2 : 2 ≤ n) (g : G25 n) : ∃ m, m < 25 ∧ lp n = p25 m ∧ ∀ f, f < m → ex (p25 f) n = 0 := by
  obtain ⟨s1, s2, s3, s4⟩ := lp_spec h2
  obtain ⟨m, hm, e⟩ := p25_of (g _ (lp_pr h2) s1)
  refine ⟨m, hm, e, fun f hf => ?_⟩
  have l := p25_mono f (by omega) m hm hf
  have o := p25_ok f (by omega)
  refine ex_s (fun z => s4 (p25 f) o.1 (by omega) (Nat.dvd_of_mod_eq_zero z.2.2))
theorem ex_div {n m : Nat} (h2 : 2 ≤ n) (hm : m < 25) (e : lp n = p25 m) : ∀ f, f < 25 → ex (p25 f) n = ex (p25 f) (n / lp n) + if f = m then 1 else 0 := by
  intro f hf
  have hp := lp_pr h2
  have hn : lp n * (n / lp n) = n := Nat.mul_div_cancel' (lp_spec h2).1
  have q1 := lp_div_pos h2
  have := ex_mul (p25_pr hf) (lp n) (lp n) (n / lp n) (Nat.le_refl _) (by have := hp.1; omega) q1
  rw [hn, ex_pr (p25_pr hf) hp] at this
  rw [this, Nat.add_comm]
  congr 1
  by_cases c : f = m
  · rw [if_pos c, if_pos (by rw [c, e])]
  · rw [if_neg c, if_neg (fun z => c (p25_inj f hf m hm (z.trans e)))]
/-- place x of the factors of n is p25 f, where f is the one whose places hold x -/
theorem fac_at : ∀ (k n : Nat), n ≤ k → 1 ≤ n → G25 n → ∀ f, f < 25 → ∀ x, exS n f ≤ x → x < exS n f + ex (p25 f) n → (fac n)[x]? = some (p25 f) := by
  intro k
  induction k with
  | zero => intro n h h1; omega
  | succ k ih =>
    intro n h h1 g f hf x hx1 hx2
    by_cases h2 : 2 ≤ n
    · obtain ⟨m, hm, e, low⟩ := lp_25 h2 g
      have hd := lp_div_lt h2
      have q1 := lp_div_pos h2
      have g' : G25 (n / lp n) := g.dvd (Nat.div_dvd_of_dvd (lp_spec h2).1)
      have he := ex_div h2 hm e
      have hS : ∀ f, f ≤ 25 → exS n f = exS (n / lp n) f + if m < f then 1 else 0 := by
        intro f
        induction f with
        | zero => intro _; rfl
        | succ f ihf =>
          intro hf
          have := ihf (by omega)
          show exS n f + ex (p25 f) n = exS (n / lp n) f + ex (p25 f) (n / lp n) + _
          rw [this, he f (by omega)]
          by_cases c : f = m
          · rw [if_pos c, if_neg (by omega), if_pos (by omega)]
            omega
          · rw [if_neg c]
            by_cases d : m < f
            · rw [if_pos d, if_pos (by omega)]; omega
            · rw [if_neg d, if_neg (by omega)]; omega
      have lowS : ∀ f, f ≤ m → exS n f = 0 := by
        intro f
        induction f with
        | zero => intro _; rfl
        | succ f ihf =>
          intro hf
          show exS n f + ex (p25 f) n = 0
          rw [ihf (by omega), low f (by omega)]
      rw [fac_c h2]
      rcases Nat.eq_zero_or_pos x with x0 | x0
      · subst x0
        show some (lp n) = _
        rw [e]
        rcases Nat.lt_trichotomy f m with c | c | c
        · rw [lowS f (by omega), low f c] at hx2; omega
        · rw [c]
        · have := hS f (by omega)
          rw [if_pos c] at this
          omega
      · obtain ⟨y, rfl⟩ : ∃ y, x = y + 1 := ⟨x - 1, by omega⟩
        show (fac (n / lp n))[y]? = _
        have hSf := hS f (by omega)
        have hef := he f hf
        refine ih (n / lp n) (by omega) q1 g' f hf y ?_ ?_
        · rcases Nat.lt_trichotomy f m with c | c | c
          · rw [low f c, lowS f (by omega)] at hx2; omega
          · rw [if_neg (by omega)] at hSf
            have := lowS f (by omega)
            omega
          · rw [if_pos c] at hSf; omega
        · rcases Nat.lt_trichotomy f m with c | c | c
          · rw [low f c, lowS f (by omega)] at hx2; omega
          · rw [if_neg (by omega)] at hSf
            rw [if_pos c] at hef
            omega
          · rw [if_pos c] at hSf
            rw [if_neg (by omega)] at hef
            omega
    · have : n = 1 := by omega
      subst this
      rw [ex_1] at hx2
      omega
theorem fac_num : ∀ (k n : Nat), n ≤ k → 1 ≤ n → G25 n → (fac n).length = exS n 25 := by
  intro k
  induction k with
  | zero => intro n h h1; omega
  | succ k ih =>
    intro n h h1 g
    by_cases h2 : 2 ≤ n
    · obtain ⟨m, hm, e, low⟩ := lp_25 h2 g
      have hd := lp_div_lt h2
      have q1 := lp_div_pos h2
      have g' : G25 (n / lp n) := g.dvd (Nat.div_dvd_of_dvd (lp_spec h2).1)
      have he := ex_div h2 hm e
      have hS : ∀ f, f ≤ 25 → exS n f = exS (n / lp n) f + if m < f then 1 else 0 := by
        intro f
        induction f with
        | zero => intro _; rfl
        | succ f ihf =>
          intro hf
          have := ihf (by omega)
          show exS n f + ex (p25 f) n = exS (n / lp n) f + ex (p25 f) (n / lp n) + _
          rw [this, he f (by omega)]
          by_cases c : f = m
          · rw [if_pos c, if_neg (by omega), if_pos (by omega)]
            omega
          · rw [if_neg c]
            by_cases d : m < f
            · rw [if_pos d, if_pos (by omega)]; omega
            · rw [if_neg d, if_neg (by omega)]; omega
      have := hS 25 (Nat.le_refl _)
      rw [if_pos hm] at this
      rw [fac_c h2, List.length_cons, ih _ (by omega) q1 g', this]
    · have : n = 1 := by omega
      subst this
      have z : ∀ f, exS 1 f = 0 := by
        intro f
        induction f with
        | zero => rfl
        | succ f ihf => show exS 1 f + ex (p25 f) 1 = 0; rw [ihf, ex_1]
      rw [z, fac_s (by omega)]
      rfl
theorem exN_cnt (n : Nat) : ∀ f, f ≤ 25 → exN n f = (P25.take f).countP (fun p => decide (0 < ex p n)) := by
  intro f
  induction f with
  | zero => intro _; rfl
  | succ f ih =>
    intro hf
    have hx : P25[f]? = some (p25 f) := by
      have hl : f < P25.length := by show f < 25; omega
      unfold p25
      rw [List.getD_eq_getElem?_getD, List.getElem?_eq_getElem hl]
      rfl
    show exN n f + _ = _
    rw [ih (by omega), List.take_add_one, List.countP_append, hx]
    show _ = _ + List.countP _ [p25 f]
    rw [List.countP_singleton]
    congr 1
    by_cases c : 0 < ex (p25 f) n
    · rw [if_pos c, if_pos (decide_eq_true c)]
    · rw [if_neg c, if_neg (fun z => c (of_decide_eq_true z))]
theorem P25_nodup : P25.Nodup := by decide +kernel
theorem dfac_num {n : Nat} (h1 : 1 ≤ n) (g : G25 n) : (dfac n).length = exN n 25 := by
  have e := exN_cnt n 25 (Nat.le_refl _)
  rw [show P25.take 25 = P25 from rfl] at e
  have hm : ∀ q, q ∈ dfac n → q ∈ P25 := fun q hq => by
    obtain ⟨a, b⟩ := (mem_dfac n n q (Nat.le_refl _) h1).mp hq
    exact g q a b
  have c := countP_sub (P := fun p => decide (0 < ex p n)) (dfac n) P25 (dfac_nodup n n (Nat.le_refl _) h1) P25_nodup hm (fun q hq hn => by
    obtain ⟨k, hk, rfl⟩ := p25_of hq
    refine decide_eq_false (fun z => hn ?_)
    exact (mem_dfac n n _ (Nat.le_refl _) h1).mpr ⟨p25_pr hk, (ex_dvd (p25_ok k hk).1 h1).mp z⟩)
  rw [e, ← c, List.countP_eq_length.mpr]
  intro q hq
  obtain ⟨a, b⟩ := (mem_dfac n n q (Nat.le_refl _) h1).mp hq
  exact decide_eq_true ((ex_dvd a.1 h1).mpr b)
theorem exG_some {n : Nat} : ∀ f, f ≤ 25 → ∀ m, m < f → 0 < ex (p25 m) n → (∀ j, m < j → j < f → ex (p25 j) n = 0) → exG n f = some (p25 m)
  | f + 1, hf, m, hm, hp, hz => by
    show (if 0 < ex (p25 f) n then some (p25 f) else exG n f) = _
    by_cases c : m = f
    · subst c; rw [if_pos hp]
    · rw [hz f (by omega) (by omega), if_neg (by omega)]
      exact exG_some f (by omega) m (by omega) hp (fun j a b => hz j a (by omega))
theorem exG_none {n : Nat} : ∀ f, (∀ j, j < f → ex (p25 j) n = 0) → exG n f = none
  | 0, _ => rfl
  | f + 1, h => by
    show (if 0 < ex (p25 f) n then some (p25 f) else exG n f) = _
    rw [h f (by omega), if_neg (by omega)]
    exact exG_none f (fun j hj => h j (by omega))
theorem ex_last (n : Nat) : ∀ f, (∀ j, j < f → ex (p25 j) n = 0) ∨ ∃ m, m < f ∧ 0 < ex (p25 m) n ∧ ∀ j, m < j → j < f → ex (p25 j) n = 0
  | 0 => Or.inl (fun j hj => absurd hj (Nat.not_lt_zero j))
  | f + 1 => by
    rcases Nat.eq_zero_or_pos (ex (p25 f) n) with z | z
    · rcases ex_last n f with h | ⟨m, h1, h2, h3⟩
      · exact Or.inl (fun j hj => by
          by_cases c : j = f
          · rw [c]; exact z
          · exact h j (by omega))
      · exact Or.inr ⟨m, by omega, h2, fun j a b => by
          by_cases c : j = f
          · rw [c]; exact z
          · exact h3 j a (by omega)⟩
    · exact Or.inr ⟨f, by omega, z, fun j a b => absurd a (by omega)⟩
theorem exS_tail {n m : Nat} : ∀ f, m < f → (∀ j, m < j → j < f → ex (p25 j) n = 0) → exS n f = exS n m + ex (p25 m) n
  | f + 1, h, hz => by
    show exS n f + ex (p25 f) n = _
    by_cases c : m = f
    · rw [c]
    · rw [hz f (by omega) (by omega), exS_tail f (by omega) (fun j a b => hz j a (by omega)), Nat.add_zero]
theorem gpr_num {n : Nat} (h1 : 1 ≤ n) (g : G25 n) : (if n = 1 then (-4 : Int32) else nI (gpr n 1)) = oN (exG n 25) := by
  by_cases c : n = 1
  · rw [if_pos c, exG_none 25 (fun j _ => by rw [c, ex_1])]
    rfl
  · rw [if_neg c]
    have h2 : 2 ≤ n := by omega
    rcases ex_last n 25 with h | ⟨m, hm, hp, hz⟩
    · obtain ⟨k, hk, e, -⟩ := lp_25 h2 g
      have := h k hk
      have := (ex_dvd (p25_ok k hk).1 h1).mpr (by rw [← e]; exact (lp_spec h2).1)
      omega
    · rw [exG_some 25 (Nat.le_refl _) m hm hp hz]
      have t := exS_tail 25 hm hz
      have l := fac_last h2
      rw [fac_num n n (Nat.le_refl _) h1 g, t, fac_at n n (Nat.le_refl _) h1 g m hm _ (by omega) (by omega)] at l
      have l := Option.some.inj l
      rw [← l]
      rfl
