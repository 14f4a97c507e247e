/-! What booking does to the accounts (own work) -/
theorem nI_z (x : Int32) : x + nI 0 = x := by rw [← j_z, Int32.add_zero]
theorem z_nI (x : Int32) : nI 0 + x = x := by rw [← j_z, Int32.zero_add]
theorem nI_sz (x : Int32) : x - nI 0 = x := by rw [← j_z, Int32.sub_zero]
theorem bkL_0 : ∀ (l : List Nat) (f : Nat → Int32), bkL (nI 0) l f = f
  | [], _ => rfl
  | r :: l, f => by
    show bkL (nI 0) l (addAt f r (nI 0)) = f
    have e : addAt f r (nI 0) = f := by
      funext z
      unfold addAt
      by_cases h : z = r
      · rw [if_pos h, h, nI_z]
      · rw [if_neg h]
    rw [e]
    exact bkL_0 l f
theorem bkL_1 (q : Nat) : ∀ (l : List Nat) (f : Nat → Int32), bkL (nI 1) l f q = f q + nI (l.count q)
  | [], f => by rw [List.count_nil, nI_z]; rfl
  | r :: l, f => by
    show bkL (nI 1) l (addAt f r (nI 1)) q = _
    rw [bkL_1 q l, List.count_cons]
    by_cases h : q = r
    · subst h
      have e : addAt f q (nI 1) q = f q + nI 1 := by unfold addAt; rw [if_pos rfl]
      rw [e, Int32.add_assoc, nI_add, if_pos (by simp), Nat.add_comm]
    · have e : addAt f r (nI 1) q = f q := by unfold addAt; rw [if_neg h]
      rw [e, if_neg (by simpa using Ne.symm h), Nat.add_zero]
theorem i_swap2 (a b c : Int32) : a + b + c = a + c + b := by rw [Int32.add_assoc, Int32.add_comm b, ← Int32.add_assoc]
theorem bkL_m (q : Nat) : ∀ (l : List Nat) (f : Nat → Int32), bkL (-1) l f q = f q - nI (l.count q)
  | [], f => by rw [List.count_nil, nI_sz]; rfl
  | r :: l, f => by
    show bkL (-1) l (addAt f r (-1)) q = _
    rw [bkL_m q l, List.count_cons]
    by_cases h : q = r
    · subst h
      have e : addAt f q (-1) q = f q + (-1) := by unfold addAt; rw [if_pos rfl]
      rw [e, if_pos (by simp), ← nI_add, Int32.sub_eq_add_neg, Int32.sub_eq_add_neg, Int32.neg_add, Int32.sub_eq_add_neg, show (-nI 1 : Int32) = -1 by decide, ← Int32.add_assoc, i_swap2]
    · have e : addAt f r (-1) q = f q := by unfold addAt; rw [if_neg h]
      rw [e, if_neg (by simpa using Ne.symm h), Nat.add_zero]
theorem ex_mulS {q : Nat} (hq : 2 ≤ q) {m : Nat} (h1 : 1 ≤ m) : ex q (q * m) = ex q m + 1 := by
  have h2 : 1 ≤ q * m := Nat.mul_pos (by omega) h1
  rw [ex_c ⟨hq, h2, Nat.mul_mod_right q m⟩, Nat.mul_div_cancel_left _ (by omega)]
theorem ex_mulO {p q : Nat} (hp : isPr p) (hq : isPr q) (hpq : p ≠ q) : ∀ (k m : Nat), m ≤ k → 1 ≤ m → ex q (p * m) = ex q m := by
  intro k
  induction k with
  | zero => intro m h h1; omega
  | succ k ih =>
    intro m h h1
    have hp2 := hp.1
    have hq2 := hq.1
    by_cases hd : m % q = 0
    · obtain ⟨z, hz⟩ := Nat.dvd_of_mod_eq_zero hd
      have hz1 : 1 ≤ z := by
        rcases Nat.eq_zero_or_pos z with e | e
        · rw [e, Nat.mul_zero] at hz; omega
        · exact e
      have hzm : z < m := by
        rw [hz]
        have : 2 * z ≤ q * z := Nat.mul_le_mul_right z hq2
        omega
      rw [hz, show p * (q * z) = q * (p * z) by rw [← Nat.mul_assoc, Nat.mul_comm p q, Nat.mul_assoc], ex_mulS hq2 (Nat.mul_pos (by omega) hz1), ex_mulS hq2 hz1, ih z (by omega) hz1]
    · have h2 : ¬ (p * m) % q = 0 := by
        intro e
        rcases pr_mul hq (Nat.dvd_of_mod_eq_zero e) with e2 | e2
        · exact hpq (pr_dvd hq hp e2).symm
        · exact hd (Nat.mod_eq_zero_of_dvd e2)
      rw [ex_s (fun e => h2 e.2.2), ex_s (fun e => hd e.2.2)]
theorem fac_count {q : Nat} (hq : isPr q) : ∀ (k n : Nat), n ≤ k → 1 ≤ n → (fac n).count q = ex q n := by
  intro k
  induction k with
  | zero => intro n h h1; omega
  | succ k ih =>
    intro n h h1
    by_cases h2 : 2 ≤ n
    · have e : n = lp n * (n / lp n) := (Nat.mul_div_cancel' (lp_spec h2).1).symm
      have hl := lp_div_lt h2
      have hpos := lp_div_pos h2
      have hi := ih (n / lp n) (by omega) hpos
      rw [fac_c h2, List.count_cons, hi]
      by_cases c : lp n = q
      · rw [if_pos (by simpa using c)]
        have : ex q n = ex q (n / lp n) + 1 := by
          have := ex_mulS (q := q) hq.1 hpos
          rw [← c] at this ⊢
          rw [← e] at this
          exact this
        rw [this]
      · rw [if_neg (by simpa using c), Nat.add_zero]
        have := ex_mulO (lp_pr h2) hq c (n / lp n) (n / lp n) (Nat.le_refl _) hpos
        rw [← e] at this
        exact this.symm
    · rw [fac_s h2, ex_s (fun z => by
        have := Nat.le_of_dvd h1 (Nat.dvd_of_mod_eq_zero z.2.2)
        omega)]
      rfl
/-- exponents add up -/
theorem ex_mul {q : Nat} (hq : isPr q) : ∀ (k a b : Nat), a ≤ k → 1 ≤ a → 1 ≤ b → ex q (a * b) = ex q a + ex q b := by
  intro k
  induction k with
  | zero => intro a b h h1; omega
  | succ k ih =>
    intro a b h h1 hb
    by_cases c : a % q = 0
    · obtain ⟨z, hz⟩ := Nat.dvd_of_mod_eq_zero c
      have hz1 : 1 ≤ z := by
        rcases Nat.eq_zero_or_pos z with e | e
        · rw [e, Nat.mul_zero] at hz; omega
        · exact e
      have hzm : z < a := by
        rw [hz]
        have : 2 * z ≤ q * z := Nat.mul_le_mul_right z hq.1
        omega
      rw [hz, Nat.mul_assoc, ex_mulS hq.1 (Nat.mul_pos hz1 hb), ex_mulS hq.1 hz1, ih z b (by omega) hz1 hb]
      omega
    · rw [ex_s (n := a) (fun e => c e.2.2), Nat.zero_add]
      -- by induction on b's exponent
      have key : ∀ (j b : Nat), b ≤ j → 1 ≤ b → ex q (a * b) = ex q b := by
        intro j
        induction j with
        | zero => intro b h h1; omega
        | succ j ihj =>
          intro b hbj hb
          by_cases cb : b % q = 0
          · obtain ⟨z, hz⟩ := Nat.dvd_of_mod_eq_zero cb
            have hz1 : 1 ≤ z := by
              rcases Nat.eq_zero_or_pos z with e | e
              · rw [e, Nat.mul_zero] at hz; omega
              · exact e
            have hzm : z < b := by
              rw [hz]
              have : 2 * z ≤ q * z := Nat.mul_le_mul_right z hq.1
              omega
            rw [hz, show a * (q * z) = q * (a * z) by rw [← Nat.mul_assoc, Nat.mul_comm a q, Nat.mul_assoc], ex_mulS hq.1 (Nat.mul_pos h1 hz1), ex_mulS hq.1 hz1, ihj z (by omega) hz1]
          · have h2 : ¬ (a * b) % q = 0 := by
              intro e
              rcases pr_mul hq (Nat.dvd_of_mod_eq_zero e) with e2 | e2
              · exact c (Nat.mod_eq_zero_of_dvd e2)
              · exact cb (Nat.mod_eq_zero_of_dvd e2)
            rw [ex_s (fun e => h2 e.2.2), ex_s (fun e => cb e.2.2)]
      exact key b b (Nat.le_refl _) hb
/-- what both a shared pair has is what it had -/
theorem ex_share {q a b : Nat} (hq : isPr q) (ha : 1 ≤ a) (hb : 1 ≤ b) : ex q (Nat.gcd a b) + ex q (lcm2 a b) = ex q a + ex q b := by
  have hg := gcd_pos (b := b) ha
  have h1 : 1 ≤ a / Nat.gcd a b := Nat.div_pos (gcd_le ha) hg
  unfold lcm2
  rw [ex_mul hq _ _ _ (Nat.le_refl _) h1 hb]
  have e : a = Nat.gcd a b * (a / Nat.gcd a b) := (Nat.mul_div_cancel' (Nat.gcd_dvd_left a b)).symm
  have := ex_mul hq (Nat.gcd a b) (Nat.gcd a b) (a / Nat.gcd a b) (Nat.le_refl _) hg h1
  rw [← e] at this
  omega
/-- the sum of exponents as the accounts keep it -/
theorem sumF_cons (g : Nat → Int32) (x : Nat) (l : List Nat) : sumF g (x :: l) = g x + sumF g l := by
  have key : ∀ (l : List Nat) (s : Int32), l.foldl (fun s q => s + g q) s = s + l.foldl (fun s q => s + g q) (nI 0) := by
    intro l
    induction l with
    | nil => intro s; exact (nI_z s).symm
    | cons y l ih =>
      intro s
      show l.foldl _ (s + g y) = s + l.foldl _ (nI 0 + g y)
      rw [ih (s + g y), ih (nI 0 + g y), Int32.add_assoc]
      congr 1
      rw [z_nI]
  unfold sumF
  show l.foldl _ (nI 0 + g x) = _
  rw [key l, z_nI]
theorem exL_ins {q x : Nat} : ∀ (l : List Nat) (i : Nat), i ≤ l.length → exL q (l.insertIdx i x) = exL q l + nI (ex q x)
  | l, 0, _ => by
    rw [List.insertIdx_zero]
    unfold exL
    rw [sumF_cons, Int32.add_comm]
  | [], i + 1, h => absurd h (by simp)
  | y :: l, i + 1, h => by
    rw [List.insertIdx_succ_cons]
    have := exL_ins (q := q) (x := x) l i (by simpa using h)
    unfold exL at this ⊢
    rw [sumF_cons, sumF_cons, this, Int32.add_assoc]
theorem i_swap (a b c : Int32) : a + b + c = a + c + b := by rw [Int32.add_assoc, Int32.add_comm b, ← Int32.add_assoc]
theorem i_canc (a b : Int32) : a + b + (-a) = b := by rw [Int32.add_comm a, Int32.add_assoc, Int32.add_right_neg, Int32.add_zero]
theorem exL_set {q x y : Nat} : ∀ (l : List Nat) (i : Nat), l[i]? = some y → exL q (l.set i x) = exL q l + (-nI (ex q y)) + nI (ex q x)
  | [], i, h => by cases h
  | z :: l, 0, h => by
    cases h
    unfold exL
    rw [List.set_cons_zero, sumF_cons, sumF_cons, i_canc, Int32.add_comm]
  | z :: l, i + 1, h => by
    have := exL_set (q := q) (x := x) l i h
    unfold exL at this ⊢
    rw [List.set_cons_succ, sumF_cons, sumF_cons, this, Int32.add_assoc, Int32.add_assoc, Int32.add_assoc]
theorem exL_del {q y : Nat} : ∀ (l : List Nat) (i : Nat), l[i]? = some y → exL q (l.eraseIdx i) = exL q l + (-nI (ex q y))
  | [], i, h => by cases h
  | z :: l, 0, h => by
    cases h
    unfold exL
    rw [List.eraseIdx_cons_zero, sumF_cons, i_canc]
  | z :: l, i + 1, h => by
    have := exL_del (q := q) l i h
    unfold exL at this ⊢
    rw [List.eraseIdx_cons_succ, sumF_cons, sumF_cons, this, Int32.add_assoc]
