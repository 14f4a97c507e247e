/-! FAMILIES BY BITS (own work): what is reached from a step is its family -/
def stB1 (S : tS) (b m : Nat) : Nat := if b.testBit (m / S.1.length) = true ∧ kin S (m / S.1.length) (m % S.1.length) = true then b ||| 2 ^ (m % S.1.length) else b
def tB (S : tS) (b : Nat) : Nat → Nat
  | 0 => b
  | m + 1 => stB1 S (tB S b m) m
def cB (S : tS) (b : Nat) : Nat → Nat
  | 0 => b
  | t + 1 => tB S (cB S b t) (S.1.length * S.1.length)
theorem stB1_mono {S : tS} {b m i : Nat} (h : b.testBit i = true) : (stB1 S b m).testBit i = true := by
  unfold stB1
  split
  · rw [tb_set, h, Bool.true_or]
  · exact h
theorem tB_mono {S : tS} {b i : Nat} (h : b.testBit i = true) : ∀ m, (tB S b m).testBit i = true
  | 0 => h
  | m + 1 => stB1_mono (tB_mono h m)
theorem tB_more {S : tS} {b i : Nat} : ∀ d m, (tB S b m).testBit i = true → (tB S b (m + d)).testBit i = true
  | 0, _, h => h
  | d + 1, m, h => stB1_mono (tB_more d m h)
/-- bits of steps of one family -/
def fB (S : tS) (k b : Nat) : Prop := ∀ i, b.testBit i = true → i < S.1.length ∧ findF S i = findF S k
theorem md_lt {m n : Nat} (h : m < n * n) : m / n < n ∧ m % n < n := by
  have h0 : 0 < n := by
    rcases Nat.eq_zero_or_pos n with e | e
    · rw [e] at h; exact absurd h (Nat.not_lt_zero _)
    · exact e
  exact ⟨Nat.div_lt_of_lt_mul h, Nat.mod_lt _ h0⟩
theorem stB1_fB {S : tS} {k b m : Nat} (hm : m < S.1.length * S.1.length) (h : fB S k b) : fB S k (stB1 S b m) := by
  intro i hi
  obtain ⟨q1, q2⟩ := md_lt hm
  unfold stB1 at hi
  split at hi
  · next c =>
    rw [tb_set] at hi
    rcases Bool.or_eq_true_iff.mp hi with e | e
    · exact h i e
    · have e := of_decide_eq_true e
      subst e
      refine ⟨q2, ?_⟩
      rw [← (find_good S).2 _ _ q1 q2 c.2]
      exact (h _ c.1).2
  · exact h i hi
theorem tB_fB {S : tS} {k b : Nat} (h : fB S k b) : ∀ m, m ≤ S.1.length * S.1.length → fB S k (tB S b m)
  | 0, _ => h
  | m + 1, hm => stB1_fB (by omega) (tB_fB h m (by omega))
theorem stB1_lt {S : tS} {b m : Nat} (hl : S.1.length ≤ 12) (hm : m < S.1.length * S.1.length) (h : b < 4096) : stB1 S b m < 4096 := by
  obtain ⟨q1, q2⟩ := md_lt hm
  unfold stB1
  split
  · exact or_lt h (by omega)
  · exact h
theorem tB_lt {S : tS} {b : Nat} (hl : S.1.length ≤ 12) (h : b < 4096) : ∀ m, m ≤ S.1.length * S.1.length → tB S b m < 4096
  | 0, _ => h
  | m + 1, hm => stB1_lt hl (by omega) (tB_lt hl h m (by omega))
theorem cB_lt {S : tS} {b : Nat} (hl : S.1.length ≤ 12) (h : b < 4096) : ∀ t, cB S b t < 4096
  | 0 => h
  | t + 1 => tB_lt hl (cB_lt hl h t) _ (Nat.le_refl _)
theorem cB_fB {S : tS} {k b : Nat} (h : fB S k b) : ∀ t, fB S k (cB S b t)
  | 0 => h
  | t + 1 => tB_fB (cB_fB h t) _ (Nat.le_refl _)
theorem cB_mono {S : tS} {b i : Nat} (h : b.testBit i = true) : ∀ t, (cB S b t).testBit i = true
  | 0 => h
  | t + 1 => tB_mono (cB_mono h t) _
/-- nothing more comes -/
def clo (S : tS) (b : Nat) : Prop := ∀ x y, x < S.1.length → y < S.1.length → b.testBit x = true → kin S x y = true → b.testBit y = true
theorem clo_st {S : tS} {b m : Nat} (hm : m < S.1.length * S.1.length) (h : clo S b) : stB1 S b m = b := by
  obtain ⟨q1, q2⟩ := md_lt hm
  unfold stB1
  split
  · next c =>
    refine Nat.eq_of_testBit_eq (fun i => ?_)
    rw [tb_set]
    by_cases e : m % S.1.length = i
    · subst e
      rw [h _ _ q1 q2 c.1 c.2, Bool.true_or]
    · rw [decide_eq_false e, Bool.or_false]
  · rfl
theorem clo_t {S : tS} {b : Nat} (h : clo S b) : ∀ m, m ≤ S.1.length * S.1.length → tB S b m = b
  | 0, _ => rfl
  | m + 1, hm => by
    show stB1 S (tB S b m) m = b
    rw [clo_t h m (by omega)]
    exact clo_st (by omega) h
/-- behind a turn: what is kin to what was there -/
theorem tB_kin {S : tS} {b x y : Nat} (hx : x < S.1.length) (hy : y < S.1.length) (hb : b.testBit x = true) (hk : kin S x y = true) : (tB S b (S.1.length * S.1.length)).testBit y = true := by
  have h0 : 0 < S.1.length := by omega
  have hm : x * S.1.length + y < S.1.length * S.1.length := by
    have : (x + 1) * S.1.length ≤ S.1.length * S.1.length := Nat.mul_le_mul_right _ hx
    rw [Nat.add_mul, Nat.one_mul] at this
    omega
  have e1 : (x * S.1.length + y) / S.1.length = x := by
    rw [Nat.mul_comm, Nat.mul_add_div h0, Nat.div_eq_of_lt hy, Nat.add_zero]
  have e2 : (x * S.1.length + y) % S.1.length = y := by
    rw [Nat.mul_comm, Nat.mul_add_mod, Nat.mod_eq_of_lt hy]
  have s : (tB S b (x * S.1.length + y + 1)).testBit y = true := by
    show (stB1 S (tB S b (x * S.1.length + y)) (x * S.1.length + y)).testBit y = true
    unfold stB1
    rw [e1, e2, if_pos ⟨tB_mono hb _, hk⟩, tb_set, decide_eq_true rfl, Bool.or_true]
  have := tB_more (S.1.length * S.1.length - (x * S.1.length + y + 1)) _ s
  rw [show x * S.1.length + y + 1 + (S.1.length * S.1.length - (x * S.1.length + y + 1)) = S.1.length * S.1.length by omega] at this
  exact this
theorem cnt_mono {P Q : Nat → Bool} : ∀ n, (∀ k, k < n → P k = true → Q k = true) → cnt P n ≤ cnt Q n ∧ (cnt P n = cnt Q n → ∀ k, k < n → Q k = true → P k = true)
  | 0, _ => ⟨Nat.le_refl _, fun _ k hk => absurd hk (Nat.not_lt_zero k)⟩
  | n + 1, h => by
    obtain ⟨h1, h2⟩ := cnt_mono n (fun k hk => h k (by omega))
    have hn := h n (by omega)
    rw [cnt_succ, cnt_succ]
    by_cases p : P n = true
    · rw [if_pos p, if_pos (hn p)]
      refine ⟨by omega, fun e k hk q => ?_⟩
      by_cases z : k = n
      · rw [z]; exact p
      · exact h2 (by omega) k (by omega) q
    · rw [if_neg p]
      by_cases q : Q n = true
      · rw [if_pos q]
        exact ⟨by omega, fun e => by omega⟩
      · rw [if_neg q]
        refine ⟨by omega, fun e k hk r => ?_⟩
        by_cases z : k = n
        · rw [z] at r; exact absurd r q
        · exact h2 (by omega) k (by omega) r
theorem turn_more {S : tS} {k b : Nat} (h : fB S k b) : clo S b ∨ cnt (fun i => b.testBit i) S.1.length < cnt (fun i => (tB S b (S.1.length * S.1.length)).testBit i) S.1.length := by
  obtain ⟨h1, h2⟩ := cnt_mono (P := fun i => b.testBit i) (Q := fun i => (tB S b (S.1.length * S.1.length)).testBit i) S.1.length (fun i _ q => tB_mono q _)
  rcases Nat.lt_or_ge (cnt (fun i => b.testBit i) S.1.length) (cnt (fun i => (tB S b (S.1.length * S.1.length)).testBit i) S.1.length) with c | c
  · exact Or.inr c
  · exact Or.inl (fun x y hx hy hb hk => h2 (by omega) y hy (tB_kin hx hy hb hk))
theorem turns_clo {S : tS} {k b : Nat} (h : fB S k b) (h1 : 1 ≤ cnt (fun i => b.testBit i) S.1.length) : ∀ t, clo S (cB S b t) ∨ t + 1 ≤ cnt (fun i => (cB S b t).testBit i) S.1.length
  | 0 => Or.inr h1
  | t + 1 => by
    rcases turns_clo h h1 t with c | c
    · refine Or.inl ?_
      show clo S (tB S (cB S b t) _)
      rw [clo_t c _ (Nat.le_refl _)]
      exact c
    · rcases turn_more (cB_fB h t) with d | d
      · refine Or.inl ?_
        show clo S (tB S (cB S b t) _)
        rw [clo_t d _ (Nat.le_refl _)]
        exact d
      · refine Or.inr ?_
        show t + 1 + 1 ≤ cnt (fun i => (tB S (cB S b t) (S.1.length * S.1.length)).testBit i) S.1.length
        omega
/-- the bits behind so many turns as there are steps: the family -/
theorem cB_fam {S : tS} {k : Nat} (hk : k < S.1.length) : ∀ j, j < S.1.length → (cB S (2 ^ k) S.1.length).testBit j = decide (findF S j = findF S k) := by
  have t0 : ∀ i, (2 ^ k).testBit i = decide (k = i) := fun i => Nat.testBit_two_pow
  have h0 : fB S k (2 ^ k) := fun i hi => by
    rw [t0] at hi
    have e := of_decide_eq_true hi
    subst e
    exact ⟨hk, rfl⟩
  have h1 : 1 ≤ cnt (fun i => (2 ^ k).testBit i) S.1.length := (cnt_pos S.1.length).mpr ⟨k, hk, by show (2 ^ k).testBit k = true; rw [t0]; exact decide_eq_true rfl⟩
  have hb := cB_fB h0 S.1.length
  have hc : clo S (cB S (2 ^ k) S.1.length) := by
    rcases turns_clo h0 h1 S.1.length with c | c
    · exact c
    · have := cnt_le (fun i => (cB S (2 ^ k) S.1.length).testBit i) S.1.length
      omega
  have hkk : (cB S (2 ^ k) S.1.length).testBit k = true := cB_mono (by rw [t0]; exact decide_eq_true rfl) _
  obtain ⟨b, eb⟩ : ∃ b, b = cB S (2 ^ k) S.1.length := ⟨_, rfl⟩
  rw [← eb] at hb hc hkk ⊢
  intro j hj
  have sG : Same S (fun i => if b.testBit i = true then 1 else 0) := fun x y hx hy c => by
    show (if b.testBit x = true then 1 else 0) = (if b.testBit y = true then 1 else 0)
    by_cases p : b.testBit x = true
    · rw [if_pos p, if_pos (hc x y hx hy p c)]
    · by_cases q : b.testBit y = true
      · exact absurd (hc y x hy hx q (by rw [kin_sym]; exact c)) p
      · rw [if_neg p, if_neg q]
  by_cases p : b.testBit j = true
  · rw [p, decide_eq_true (hb j p).2]
  · have p' : b.testBit j = false := by cases c : b.testBit j with | false => rfl | true => exact absurd c p
    rw [p', decide_eq_false]
    intro e
    have g1 := (find_good S).1.2 _ sG j hj
    have g2 := (find_good S).1.2 _ sG k hk
    rw [e] at g1
    have g : (if b.testBit j = true then 1 else 0) = (if b.testBit k = true then 1 else 0) := g1.symm.trans g2
    rw [if_neg p, if_pos hkk] at g
    cases g
/-- from the top down: how many, and the lowest -/
def cntD (P : Nat → Bool) (n : Nat) : Nat → Nat
  | 0 => 0
  | u + 1 => cntD P n u + if P (n - (u + 1)) = true then 1 else 0
theorem cntD_cnt (P : Nat → Bool) (n : Nat) : ∀ u, u ≤ n → cntD P n u + cnt P (n - u) = cnt P n
  | 0, _ => by show 0 + cnt P n = _; rw [Nat.zero_add]
  | u + 1, h => by
    have := cntD_cnt P n u (by omega)
    rw [show n - u = n - (u + 1) + 1 by omega, cnt_succ] at this
    show cntD P n u + (if P (n - (u + 1)) = true then 1 else 0) + _ = _
    omega
theorem cntD_all (P : Nat → Bool) (n : Nat) : cntD P n n = cnt P n := by
  have := cntD_cnt P n n (Nat.le_refl n)
  rw [Nat.sub_self] at this
  exact this
theorem cntD_le (P : Nat → Bool) (n : Nat) : ∀ u, cntD P n u ≤ u
  | 0 => Nat.le_refl 0
  | u + 1 => by
    have := cntD_le P n u
    show cntD P n u + (if _ then 1 else 0) ≤ u + 1
    split <;> omega
def loR (P : Nat → Bool) (n : Nat) : Nat → Nat
  | 0 => 12
  | u + 1 => if P (n - (u + 1)) = true then n - (u + 1) else loR P n u
theorem loR_lt (P : Nat → Bool) {n : Nat} (hn : n ≤ 12) : ∀ u, loR P n u ≤ 12
  | 0 => Nat.le_refl _
  | u + 1 => by
    have := loR_lt P hn u
    show (if P (n - (u + 1)) = true then n - (u + 1) else loR P n u) ≤ 12
    split
    · exact Nat.le_trans (Nat.sub_le _ _) hn
    · exact this
theorem loR_is {P : Nat → Bool} {n f : Nat} (hf : f < n) (h1 : P f = true) (h2 : ∀ j, j < f → P j = false) : ∀ u, u ≤ n → n - u ≤ f → loR P n u = f
  | 0, _, h => by omega
  | u + 1, hu, h => by
    show (if P (n - (u + 1)) = true then n - (u + 1) else loR P n u) = f
    rcases Nat.lt_or_ge (n - (u + 1)) f with c | c
    · rw [h2 _ c, if_neg Bool.false_ne_true]
      exact loR_is hf h1 h2 u (by omega) (by omega)
    · rw [show n - (u + 1) = f by omega, if_pos h1]
