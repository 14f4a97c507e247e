/-! ROUNDS OF SHARING COME TO AN END (own work): behind k rounds the highest k steps are multiples of all below them -/
def LastP (S : tS) (k : Nat) : Prop := ∀ j, S.1.length ≤ j + k → j < S.1.length → ∀ i, i < j → sN S i ∣ sN S j
theorem sN_set2 {l : List Nat} {c : Nat × Nat × Int32 × (Nat → Int32)} {i x y : Nat} (h : i + 1 < l.length) (j : Nat) : sN ((l.set i x).set (i + 1) y, c) j = if j = i + 1 then y else if j = i then x else sN (l, c) j := by
  unfold sN
  show ((l.set i x).set (i + 1) y).getD j 1 = _
  rw [List.getD_eq_getElem?_getD]
  by_cases e : j = i + 1
  · rw [if_pos e, e, List.getElem?_set_self (by rw [List.length_set]; exact h)]
    rfl
  · rw [if_neg e, List.getElem?_set_ne (fun q => e q.symm)]
    by_cases e2 : j = i
    · rw [if_pos e2, e2, List.getElem?_set_self (by omega)]
      rfl
    · rw [if_neg e2, List.getElem?_set_ne (fun q => e2 q.symm), List.getD_eq_getElem?_getD]
theorem sN_shr {S : tS} {i : Nat} (h : i + 1 < S.1.length) (j : Nat) : sN (shr S i) j = if j = i + 1 then lcm2 (sN S i) (sN S (i + 1)) else if j = i then Nat.gcd (sN S i) (sN S (i + 1)) else sN S j := sN_set2 h j
theorem lcm2_eq (a b : Nat) : lcm2 a b = Nat.lcm a b := by
  unfold lcm2 Nat.lcm
  rw [Nat.mul_comm a b, Nat.mul_div_assoc b (Nat.gcd_dvd_left a b), Nat.mul_comm]
theorem rnd_last (m : Nat) (X : Nat → Nat) : ∀ (d k : Nat) (S T : tS), rndF d k S = some T → k + d + 1 = S.1.length → (∀ j, m ≤ j → j < S.1.length → ∀ i, i < j → X i ∣ X j) →
    (∀ j, k < j → sN S j = X j) → (∀ i, i < k → sN S i ∣ sN S k) → (∀ y, (∀ i, i ≤ k → X i ∣ y) → sN S k ∣ y) → (∀ j, j < k → m ≤ j + 1 → ∀ i, i < j → sN S i ∣ sN S j) →
    T.1.length = S.1.length ∧ ∀ j, j < S.1.length → m ≤ j + 1 → ∀ i, i < j → sN T i ∣ sN T j := by
  intro d
  induction d with
  | zero =>
    intro k S T h hk hX h1 h2 h3 h4
    cases h
    refine ⟨rfl, fun j hj hm i hi => ?_⟩
    by_cases e : j = k
    · rw [e] at hi ⊢
      exact h2 i hi
    · exact h4 j (by omega) hm i hi
  | succ d ih =>
    intro k S T h hk hX h1 h2 h3 h4
    unfold rndF at h
    split at h
    · next hb =>
      have hn : k + 1 < S.1.length := by omega
      have sv := sN_shr hn
      have s0 : sN (shr S k) k = Nat.gcd (sN S k) (sN S (k + 1)) := by rw [sv, if_neg (by omega), if_pos rfl]
      have s1 : sN (shr S k) (k + 1) = lcm2 (sN S k) (sN S (k + 1)) := by rw [sv, if_pos rfl]
      have s2 : ∀ j, j ≠ k → j ≠ k + 1 → sN (shr S k) j = sN S j := fun j a b => by rw [sv, if_neg b, if_neg a]
      have e1 := h1 (k + 1) (by omega)
      have := ih (k + 1) (shr S k) T h (by rw [shr_len]; omega) (by rw [shr_len]; exact hX) (fun j hj => by rw [s2 j (by omega) (by omega)]; exact h1 j (by omega)) (fun i hi => by
        rw [s1, lcm2_eq]
        by_cases e : i = k
        · rw [e, s0]
          exact Nat.dvd_trans (Nat.gcd_dvd_left _ _) (Nat.dvd_lcm_left _ _)
        · rw [s2 i e (by omega)]
          exact Nat.dvd_trans (h2 i (by omega)) (Nat.dvd_lcm_left _ _)) (fun y hy => by
        rw [s1, lcm2_eq]
        exact Nat.lcm_dvd (h3 y (fun i hi => hy i (by omega))) (by rw [e1]; exact hy (k + 1) (Nat.le_refl _))) (fun j hj hm i hi => by
        by_cases e : j = k
        · subst e
          rw [s0, s2 i (by omega) (by omega)]
          have : sN S j ∣ sN S (j + 1) := h3 _ (fun i hi => by rw [e1]; exact hX (j + 1) hm hn i (by omega))
          rw [Nat.gcd_eq_left this]
          exact h2 i hi
        · rw [s2 i (by omega) (by omega), s2 j e (by omega)]
          exact h4 j (by omega) hm i hi)
      rw [shr_len] at this
      exact this
    · cases h
theorem last_round {S T : tS} {k : Nat} (h : rndF (S.1.length - 1) 0 S = some T) (h1 : 1 ≤ S.1.length) (hk : LastP S k) : T.1.length = S.1.length ∧ LastP T (k + 1) := by
  obtain ⟨a, b⟩ := rnd_last (S.1.length - k) (sN S) (S.1.length - 1) 0 S T h (by omega) (fun j hm hj i hi => hk j (by omega) hj i hi) (fun j _ => rfl) (fun i hi => absurd hi (Nat.not_lt_zero i)) (fun y hy => hy 0 (Nat.le_refl 0)) (fun j hj => absurd hj (Nat.not_lt_zero j))
  refine ⟨a, fun j hj hl i hi => ?_⟩
  rw [a] at hj hl
  exact b j hl (by omega) i hi
theorem last_stl {S : tS} {k : Nat} (hk : LastP S k) (h : S.1.length ≤ k + 1) : stl S = true := decide_eq_true (fun i hi => Nat.mod_eq_zero_of_dvd (hk (i + 1) (by omega) (by omega) i (by omega)))
section
variable {σ : sSt} {M : tM} {S : tS}
theorem rnd_ok : ∀ (d k : Nat) (S T : tS), okS S → rndF d k S = some T → k + d + 1 = S.1.length → okS T ∧ T.1.length = S.1.length := by
  intro d
  induction d with
  | zero => intro k S T h e _; cases e; exact ⟨h, rfl⟩
  | succ d ih =>
    intro k S T h e hk
    unfold rndF at e
    split at e
    · next hb =>
      have b1 := sN_ok h k
      have b2 := sN_ok h (k + 1)
      have hg := gcd_pos (b := sN S (k + 1)) b1.1
      have hg2 := gcd_le (b := sN S (k + 1)) b1.1
      have ok : okS (shr S k) := okS.set (S := (S.1.set k _, S.2)) (h.set hg (by omega)) (lcm2_pos b1.1 b2.1) hb
      have := ih (k + 1) (shr S k) T ok e (by rw [shr_len]; omega)
      rw [shr_len] at this
      exact this
    · cases e
theorem sir_le : ∀ (d : Nat) (S : tS) (r : Nat × tS), sirF d S = some r → r.1 ≤ d := by
  intro d
  induction d with
  | zero => intro S r h; cases h
  | succ d ih =>
    intro S r h
    unfold sirF at h
    split at h
    · cases h; exact Nat.zero_le _
    · cases hr : rndF (S.1.length - 1) 0 S with
      | none => rw [hr] at h; cases h
      | some T =>
        rw [hr] at h
        have h : (sirF d T).map (fun r => (r.1 + 1, r.2)) = some r := h
        cases hq : sirF d T with
        | none => rw [hq] at h; cases h
        | some q =>
          rw [hq] at h
          cases h
          have := ih T q hq
          show q.1 + 1 ≤ d + 1
          omega
end
