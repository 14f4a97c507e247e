/-! THE LONGEST CLIMB OF ALL (own work): as numbers; as Climbs seeks it -/
def lgN (S : tS) (t : Nat → Nat × Nat) (k : Nat) : Nat → Nat × Nat
  | 0 => (1, k)
  | m + 1 => if ld S k (k + 1 + m) = true then (if (lgN S t k m).1 < (t (k + 1 + m)).1 + 1 ∨ ((t (k + 1 + m)).1 + 1 = (lgN S t k m).1 ∧ (t (k + 1 + m)).2 < (lgN S t k m).2) then ((t (k + 1 + m)).1 + 1, (t (k + 1 + m)).2) else lgN S t k m) else lgN S t k m
def lgT (S : tS) : Nat → Nat → Nat × Nat
  | 0 => fun _ => (0, 0)
  | d + 1 => fun z => if z + d + 1 = S.1.length then lgN S (lgT S d) z d else lgT S d z
def lg (S : tS) (k : Nat) : Nat × Nat := lgT S (S.1.length - k) k
theorem lgN_s {S : tS} {t : Nat → Nat × Nat} {k m : Nat} : lgN S t k (m + 1) = if ld S k (k + 1 + m) = true then (if (lgN S t k m).1 < (t (k + 1 + m)).1 + 1 ∨ ((t (k + 1 + m)).1 + 1 = (lgN S t k m).1 ∧ (t (k + 1 + m)).2 < (lgN S t k m).2) then ((t (k + 1 + m)).1 + 1, (t (k + 1 + m)).2) else lgN S t k m) else lgN S t k m := rfl
theorem lgN_congr {S : tS} {t u : Nat → Nat × Nat} {k : Nat} : ∀ m, (∀ j, k < j → j ≤ k + m → t j = u j) → lgN S t k m = lgN S u k m
  | 0, _ => rfl
  | m + 1, h => by rw [lgN_s, lgN_s, lgN_congr m (fun j h1 h2 => h j h1 (by omega)), h (k + 1 + m) (by omega) (by omega)]
theorem lgT_in (S : tS) : ∀ (d z : Nat), z < S.1.length → lgT S (S.1.length - z + d) z = lg S z
  | 0, z, _ => rfl
  | d + 1, z, h => by
    show (if z + (S.1.length - z + d) + 1 = S.1.length then _ else lgT S (S.1.length - z + d) z) = _
    rw [if_neg (by omega)]
    exact lgT_in S d z h
theorem lg_eq (S : tS) {k : Nat} (hk : k < S.1.length) : lg S k = lgN S (lg S) k (S.1.length - 1 - k) := by
  unfold lg
  obtain ⟨d, hd⟩ : ∃ d, S.1.length - k = d + 1 := ⟨S.1.length - k - 1, by omega⟩
  rw [hd]
  show (if k + d + 1 = S.1.length then lgN S (lgT S d) k d else _) = _
  rw [if_pos (by omega), show S.1.length - 1 - k = d by omega]
  refine lgN_congr d (fun j h1 h2 => ?_)
  have := lgT_in S (d - (S.1.length - j)) j (by omega)
  rw [show S.1.length - j + (d - (S.1.length - j)) = d by omega] at this
  exact this
/-- how many steps the longest climb between two has; 0 without one -/
def lnF (S : tS) (a b : Nat) : Nat := (pthL S 0 a b).length
theorem bnN_max {S : tS} {t : Nat → Option Nat × Int} {k : Nat} : ∀ (m j : Nat), k < j → j ≤ k + m → (t j).1.isSome = true → ld S k j = true → ∃ b, bnN S t k m = some b ∧ (t j).2 ≤ (t b).2
  | 0, j, h1, h2, _, _ => by omega
  | m + 1, j, h1, h2, h3, h4 => by
    rw [bnN_s]
    by_cases e : j = k + 1 + m
    · subst e
      rw [h3, h4, Bool.true_and, Bool.true_and]
      cases q : bnN S t k m with
      | none => exact ⟨_, if_pos rfl, Int.le_refl _⟩
      | some b =>
        by_cases c : (t b).2 < (t (k + 1 + m)).2
        · exact ⟨_, if_pos (decide_eq_true c), Int.le_refl _⟩
        · exact ⟨b, if_neg (fun z => c (of_decide_eq_true z)), by omega⟩
    · obtain ⟨b, hb, hle⟩ := bnN_max (S := S) (t := t) (k := k) m j h1 (by omega) h3 h4
      by_cases c : ((t (k + 1 + m)).1.isSome && ld S k (k + 1 + m) && better t (bnN S t k m) (k + 1 + m)) = true
      · rw [if_pos c]
        rw [Bool.and_eq_true, hb] at c
        have c : decide ((t b).2 < (t (k + 1 + m)).2) = true := c.2
        have c := of_decide_eq_true c
        exact ⟨_, rfl, by omega⟩
      · rw [if_neg c]
        exact ⟨b, hb, hle⟩
theorem sk_len {S : tS} {to : Nat} : ∀ (n k : Nat), k ≤ to → to - k < n → (sk S 0 to k).1.isSome = true → (sk S 0 to k).2 = ((pth S 0 to n k).length : Int)
  | 0, k, _, h2, _ => absurd h2 (Nat.not_lt_zero _)
  | n + 1, k, h1, h2, h3 => by
    by_cases e : k = to
    · subst e
      rw [pth_to, sk_to]
      rfl
    · cases q : (sk S 0 to k).1 with
      | none => rw [q] at h3; cases h3
      | some j =>
        have hn := sk_next (by omega) q
        rw [pth_up e q, List.length_cons]
        have ih := sk_len n j hn.2.1 (by omega) hn.2.2.1
        have es := sk_up (S := S) (kind := 0) (show k < to by omega)
        rw [es] at q
        have q : bnN S (sk S 0 to) k (to - k) = some j := q
        rw [es, q]
        show (1 : Int) + (sk S 0 to j).2 = _
        rw [ih]
        omega
theorem lnF_sk {S : tS} {a b : Nat} (hab : a ≤ b) (hb : b < 12) (h : isK S 0 a b = true) : (sk S 0 b a).2 = (lnF S a b : Int) := by
  have e : pthL S 0 a b = pth S 0 b 12 a := if_pos h
  unfold lnF
  rw [e]
  exact sk_len 12 a hab (by omega) h
theorem lnF_no {S : tS} {a b : Nat} (h : isK S 0 a b = false) : lnF S a b = 0 := by
  have e : pthL S 0 a b = [] := if_neg (by rw [h]; exact Bool.false_ne_true)
  unfold lnF
  rw [e]
  rfl
theorem isK_self (S : tS) (q a : Nat) : isK S q a a = true := by unfold isK; rw [sk_to]; rfl
theorem lnF_self {S : tS} {a : Nat} (ha : a < 12) : lnF S a a = 1 := by
  have := lnF_sk (S := S) (Nat.le_refl a) ha (isK_self S 0 a)
  rw [sk_to] at this
  have : (1 : Int) = (lnF S a a : Int) := this
  omega
theorem lnF_up {S : tS} {a k b : Nat} (h1 : a < k) (h2 : k ≤ b) (hb : b < 12) (hl : ld S a k = true) (hk : isK S 0 k b = true) : isK S 0 a b = true ∧ 1 + lnF S k b ≤ lnF S a b := by
  obtain ⟨c, hc, hle⟩ := bnN_max (S := S) (t := sk S 0 b) (k := a) (b - a) k h1 (by omega) hk hl
  have es := sk_up (S := S) (kind := 0) (show a < b by omega)
  rw [hc] at es
  have hi : isK S 0 a b = true := by unfold isK; rw [es]; rfl
  refine ⟨hi, ?_⟩
  have e1 := lnF_sk (show a ≤ b by omega) hb hi
  have e2 := lnF_sk h2 hb hk
  rw [es] at e1
  have e1 : (1 : Int) + (sk S 0 b c).2 = (lnF S a b : Int) := e1
  omega
theorem lnF_ex {S : tS} {a b : Nat} (h1 : a < b) (hb : b < 12) (hi : isK S 0 a b = true) : ∃ k, a < k ∧ k ≤ b ∧ ld S a k = true ∧ isK S 0 k b = true ∧ lnF S a b = 1 + lnF S k b := by
  have e1 := lnF_sk (show a ≤ b by omega) hb hi
  unfold isK at hi
  cases q : (sk S 0 b a).1 with
  | none => rw [q] at hi; cases hi
  | some k =>
    obtain ⟨a1, a2, a3, a4⟩ := sk_next h1 q
    have es := sk_up (S := S) (kind := 0) h1
    rw [es] at q
    have q : bnN S (sk S 0 b) a (b - a) = some k := q
    rw [es, q] at e1
    have e1 : (1 : Int) + (sk S 0 b k).2 = (lnF S a b : Int) := e1
    have e2 := lnF_sk a2 hb a3
    exact ⟨k, a1, a2, a4, a3, by omega⟩
/-- what the longest climb from a step is -/
def LgOk (S : tS) (a : Nat) (p : Nat × Nat) : Prop := a ≤ p.2 ∧ p.2 < S.1.length ∧ isK S 0 a p.2 = true ∧ lnF S a p.2 = p.1 ∧ ∀ b, a ≤ b → b < S.1.length → isK S 0 a b = true → lnF S a b ≤ p.1 ∧ (lnF S a b = p.1 → p.2 ≤ b)
theorem lgN_ok {S : tS} (h12 : S.1.length ≤ 12) {a : Nat} (ha : a < S.1.length) (ht : ∀ j, a < j → j < S.1.length → LgOk S j (lg S j)) : ∀ m, a + m < S.1.length →
    a ≤ (lgN S (lg S) a m).2 ∧ (lgN S (lg S) a m).2 < S.1.length ∧ isK S 0 a (lgN S (lg S) a m).2 = true ∧ (lgN S (lg S) a m).1 ≤ lnF S a (lgN S (lg S) a m).2 ∧ 1 ≤ (lgN S (lg S) a m).1 ∧ (1 = (lgN S (lg S) a m).1 → (lgN S (lg S) a m).2 ≤ a) ∧
    ∀ k, a < k → k ≤ a + m → ld S a k = true → ∀ b, k ≤ b → b < S.1.length → isK S 0 k b = true → 1 + lnF S k b ≤ (lgN S (lg S) a m).1 ∧ (1 + lnF S k b = (lgN S (lg S) a m).1 → (lgN S (lg S) a m).2 ≤ b)
  | 0, _ => ⟨Nat.le_refl a, ha, isK_self S 0 a, by show 1 ≤ lnF S a a; rw [lnF_self (by omega)]; exact Nat.le_refl 1, Nat.le_refl 1, fun _ => Nat.le_refl a, fun k h1 h2 => by omega⟩
  | m + 1, hm => by
    obtain ⟨i1, i2, i3, i4, i5, i6, i7⟩ := lgN_ok h12 ha ht m (by omega)
    obtain ⟨j, hj⟩ : ∃ j, j = a + 1 + m := ⟨_, rfl⟩
    obtain ⟨p, hp⟩ : ∃ p, p = lgN S (lg S) a m := ⟨_, rfl⟩
    rw [lgN_s, ← hj]
    rw [← hp] at i1 i2 i3 i4 i5 i6 i7 ⊢
    obtain ⟨t1, t2, t3, t4, t5⟩ := ht j (by omega) (by omega)
    by_cases c : ld S a j = true
    · rw [if_pos c]
      obtain ⟨u1, u2⟩ := lnF_up (show a < j by omega) t1 (by omega) c t3
      by_cases d : p.1 < (lg S j).1 + 1 ∨ ((lg S j).1 + 1 = p.1 ∧ (lg S j).2 < p.2)
      · rw [if_pos d]
        refine ⟨by omega, t2, u1, by show (lg S j).1 + 1 ≤ lnF S a (lg S j).2; omega, by show 1 ≤ (lg S j).1 + 1; omega, fun z => ?_, fun k h1 h2 h3 b h4 h5 h6 => ?_⟩
        · have z : 1 = (lg S j).1 + 1 := z
          have : 1 ≤ lnF S j (lg S j).2 := by
            have := (pth_facts (S := S) (kind := 0) (to := (lg S j).2) 12 j t1 (by omega) t3).1
            have e : pthL S 0 j (lg S j).2 = pth S 0 (lg S j).2 12 j := if_pos t3
            unfold lnF
            rw [e]
            exact this
          omega
        · show 1 + lnF S k b ≤ (lg S j).1 + 1 ∧ (1 + lnF S k b = (lg S j).1 + 1 → (lg S j).2 ≤ b)
          by_cases e : k = j
          · subst e
            obtain ⟨v1, v2⟩ := t5 b h4 h5 h6
            exact ⟨by omega, fun z => v2 (by omega)⟩
          · obtain ⟨v1, v2⟩ := i7 k h1 (by omega) h3 b h4 h5 h6
            refine ⟨by omega, fun z => ?_⟩
            rcases d with d | d
            · omega
            · have := v2 (by omega)
              omega
      · rw [if_neg d]
        refine ⟨i1, i2, i3, i4, i5, i6, fun k h1 h2 h3 b h4 h5 h6 => ?_⟩
        by_cases e : k = j
        · subst e
          obtain ⟨v1, v2⟩ := t5 b h4 h5 h6
          refine ⟨by omega, fun z => ?_⟩
          have := v2 (by omega)
          omega
        · exact i7 k h1 (by omega) h3 b h4 h5 h6
    · rw [if_neg c]
      refine ⟨i1, i2, i3, i4, i5, i6, fun k h1 h2 h3 b h4 h5 h6 => ?_⟩
      by_cases e : k = j
      · subst e; exact absurd h3 c
      · exact i7 k h1 (by omega) h3 b h4 h5 h6
theorem lg_ok {S : tS} (h12 : S.1.length ≤ 12) : ∀ (d a : Nat), S.1.length - a ≤ d → a < S.1.length → LgOk S a (lg S a)
  | 0, a, h1, h2 => by omega
  | d + 1, a, h1, h2 => by
    obtain ⟨i1, i2, i3, i4, i5, i6, i7⟩ := lgN_ok h12 h2 (fun j hj1 hj2 => lg_ok h12 d j (by omega) hj2) (S.1.length - 1 - a) (by omega)
    rw [← lg_eq S h2] at i1 i2 i3 i4 i5 i6 i7
    have up : ∀ b, a ≤ b → b < S.1.length → isK S 0 a b = true → lnF S a b ≤ (lg S a).1 ∧ (lnF S a b = (lg S a).1 → (lg S a).2 ≤ b) := fun b hb1 hb2 hb3 => by
      by_cases e : a = b
      · subst e
        rw [lnF_self (by omega)]
        exact ⟨i5, i6⟩
      · obtain ⟨k, k1, k2, k3, k4, k5⟩ := lnF_ex (show a < b by omega) (by omega) hb3
        rw [k5]
        exact i7 k k1 (by omega) k3 b k2 hb2 k4
    exact ⟨i1, i2, i3, Nat.le_antisymm (up _ i1 i2 i3).1 i4, up⟩
theorem lnF_le {S : tS} {a b : Nat} (hab : a ≤ b) (hb : b < 12) : lnF S a b ≤ 12 := by
  cases h : isK S 0 a b with
  | false => rw [lnF_no h]; omega
  | true =>
    have e : pthL S 0 a b = pth S 0 b 12 a := if_pos h
    have := (pth_facts (S := S) (kind := 0) (to := b) 12 a hab (by omega) h).2.1
    unfold lnF
    rw [e]
    omega
/-- from the highest step down: the longest climb so far -/
def mm (S : tS) : Nat → Nat × Nat × Nat
  | 0 => (0, 0, 0)
  | d + 1 => if (mm S d).1 ≤ (lg S (S.1.length - 1 - d)).1 then ((lg S (S.1.length - 1 - d)).1, S.1.length - 1 - d, (lg S (S.1.length - 1 - d)).2) else mm S d
theorem mm_s {S : tS} {d : Nat} : mm S (d + 1) = if (mm S d).1 ≤ (lg S (S.1.length - 1 - d)).1 then ((lg S (S.1.length - 1 - d)).1, S.1.length - 1 - d, (lg S (S.1.length - 1 - d)).2) else mm S d := rfl
theorem mm_ok {S : tS} : ∀ d, 1 ≤ d → d ≤ S.1.length → S.1.length - d ≤ (mm S d).2.1 ∧ (mm S d).2.1 < S.1.length ∧ lg S (mm S d).2.1 = ((mm S d).1, (mm S d).2.2) ∧ ∀ k, S.1.length - d ≤ k → k < S.1.length → (lg S k).1 ≤ (mm S d).1 ∧ ((lg S k).1 = (mm S d).1 → (mm S d).2.1 ≤ k)
  | 0, h, _ => by omega
  | d + 1, _, h => by
    by_cases h0 : d = 0
    · subst h0
      have e : mm S (0 + 1) = ((lg S (S.1.length - 1 - 0)).1, S.1.length - 1 - 0, (lg S (S.1.length - 1 - 0)).2) := if_pos (Nat.zero_le _)
      rw [e]
      refine ⟨by show _ ≤ S.1.length - 1 - 0; omega, by show S.1.length - 1 - 0 < _; omega, rfl, fun k h1 h2 => ?_⟩
      have : k = S.1.length - 1 - 0 := by omega
      subst this
      exact ⟨Nat.le_refl _, fun _ => Nat.le_refl _⟩
    · obtain ⟨i1, i2, i3, i4⟩ := mm_ok (S := S) d (by omega) (by omega)
      rw [mm_s]
      by_cases c : (mm S d).1 ≤ (lg S (S.1.length - 1 - d)).1
      · rw [if_pos c]
        refine ⟨by show _ ≤ S.1.length - 1 - d; omega, by show S.1.length - 1 - d < _; omega, rfl, fun k h1 h2 => ?_⟩
        show (lg S k).1 ≤ (lg S (S.1.length - 1 - d)).1 ∧ ((lg S k).1 = (lg S (S.1.length - 1 - d)).1 → S.1.length - 1 - d ≤ k)
        by_cases e : k = S.1.length - 1 - d
        · subst e; exact ⟨Nat.le_refl _, fun _ => Nat.le_refl _⟩
        · have := i4 k (by omega) h2
          exact ⟨by omega, fun _ => by omega⟩
      · rw [if_neg c]
        refine ⟨by omega, i2, i3, fun k h1 h2 => ?_⟩
        by_cases e : k = S.1.length - 1 - d
        · subst e; exact ⟨by omega, fun z => by omega⟩
        · exact i4 k (by omega) h2
section
variable {σ : sSt} {C : tC} {S : tS} {a : Nat}
def TabL (S : tS) (k : Nat) (C : tC) : Prop := ∀ z, k ≤ z → z < S.1.length → C.2 2 z = nI (lg S z).1 ∧ C.2 4 z = nI (lg S z).2
theorem lg_in {S : tS} (h12 : S.1.length ≤ 12) {k : Nat} (hk : k < S.1.length) : (lg S k).1 ≤ 12 ∧ (lg S k).2 < 12 := by
  obtain ⟨h1, h2, h3, h4, h5⟩ := lg_ok h12 _ k (Nat.le_refl _) hk
  have := lnF_le (S := S) h1 (by omega)
  omega
theorem lgN_in {S : tS} (h12 : S.1.length ≤ 12) {k : Nat} (hk : k < S.1.length) : ∀ m, k + m < S.1.length → (lgN S (lg S) k m).1 ≤ 13 ∧ (lgN S (lg S) k m).2 < 12
  | 0, _ => ⟨by show 1 ≤ 13; omega, by show k < 12; omega⟩
  | m + 1, h => by
    have ih := lgN_in h12 hk m (by omega)
    have b := lg_in h12 (show k + 1 + m < S.1.length by omega)
    rw [lgN_s]
    split
    · split
      · exact ⟨by show (lg S (k + 1 + m)).1 + 1 ≤ 13; omega, b.2⟩
      · exact ih
    · exact ih
theorem f_longFrom (hσ : 72 ≤ σ.1.length) (h : StO σ a S) (ha : a < 54) {k : Nat} (hk : k < S.1.length) (hC : TabL S (k + 1) C) : ∃ C' : tC, M_X1_seekLongestFrom [.ref 55, .ref a, .int (nI k)] (cp σ C) = some (none, cp σ C') ∧ TabL S k C' ∧ C'.1 = C.1 := by
  have hs := fun C : tC => cp_StO (C := C) hσ h ha
  have hl := h.1.1
  have o1 : ∀ C : tC, h_obj (cp σ C) (some 55) 1 = some (cF C.1) := fun C => cp_o hσ
  have o2 : ∀ C : tC, h_obj (cp σ C) (some a) 5 = _ := fun C => h_obj_eq (hs C).2.1
  have hw := wh_up (C := C_X1_seekLongestFrom_1) (S := W_X1_seekLongestFrom_1) (L := [.ref 55, .ref a, .int (nI k), .int (nI 1), .int (nI k), .int (nI (k + 1))]) (σ := cp σ C) (fun m => ([.ref 55, .ref a, .int (nI k), .int (nI (lgN S (lg S) k m).1), .int (nI (lgN S (lg S) k m).2), .int (nI (k + 1 + m))], cp σ C)) 0 (S.1.length - 1 - k) rfl (by omega) (by omega) (fun m _ hm => ⟨by
      show C_X1_seekLongestFrom_1 [.ref 55, .ref a, .int (nI k), .int _, .int _, .int (nI (k + 1 + m))] (cp σ C) = some (true, cp σ C)
      simp (disch := omega) only [x_k, x_i, x_r, x_nil, x_add, x_sub, x_mul, x_div, x_rem, x_get, x_getR, x_ald, x_aldR, x_len, x_lenR, x_if, xa_nil, xa_ci, xa_cr, x_callI, x_callR, x_new, x_newa, x_newq, x_max, x_min, xc_cmp, xc_cmp0, xc_null, xc_nn, xc_not, xc_and, xc_or, xc_if, xs_skip, xs_seq, xs_decI, xs_decR, xs_setI, xs_inc, xs_if, xs_blk, xs_retI, xs_retB, xs_retR, xs_retD, xs_ret0, xs_putI, xs_putZ, xs_putR, xs_putop, xs_ast, xs_astop, xs_astR, xs_callV, xs_callP, xs_super, xs_sw, s_go_inl, s_go_inr, s_cut_inl, s_cut_inr, o_void_n, v_i_int, v_i_none, v_r_ref, v_r_null, v_r_rf, h_set_some, o_some_s, zB_ne0, zB_ite, zB_ite2, g_Vn, g_Pi, nI_add, Option.bind_some, Option.map_some, Option.bind_none, Option.map_none, List.getElem?_cons_zero, List.getElem?_cons_succ, List.set_cons_zero, List.set_cons_succ, List.cons_append, List.nil_append, List.take_succ_cons, List.take_zero, List.length_cons, List.length_nil, Nat.zero_add, Nat.reduceAdd, Nat.reduceLT, if_true, if_false, Bool.false_eq_true, Bool.true_eq_false, decide_eq_true_eq, decide_true, decide_false, Bool.not_true, Bool.not_false, Option.isNone_none, Option.isNone_some, Option.isSome_none, Option.isSome_some, ite_true, ite_false, reduceIte, reduceCtorEq, and_true, true_and, eq_self, Option.some.injEq, Sum.inr.injEq, Sum.inl.injEq, Prod.mk.injEq, o2, j_lt, show k + 1 + m < S.1.length by omega], by
      show W_X1_seekLongestFrom_1 [.ref 55, .ref a, .int (nI k), .int (nI (lgN S (lg S) k m).1), .int (nI (lgN S (lg S) k m).2), .int (nI (k + 1 + m))] (cp σ C) = some (.inr ([.ref 55, .ref a, .int (nI k), .int (nI (lgN S (lg S) k (m + 1)).1), .int (nI (lgN S (lg S) k (m + 1)).2), .int (nI (k + 1 + m + 1))], cp σ C))
      have b1 := lgN_in hl hk m (by omega)
      rw [lgN_s]
      obtain ⟨j, hj⟩ : ∃ j, j = k + 1 + m := ⟨_, rfl⟩
      obtain ⟨p, hp⟩ : ∃ p, p = lgN S (lg S) k m := ⟨_, rfl⟩
      rw [← hj, ← hp]
      rw [← hp] at b1
      have b2 := lg_in hl (show j < S.1.length by omega)
      obtain ⟨c1, c2⟩ := hC j (by omega) (by omega)
      cases c : ld S k j with
      | false => simp (disch := omega) only [x_k, x_i, x_r, x_nil, x_add, x_sub, x_mul, x_div, x_rem, x_get, x_getR, x_ald, x_aldR, x_len, x_lenR, x_if, xa_nil, xa_ci, xa_cr, x_callI, x_callR, x_new, x_newa, x_newq, x_max, x_min, xc_cmp, xc_cmp0, xc_null, xc_nn, xc_not, xc_and, xc_or, xc_if, xs_skip, xs_seq, xs_decI, xs_decR, xs_setI, xs_inc, xs_if, xs_blk, xs_retI, xs_retB, xs_retR, xs_retD, xs_ret0, xs_putI, xs_putZ, xs_putR, xs_putop, xs_ast, xs_astop, xs_astR, xs_callV, xs_callP, xs_super, xs_sw, s_go_inl, s_go_inr, s_cut_inl, s_cut_inr, o_void_n, v_i_int, v_i_none, v_r_ref, v_r_null, v_r_rf, h_set_some, o_some_s, zB_ne0, zB_ite, zB_ite2, g_Vn, g_Pi, nI_add, Option.bind_some, Option.map_some, Option.bind_none, Option.map_none, List.getElem?_cons_zero, List.getElem?_cons_succ, List.set_cons_zero, List.set_cons_succ, List.cons_append, List.nil_append, List.take_succ_cons, List.take_zero, List.length_cons, List.length_nil, Nat.zero_add, Nat.reduceAdd, Nat.reduceLT, if_true, if_false, Bool.false_eq_true, Bool.true_eq_false, decide_eq_true_eq, decide_true, decide_false, Bool.not_true, Bool.not_false, Option.isNone_none, Option.isNone_some, Option.isSome_none, Option.isSome_some, ite_true, ite_false, reduceIte, reduceCtorEq, and_true, true_and, eq_self, Option.some.injEq, Sum.inr.injEq, Sum.inl.injEq, Prod.mk.injEq, v_rf, f_leads (hs C) (show k < 2 ^ 31 by omega) (show j < 2 ^ 31 by omega), c]
      | true =>
        by_cases d1 : p.1 < (lg S j).1 + 1
        · simp (disch := omega) only [x_k, x_i, x_r, x_nil, x_add, x_sub, x_mul, x_div, x_rem, x_get, x_getR, x_ald, x_aldR, x_len, x_lenR, x_if, xa_nil, xa_ci, xa_cr, x_callI, x_callR, x_new, x_newa, x_newq, x_max, x_min, xc_cmp, xc_cmp0, xc_null, xc_nn, xc_not, xc_and, xc_or, xc_if, xs_skip, xs_seq, xs_decI, xs_decR, xs_setI, xs_inc, xs_if, xs_blk, xs_retI, xs_retB, xs_retR, xs_retD, xs_ret0, xs_putI, xs_putZ, xs_putR, xs_putop, xs_ast, xs_astop, xs_astR, xs_callV, xs_callP, xs_super, xs_sw, s_go_inl, s_go_inr, s_cut_inl, s_cut_inr, o_void_n, v_i_int, v_i_none, v_r_ref, v_r_null, v_r_rf, h_set_some, o_some_s, zB_ne0, zB_ite, zB_ite2, g_Vn, g_Pi, nI_add, Option.bind_some, Option.map_some, Option.bind_none, Option.map_none, List.getElem?_cons_zero, List.getElem?_cons_succ, List.set_cons_zero, List.set_cons_succ, List.cons_append, List.nil_append, List.take_succ_cons, List.take_zero, List.length_cons, List.length_nil, Nat.zero_add, Nat.reduceAdd, Nat.reduceLT, if_true, if_false, Bool.false_eq_true, Bool.true_eq_false, decide_eq_true_eq, decide_true, decide_false, Bool.not_true, Bool.not_false, Option.isNone_none, Option.isNone_some, Option.isSome_none, Option.isSome_some, ite_true, ite_false, reduceIte, reduceCtorEq, and_true, true_and, eq_self, Option.some.injEq, Sum.inr.injEq, Sum.inl.injEq, Prod.mk.injEq, not_true_eq_false, not_false_eq_true, Bool.decide_eq_true, n0_ne, n1_ne, xz_ret, zb_if, n1_if, n0_if, v_rf, h_ix_nI, nI_clamp, zB_t, zB_f, uN_uN, uN_ap, Nat.reduceEqDiff, Nat.reduceMul, Nat.reduceSub, cp_o hσ, cF_len, cp_s0 hσ, c_at1 hσ, c_at2 hσ, c_at3 hσ, c_at4 hσ, c_put1 hσ, c_put2 hσ, c_put3 hσ, c_put4 hσ, cg0, cg1, cg2, cg3, cg4, cg5, cg6, cg7, cs1, cs2, cs3, cs4, f_leads (hs C) (show k < 2 ^ 31 by omega) (show j < 2 ^ 31 by omega), c, c1, c2, j_gt, d1, true_or]
        · by_cases d2 : (lg S j).1 + 1 = p.1
          · by_cases d3 : (lg S j).2 < p.2
            · simp (disch := omega) only [x_k, x_i, x_r, x_nil, x_add, x_sub, x_mul, x_div, x_rem, x_get, x_getR, x_ald, x_aldR, x_len, x_lenR, x_if, xa_nil, xa_ci, xa_cr, x_callI, x_callR, x_new, x_newa, x_newq, x_max, x_min, xc_cmp, xc_cmp0, xc_null, xc_nn, xc_not, xc_and, xc_or, xc_if, xs_skip, xs_seq, xs_decI, xs_decR, xs_setI, xs_inc, xs_if, xs_blk, xs_retI, xs_retB, xs_retR, xs_retD, xs_ret0, xs_putI, xs_putZ, xs_putR, xs_putop, xs_ast, xs_astop, xs_astR, xs_callV, xs_callP, xs_super, xs_sw, s_go_inl, s_go_inr, s_cut_inl, s_cut_inr, o_void_n, v_i_int, v_i_none, v_r_ref, v_r_null, v_r_rf, h_set_some, o_some_s, zB_ne0, zB_ite, zB_ite2, g_Vn, g_Pi, nI_add, Option.bind_some, Option.map_some, Option.bind_none, Option.map_none, List.getElem?_cons_zero, List.getElem?_cons_succ, List.set_cons_zero, List.set_cons_succ, List.cons_append, List.nil_append, List.take_succ_cons, List.take_zero, List.length_cons, List.length_nil, Nat.zero_add, Nat.reduceAdd, Nat.reduceLT, if_true, if_false, Bool.false_eq_true, Bool.true_eq_false, decide_eq_true_eq, decide_true, decide_false, Bool.not_true, Bool.not_false, Option.isNone_none, Option.isNone_some, Option.isSome_none, Option.isSome_some, ite_true, ite_false, reduceIte, reduceCtorEq, and_true, true_and, eq_self, Option.some.injEq, Sum.inr.injEq, Sum.inl.injEq, Prod.mk.injEq, not_true_eq_false, not_false_eq_true, Bool.decide_eq_true, n0_ne, n1_ne, xz_ret, zb_if, n1_if, n0_if, v_rf, h_ix_nI, nI_clamp, zB_t, zB_f, uN_uN, uN_ap, Nat.reduceEqDiff, Nat.reduceMul, Nat.reduceSub, cp_o hσ, cF_len, cp_s0 hσ, c_at1 hσ, c_at2 hσ, c_at3 hσ, c_at4 hσ, c_put1 hσ, c_put2 hσ, c_put3 hσ, c_put4 hσ, cg0, cg1, cg2, cg3, cg4, cg5, cg6, cg7, cs1, cs2, cs3, cs4, f_leads (hs C) (show k < 2 ^ 31 by omega) (show j < 2 ^ 31 by omega), c, c1, c2, j_gt, j_eq, j_lt, d1, d2, d3, Nat.lt_irrefl, or_true]
            · simp (disch := omega) only [x_k, x_i, x_r, x_nil, x_add, x_sub, x_mul, x_div, x_rem, x_get, x_getR, x_ald, x_aldR, x_len, x_lenR, x_if, xa_nil, xa_ci, xa_cr, x_callI, x_callR, x_new, x_newa, x_newq, x_max, x_min, xc_cmp, xc_cmp0, xc_null, xc_nn, xc_not, xc_and, xc_or, xc_if, xs_skip, xs_seq, xs_decI, xs_decR, xs_setI, xs_inc, xs_if, xs_blk, xs_retI, xs_retB, xs_retR, xs_retD, xs_ret0, xs_putI, xs_putZ, xs_putR, xs_putop, xs_ast, xs_astop, xs_astR, xs_callV, xs_callP, xs_super, xs_sw, s_go_inl, s_go_inr, s_cut_inl, s_cut_inr, o_void_n, v_i_int, v_i_none, v_r_ref, v_r_null, v_r_rf, h_set_some, o_some_s, zB_ne0, zB_ite, zB_ite2, g_Vn, g_Pi, nI_add, Option.bind_some, Option.map_some, Option.bind_none, Option.map_none, List.getElem?_cons_zero, List.getElem?_cons_succ, List.set_cons_zero, List.set_cons_succ, List.cons_append, List.nil_append, List.take_succ_cons, List.take_zero, List.length_cons, List.length_nil, Nat.zero_add, Nat.reduceAdd, Nat.reduceLT, if_true, if_false, Bool.false_eq_true, Bool.true_eq_false, decide_eq_true_eq, decide_true, decide_false, Bool.not_true, Bool.not_false, Option.isNone_none, Option.isNone_some, Option.isSome_none, Option.isSome_some, ite_true, ite_false, reduceIte, reduceCtorEq, and_true, true_and, eq_self, Option.some.injEq, Sum.inr.injEq, Sum.inl.injEq, Prod.mk.injEq, not_true_eq_false, not_false_eq_true, Bool.decide_eq_true, n0_ne, n1_ne, xz_ret, zb_if, n1_if, n0_if, v_rf, h_ix_nI, nI_clamp, zB_t, zB_f, uN_uN, uN_ap, Nat.reduceEqDiff, Nat.reduceMul, Nat.reduceSub, cp_o hσ, cF_len, cp_s0 hσ, c_at1 hσ, c_at2 hσ, c_at3 hσ, c_at4 hσ, c_put1 hσ, c_put2 hσ, c_put3 hσ, c_put4 hσ, cg0, cg1, cg2, cg3, cg4, cg5, cg6, cg7, cs1, cs2, cs3, cs4, f_leads (hs C) (show k < 2 ^ 31 by omega) (show j < 2 ^ 31 by omega), c, c1, c2, j_gt, j_eq, j_lt, d1, d2, d3, Nat.lt_irrefl, and_false, or_false]
          · simp (disch := omega) only [x_k, x_i, x_r, x_nil, x_add, x_sub, x_mul, x_div, x_rem, x_get, x_getR, x_ald, x_aldR, x_len, x_lenR, x_if, xa_nil, xa_ci, xa_cr, x_callI, x_callR, x_new, x_newa, x_newq, x_max, x_min, xc_cmp, xc_cmp0, xc_null, xc_nn, xc_not, xc_and, xc_or, xc_if, xs_skip, xs_seq, xs_decI, xs_decR, xs_setI, xs_inc, xs_if, xs_blk, xs_retI, xs_retB, xs_retR, xs_retD, xs_ret0, xs_putI, xs_putZ, xs_putR, xs_putop, xs_ast, xs_astop, xs_astR, xs_callV, xs_callP, xs_super, xs_sw, s_go_inl, s_go_inr, s_cut_inl, s_cut_inr, o_void_n, v_i_int, v_i_none, v_r_ref, v_r_null, v_r_rf, h_set_some, o_some_s, zB_ne0, zB_ite, zB_ite2, g_Vn, g_Pi, nI_add, Option.bind_some, Option.map_some, Option.bind_none, Option.map_none, List.getElem?_cons_zero, List.getElem?_cons_succ, List.set_cons_zero, List.set_cons_succ, List.cons_append, List.nil_append, List.take_succ_cons, List.take_zero, List.length_cons, List.length_nil, Nat.zero_add, Nat.reduceAdd, Nat.reduceLT, if_true, if_false, Bool.false_eq_true, Bool.true_eq_false, decide_eq_true_eq, decide_true, decide_false, Bool.not_true, Bool.not_false, Option.isNone_none, Option.isNone_some, Option.isSome_none, Option.isSome_some, ite_true, ite_false, reduceIte, reduceCtorEq, and_true, true_and, eq_self, Option.some.injEq, Sum.inr.injEq, Sum.inl.injEq, Prod.mk.injEq, not_true_eq_false, not_false_eq_true, Bool.decide_eq_true, n0_ne, n1_ne, xz_ret, zb_if, n1_if, n0_if, v_rf, h_ix_nI, nI_clamp, zB_t, zB_f, uN_uN, uN_ap, Nat.reduceEqDiff, Nat.reduceMul, Nat.reduceSub, cp_o hσ, cF_len, cp_s0 hσ, c_at1 hσ, c_at2 hσ, c_at3 hσ, c_at4 hσ, c_put1 hσ, c_put2 hσ, c_put3 hσ, c_put4 hσ, cg0, cg1, cg2, cg3, cg4, cg5, cg6, cg7, cs1, cs2, cs3, cs4, f_leads (hs C) (show k < 2 ^ 31 by omega) (show j < 2 ^ 31 by omega), c, c1, c2, j_gt, j_eq, j_lt, d1, d2, false_and, or_false]⟩) (by
      show C_X1_seekLongestFrom_1 [.ref 55, .ref a, .int (nI k), .int _, .int _, .int (nI (k + 1 + (S.1.length - 1 - k)))] (cp σ C) = some (false, cp σ C)
      simp (disch := omega) only [x_k, x_i, x_r, x_nil, x_add, x_sub, x_mul, x_div, x_rem, x_get, x_getR, x_ald, x_aldR, x_len, x_lenR, x_if, xa_nil, xa_ci, xa_cr, x_callI, x_callR, x_new, x_newa, x_newq, x_max, x_min, xc_cmp, xc_cmp0, xc_null, xc_nn, xc_not, xc_and, xc_or, xc_if, xs_skip, xs_seq, xs_decI, xs_decR, xs_setI, xs_inc, xs_if, xs_blk, xs_retI, xs_retB, xs_retR, xs_retD, xs_ret0, xs_putI, xs_putZ, xs_putR, xs_putop, xs_ast, xs_astop, xs_astR, xs_callV, xs_callP, xs_super, xs_sw, s_go_inl, s_go_inr, s_cut_inl, s_cut_inr, o_void_n, v_i_int, v_i_none, v_r_ref, v_r_null, v_r_rf, h_set_some, o_some_s, zB_ne0, zB_ite, zB_ite2, g_Vn, g_Pi, nI_add, Option.bind_some, Option.map_some, Option.bind_none, Option.map_none, List.getElem?_cons_zero, List.getElem?_cons_succ, List.set_cons_zero, List.set_cons_succ, List.cons_append, List.nil_append, List.take_succ_cons, List.take_zero, List.length_cons, List.length_nil, Nat.zero_add, Nat.reduceAdd, Nat.reduceLT, if_true, if_false, Bool.false_eq_true, Bool.true_eq_false, decide_eq_true_eq, decide_true, decide_false, Bool.not_true, Bool.not_false, Option.isNone_none, Option.isNone_some, Option.isSome_none, Option.isSome_some, ite_true, ite_false, reduceIte, reduceCtorEq, and_true, true_and, eq_self, Option.some.injEq, Sum.inr.injEq, Sum.inl.injEq, Prod.mk.injEq, o2, j_lt, show ¬ k + 1 + (S.1.length - 1 - k) < S.1.length by omega])
  rw [← lg_eq S hk] at hw
  obtain ⟨C1, hC1⟩ : ∃ C1 : tC, C1 = (C.1, uN C.2 2 (upd (C.2 2) k (nI (lg S k).1))) := ⟨_, rfl⟩
  obtain ⟨C2, hC2⟩ : ∃ C2 : tC, C2 = (C1.1, uN C1.2 4 (upd (C1.2 4) k (nI (lg S k).2))) := ⟨_, rfl⟩
  have p1 : M_X5_put [.ref 57, .int (nI k), .int (nI (lg S k).1)] (cp σ C) = some (none, cp σ C1) := by rw [hC1]; exact c_put2 hσ (by omega) _
  have p2 : M_X5_put [.ref 59, .int (nI k), .int (nI (lg S k).2)] (cp σ C1) = some (none, cp σ C2) := by rw [hC2]; exact c_put4 hσ (by omega) _
  refine ⟨C2, mV_eq (cp_at (k := 0) hσ rfl) rfl rfl ?_, fun z h1 h2 => ?_, by rw [hC2, hC1]⟩
  · unfold B_X1_seekLongestFrom
    simp (disch := omega) only [x_k, x_i, x_r, x_nil, x_add, x_sub, x_mul, x_div, x_rem, x_get, x_getR, x_ald, x_aldR, x_len, x_lenR, x_if, xa_nil, xa_ci, xa_cr, x_callI, x_callR, x_new, x_newa, x_newq, x_max, x_min, xc_cmp, xc_cmp0, xc_null, xc_nn, xc_not, xc_and, xc_or, xc_if, xs_skip, xs_seq, xs_decI, xs_decR, xs_setI, xs_inc, xs_if, xs_blk, xs_retI, xs_retB, xs_retR, xs_retD, xs_ret0, xs_putI, xs_putZ, xs_putR, xs_putop, xs_ast, xs_astop, xs_astR, xs_callV, xs_callP, xs_super, xs_sw, s_go_inl, s_go_inr, s_cut_inl, s_cut_inr, o_void_n, v_i_int, v_i_none, v_r_ref, v_r_null, v_r_rf, h_set_some, o_some_s, zB_ne0, zB_ite, zB_ite2, g_Vn, g_Pi, nI_add, Option.bind_some, Option.map_some, Option.bind_none, Option.map_none, List.getElem?_cons_zero, List.getElem?_cons_succ, List.set_cons_zero, List.set_cons_succ, List.cons_append, List.nil_append, List.take_succ_cons, List.take_zero, List.length_cons, List.length_nil, Nat.zero_add, Nat.reduceAdd, Nat.reduceLT, if_true, if_false, Bool.false_eq_true, Bool.true_eq_false, decide_eq_true_eq, decide_true, decide_false, Bool.not_true, Bool.not_false, Option.isNone_none, Option.isNone_some, Option.isSome_none, Option.isSome_some, ite_true, ite_false, reduceIte, reduceCtorEq, and_true, true_and, eq_self, Option.some.injEq, Sum.inr.injEq, Sum.inl.injEq, Prod.mk.injEq, v_rf, o1, cg5, cg7, hw, p1, p2]
  · rw [hC2, hC1]
    by_cases e : z = k
    · subst e
      exact ⟨upd_s _ _ _, upd_s _ _ _⟩
    · obtain ⟨c1, c2⟩ := hC z (by omega) h2
      exact ⟨(upd_o _ _ e).trans c1, (upd_o _ _ e).trans c2⟩
theorem f_seekLongest (hσ : 72 ≤ σ.1.length) (h : StO σ a S) (ha : a < 54) : ∃ C' : tC, M_X1_seekLongest [.ref 55, .ref a] (cp σ C) = some (none, cp σ C') ∧ C'.1 2 = nI (mm S S.1.length).1 ∧ (1 ≤ S.1.length → C'.1 3 = nI (mm S S.1.length).2.1 ∧ C'.1 4 = nI (mm S S.1.length).2.2) := by
  have hs := fun C : tC => cp_StO (C := C) hσ h ha
  have hl := h.1.1
  have o1 : ∀ C : tC, h_obj (cp σ C) (some 55) 1 = some (cF C.1) := fun C => cp_o hσ
  have o2 : ∀ C : tC, h_obj (cp σ C) (some a) 5 = _ := fun C => h_obj_eq (hs C).2.1
  have o3 : ∀ (C : tC) (I : Nat → Int32), ((cp σ C).1.set 55 (.inl (1, cF I)), (cp σ C).2) = cp σ (I, C.2) := fun C I => cp_s0 hσ
  have m12 : ∀ d, d ≤ S.1.length → (mm S d).1 ≤ 12 := fun d hd => by
    rcases Nat.lt_or_ge 0 d with q | q
    · obtain ⟨i1, i2, i3, i4⟩ := mm_ok (S := S) d q hd
      have := (lg_in hl i2).1
      rw [i3] at this
      exact this
    · have : d = 0 := by omega
      subst this
      exact Nat.zero_le _
  have key : ∀ (d k : Nat) (C : tC), k + 1 = d → d ≤ S.1.length → TabL S d C → C.1 2 = nI (mm S (S.1.length - d)).1 → (d < S.1.length → C.1 3 = nI (mm S (S.1.length - d)).2.1 ∧ C.1 4 = nI (mm S (S.1.length - d)).2.2) → ∀ F, d < F → ∃ C' : tC, s_wh C_X1_seekLongest_1 W_X1_seekLongest_1 F [.ref 55, .ref a, .int (nI k)] (cp σ C) = some (.inr ([.ref 55, .ref a, .int (-1)], cp σ C')) ∧ C'.1 2 = nI (mm S S.1.length).1 ∧ C'.1 3 = nI (mm S S.1.length).2.1 ∧ C'.1 4 = nI (mm S S.1.length).2.2 := by
    intro d
    induction d with
    | zero => intro k C hk; omega
    | succ d ih =>
      intro k C hk hd hT hm hf F hF
      obtain ⟨F, rfl⟩ : ∃ F', F = F' + 1 := ⟨F - 1, by omega⟩
      have hkd : k = d := by omega
      subst hkd
      obtain ⟨C1, r1, t1, e1⟩ := f_longFrom (C := C) hσ h ha (k := k) (by omega) hT
      obtain ⟨c1, c2⟩ := t1 k (Nat.le_refl _) (by omega)
      have b1 := lg_in hl (show k < S.1.length by omega)
      have b2 := m12 (S.1.length - (k + 1)) (by omega)
      have a2 := c_at2 (C := C1) hσ (show k < 12 by omega)
      rw [c1] at a2
      have ms := mm_s (S := S) (d := S.1.length - (k + 1))
      rw [show S.1.length - (k + 1) + 1 = S.1.length - k by omega, show S.1.length - 1 - (S.1.length - (k + 1)) = k by omega] at ms
      have hm1 : C1.1 2 = nI (mm S (S.1.length - (k + 1))).1 := by rw [e1]; exact hm
      have hCd : C_X1_seekLongest_1 [.ref 55, .ref a, .int (nI k)] (cp σ C) = some (true, cp σ C) := by
        simp (disch := omega) only [x_k, x_i, x_r, x_nil, x_add, x_sub, x_mul, x_div, x_rem, x_get, x_getR, x_ald, x_aldR, x_len, x_lenR, x_if, xa_nil, xa_ci, xa_cr, x_callI, x_callR, x_new, x_newa, x_newq, x_max, x_min, xc_cmp, xc_cmp0, xc_null, xc_nn, xc_not, xc_and, xc_or, xc_if, xs_skip, xs_seq, xs_decI, xs_decR, xs_setI, xs_inc, xs_if, xs_blk, xs_retI, xs_retB, xs_retR, xs_retD, xs_ret0, xs_putI, xs_putZ, xs_putR, xs_putop, xs_ast, xs_astop, xs_astR, xs_callV, xs_callP, xs_super, xs_sw, s_go_inl, s_go_inr, s_cut_inl, s_cut_inr, o_void_n, v_i_int, v_i_none, v_r_ref, v_r_null, v_r_rf, h_set_some, o_some_s, zB_ne0, zB_ite, zB_ite2, g_Vn, g_Pi, nI_add, Option.bind_some, Option.map_some, Option.bind_none, Option.map_none, List.getElem?_cons_zero, List.getElem?_cons_succ, List.set_cons_zero, List.set_cons_succ, List.cons_append, List.nil_append, List.take_succ_cons, List.take_zero, List.length_cons, List.length_nil, Nat.zero_add, Nat.reduceAdd, Nat.reduceLT, if_true, if_false, Bool.false_eq_true, Bool.true_eq_false, decide_eq_true_eq, decide_true, decide_false, Bool.not_true, Bool.not_false, Option.isNone_none, Option.isNone_some, Option.isSome_none, Option.isSome_some, ite_true, ite_false, reduceIte, reduceCtorEq, and_true, true_and, eq_self, Option.some.injEq, Sum.inr.injEq, Sum.inl.injEq, Prod.mk.injEq, j_ge0]
      have step : ∃ C2 : tC, W_X1_seekLongest_1 [.ref 55, .ref a, .int (nI k)] (cp σ C) = some (.inr ([.ref 55, .ref a, .int (nI k + -1)], cp σ C2)) ∧ TabL S k C2 ∧ C2.1 2 = nI (mm S (S.1.length - k)).1 ∧ C2.1 3 = nI (mm S (S.1.length - k)).2.1 ∧ C2.1 4 = nI (mm S (S.1.length - k)).2.2 := by
        by_cases c : (mm S (S.1.length - (k + 1))).1 ≤ (lg S k).1
        · rw [if_pos c] at ms
          rw [ms]
          obtain ⟨C2, hC2⟩ : ∃ C2 : tC, C2 = (uN C1.1 2 (nI (lg S k).1), C1.2) := ⟨_, rfl⟩
          obtain ⟨C3, hC3⟩ : ∃ C3 : tC, C3 = (uN C2.1 3 (nI k), C2.2) := ⟨_, rfl⟩
          obtain ⟨C4, hC4⟩ : ∃ C4 : tC, C4 = (uN C3.1 4 (nI (lg S k).2), C3.2) := ⟨_, rfl⟩
          have s1 : ((cp σ C1).1.set 55 (.inl (1, cF (uN C1.1 2 (nI (lg S k).1)))), (cp σ C1).2) = cp σ C2 := by rw [hC2]; exact o3 _ _
          have s2 : ((cp σ C2).1.set 55 (.inl (1, cF (uN C2.1 3 (nI k)))), (cp σ C2).2) = cp σ C3 := by rw [hC3]; exact o3 _ _
          have s3 : ((cp σ C3).1.set 55 (.inl (1, cF (uN C3.1 4 (nI (lg S k).2)))), (cp σ C3).2) = cp σ C4 := by rw [hC4]; exact o3 _ _
          have a4 : M_X5_at [.ref 59, .int (nI k)] (cp σ C3) = some (some (.int (nI (lg S k).2)), cp σ C3) := by
            have := c_at4 (C := C3) hσ (show k < 12 by omega)
            rw [show C3.2 4 k = nI (lg S k).2 by rw [hC3, hC2]; exact c2] at this
            exact this
          refine ⟨C4, ?_, ?_, ?_, ?_, ?_⟩
          · simp (disch := omega) only [x_k, x_i, x_r, x_nil, x_add, x_sub, x_mul, x_div, x_rem, x_get, x_getR, x_ald, x_aldR, x_len, x_lenR, x_if, xa_nil, xa_ci, xa_cr, x_callI, x_callR, x_new, x_newa, x_newq, x_max, x_min, xc_cmp, xc_cmp0, xc_null, xc_nn, xc_not, xc_and, xc_or, xc_if, xs_skip, xs_seq, xs_decI, xs_decR, xs_setI, xs_inc, xs_if, xs_blk, xs_retI, xs_retB, xs_retR, xs_retD, xs_ret0, xs_putI, xs_putZ, xs_putR, xs_putop, xs_ast, xs_astop, xs_astR, xs_callV, xs_callP, xs_super, xs_sw, s_go_inl, s_go_inr, s_cut_inl, s_cut_inr, o_void_n, v_i_int, v_i_none, v_r_ref, v_r_null, v_r_rf, h_set_some, o_some_s, zB_ne0, zB_ite, zB_ite2, g_Vn, g_Pi, nI_add, Option.bind_some, Option.map_some, Option.bind_none, Option.map_none, List.getElem?_cons_zero, List.getElem?_cons_succ, List.set_cons_zero, List.set_cons_succ, List.cons_append, List.nil_append, List.take_succ_cons, List.take_zero, List.length_cons, List.length_nil, Nat.zero_add, Nat.reduceAdd, Nat.reduceLT, if_true, if_false, Bool.false_eq_true, Bool.true_eq_false, decide_eq_true_eq, decide_true, decide_false, Bool.not_true, Bool.not_false, Option.isNone_none, Option.isNone_some, Option.isSome_none, Option.isSome_some, ite_true, ite_false, reduceIte, reduceCtorEq, and_true, true_and, eq_self, Option.some.injEq, Sum.inr.injEq, Sum.inl.injEq, Prod.mk.injEq, v_rf, r1, o1, cg2, cg5, cg7, cs2, cs3, cs4, cF_len, a2, hm1, j_ge, c, s1, s2, a4, s3]
          · rw [hC4, hC3, hC2]; exact t1
          · rw [hC4, hC3, hC2]; rfl
          · rw [hC4, hC3, hC2]; rfl
          · rw [hC4, hC3, hC2]; rfl
        · rw [if_neg c] at ms
          rw [ms]
          have hlt : k + 1 < S.1.length := by
            rcases Nat.lt_or_ge (k + 1) S.1.length with q | q
            · exact q
            · exfalso
              have e0 : S.1.length - (k + 1) = 0 := by omega
              rw [e0] at c
              exact c (Nat.zero_le _)
          refine ⟨C1, ?_, t1, hm1, by rw [e1]; exact (hf hlt).1, by rw [e1]; exact (hf hlt).2⟩
          simp (disch := omega) only [x_k, x_i, x_r, x_nil, x_add, x_sub, x_mul, x_div, x_rem, x_get, x_getR, x_ald, x_aldR, x_len, x_lenR, x_if, xa_nil, xa_ci, xa_cr, x_callI, x_callR, x_new, x_newa, x_newq, x_max, x_min, xc_cmp, xc_cmp0, xc_null, xc_nn, xc_not, xc_and, xc_or, xc_if, xs_skip, xs_seq, xs_decI, xs_decR, xs_setI, xs_inc, xs_if, xs_blk, xs_retI, xs_retB, xs_retR, xs_retD, xs_ret0, xs_putI, xs_putZ, xs_putR, xs_putop, xs_ast, xs_astop, xs_astR, xs_callV, xs_callP, xs_super, xs_sw, s_go_inl, s_go_inr, s_cut_inl, s_cut_inr, o_void_n, v_i_int, v_i_none, v_r_ref, v_r_null, v_r_rf, h_set_some, o_some_s, zB_ne0, zB_ite, zB_ite2, g_Vn, g_Pi, nI_add, Option.bind_some, Option.map_some, Option.bind_none, Option.map_none, List.getElem?_cons_zero, List.getElem?_cons_succ, List.set_cons_zero, List.set_cons_succ, List.cons_append, List.nil_append, List.take_succ_cons, List.take_zero, List.length_cons, List.length_nil, Nat.zero_add, Nat.reduceAdd, Nat.reduceLT, if_true, if_false, Bool.false_eq_true, Bool.true_eq_false, decide_eq_true_eq, decide_true, decide_false, Bool.not_true, Bool.not_false, Option.isNone_none, Option.isNone_some, Option.isSome_none, Option.isSome_some, ite_true, ite_false, reduceIte, reduceCtorEq, and_true, true_and, eq_self, Option.some.injEq, Sum.inr.injEq, Sum.inl.injEq, Prod.mk.injEq, v_rf, r1, o1, cg2, cg5, cg7, a2, hm1, j_ge, c]
      obtain ⟨C2, r2, t2, g1, g2, g3⟩ := step
      cases k with
      | zero =>
        obtain ⟨F, rfl⟩ : ∃ F', F = F' + 1 := ⟨F - 1, by omega⟩
        rw [Nat.sub_zero] at g1 g2 g3
        rw [show nI 0 + -1 = -1 by decide] at r2
        refine ⟨C2, (wh_T hCd r2).trans (wh_F ?_), g1, g2, g3⟩
        simp (disch := omega) only [x_k, x_i, x_r, x_nil, x_add, x_sub, x_mul, x_div, x_rem, x_get, x_getR, x_ald, x_aldR, x_len, x_lenR, x_if, xa_nil, xa_ci, xa_cr, x_callI, x_callR, x_new, x_newa, x_newq, x_max, x_min, xc_cmp, xc_cmp0, xc_null, xc_nn, xc_not, xc_and, xc_or, xc_if, xs_skip, xs_seq, xs_decI, xs_decR, xs_setI, xs_inc, xs_if, xs_blk, xs_retI, xs_retB, xs_retR, xs_retD, xs_ret0, xs_putI, xs_putZ, xs_putR, xs_putop, xs_ast, xs_astop, xs_astR, xs_callV, xs_callP, xs_super, xs_sw, s_go_inl, s_go_inr, s_cut_inl, s_cut_inr, o_void_n, v_i_int, v_i_none, v_r_ref, v_r_null, v_r_rf, h_set_some, o_some_s, zB_ne0, zB_ite, zB_ite2, g_Vn, g_Pi, nI_add, Option.bind_some, Option.map_some, Option.bind_none, Option.map_none, List.getElem?_cons_zero, List.getElem?_cons_succ, List.set_cons_zero, List.set_cons_succ, List.cons_append, List.nil_append, List.take_succ_cons, List.take_zero, List.length_cons, List.length_nil, Nat.zero_add, Nat.reduceAdd, Nat.reduceLT, if_true, if_false, Bool.false_eq_true, Bool.true_eq_false, decide_eq_true_eq, decide_true, decide_false, Bool.not_true, Bool.not_false, Option.isNone_none, Option.isNone_some, Option.isSome_none, Option.isSome_some, ite_true, ite_false, reduceIte, reduceCtorEq, and_true, true_and, eq_self, Option.some.injEq, Sum.inr.injEq, Sum.inl.injEq, Prod.mk.injEq, show i_ge (-1) 0 = false by decide]
      | succ k =>
        rw [j_dec (by omega)] at r2
        obtain ⟨C', w, z⟩ := ih k C2 rfl (by omega) t2 g1 (fun _ => ⟨g2, g3⟩) F (by omega)
        exact ⟨C', (wh_T hCd r2).trans w, z⟩
  obtain ⟨C0, hC0⟩ : ∃ C0 : tC, C0 = (uN C.1 2 (nI 0), C.2) := ⟨_, rfl⟩
  have s0 : ((cp σ C).1.set 55 (.inl (1, cF (uN C.1 2 (nI 0)))), (cp σ C).2) = cp σ C0 := by rw [hC0]; exact o3 _ _
  have z0 : C0.1 2 = nI 0 := by rw [hC0]; rfl
  by_cases h0 : S.1.length = 0
  · have w : s_while C_X1_seekLongest_1 W_X1_seekLongest_1 [.ref 55, .ref a, .int (-1)] (cp σ C0) = some (.inr ([.ref 55, .ref a, .int (-1)], cp σ C0)) := by
      show s_wh _ _ (999999999999 + 1) _ _ = _
      refine wh_F ?_
      simp (disch := omega) only [x_k, x_i, x_r, x_nil, x_add, x_sub, x_mul, x_div, x_rem, x_get, x_getR, x_ald, x_aldR, x_len, x_lenR, x_if, xa_nil, xa_ci, xa_cr, x_callI, x_callR, x_new, x_newa, x_newq, x_max, x_min, xc_cmp, xc_cmp0, xc_null, xc_nn, xc_not, xc_and, xc_or, xc_if, xs_skip, xs_seq, xs_decI, xs_decR, xs_setI, xs_inc, xs_if, xs_blk, xs_retI, xs_retB, xs_retR, xs_retD, xs_ret0, xs_putI, xs_putZ, xs_putR, xs_putop, xs_ast, xs_astop, xs_astR, xs_callV, xs_callP, xs_super, xs_sw, s_go_inl, s_go_inr, s_cut_inl, s_cut_inr, o_void_n, v_i_int, v_i_none, v_r_ref, v_r_null, v_r_rf, h_set_some, o_some_s, zB_ne0, zB_ite, zB_ite2, g_Vn, g_Pi, nI_add, Option.bind_some, Option.map_some, Option.bind_none, Option.map_none, List.getElem?_cons_zero, List.getElem?_cons_succ, List.set_cons_zero, List.set_cons_succ, List.cons_append, List.nil_append, List.take_succ_cons, List.take_zero, List.length_cons, List.length_nil, Nat.zero_add, Nat.reduceAdd, Nat.reduceLT, if_true, if_false, Bool.false_eq_true, Bool.true_eq_false, decide_eq_true_eq, decide_true, decide_false, Bool.not_true, Bool.not_false, Option.isNone_none, Option.isNone_some, Option.isSome_none, Option.isSome_some, ite_true, ite_false, reduceIte, reduceCtorEq, and_true, true_and, eq_self, Option.some.injEq, Sum.inr.injEq, Sum.inl.injEq, Prod.mk.injEq, show i_ge (-1) 0 = false by decide]
    refine ⟨C0, mV_eq (cp_at (k := 0) hσ rfl) rfl rfl ?_, by rw [h0]; exact z0, fun z => by omega⟩
    unfold B_X1_seekLongest
    have e : nI S.1.length - nI 1 = -1 := by rw [h0]; decide
    simp (disch := omega) only [x_k, x_i, x_r, x_nil, x_add, x_sub, x_mul, x_div, x_rem, x_get, x_getR, x_ald, x_aldR, x_len, x_lenR, x_if, xa_nil, xa_ci, xa_cr, x_callI, x_callR, x_new, x_newa, x_newq, x_max, x_min, xc_cmp, xc_cmp0, xc_null, xc_nn, xc_not, xc_and, xc_or, xc_if, xs_skip, xs_seq, xs_decI, xs_decR, xs_setI, xs_inc, xs_if, xs_blk, xs_retI, xs_retB, xs_retR, xs_retD, xs_ret0, xs_putI, xs_putZ, xs_putR, xs_putop, xs_ast, xs_astop, xs_astR, xs_callV, xs_callP, xs_super, xs_sw, s_go_inl, s_go_inr, s_cut_inl, s_cut_inr, o_void_n, v_i_int, v_i_none, v_r_ref, v_r_null, v_r_rf, h_set_some, o_some_s, zB_ne0, zB_ite, zB_ite2, g_Vn, g_Pi, nI_add, Option.bind_some, Option.map_some, Option.bind_none, Option.map_none, List.getElem?_cons_zero, List.getElem?_cons_succ, List.set_cons_zero, List.set_cons_succ, List.cons_append, List.nil_append, List.take_succ_cons, List.take_zero, List.length_cons, List.length_nil, Nat.zero_add, Nat.reduceAdd, Nat.reduceLT, if_true, if_false, Bool.false_eq_true, Bool.true_eq_false, decide_eq_true_eq, decide_true, decide_false, Bool.not_true, Bool.not_false, Option.isNone_none, Option.isNone_some, Option.isSome_none, Option.isSome_some, ite_true, ite_false, reduceIte, reduceCtorEq, and_true, true_and, eq_self, Option.some.injEq, Sum.inr.injEq, Sum.inl.injEq, Prod.mk.injEq, o1, cs2, cF_len, s0, o2, e, w]
  · obtain ⟨C', w, g1, g2, g3⟩ := key S.1.length (S.1.length - 1) C0 (by omega) (Nat.le_refl _) (fun z h1 h2 => by omega) (by rw [Nat.sub_self]; exact z0) (fun z => by omega) s_FUEL (by unfold s_FUEL; omega)
    have w : s_while C_X1_seekLongest_1 W_X1_seekLongest_1 [.ref 55, .ref a, .int (nI (S.1.length - 1))] (cp σ C0) = _ := w
    refine ⟨C', mV_eq (cp_at (k := 0) hσ rfl) rfl rfl ?_, g1, fun _ => ⟨g2, g3⟩⟩
    unfold B_X1_seekLongest
    simp (disch := omega) only [x_k, x_i, x_r, x_nil, x_add, x_sub, x_mul, x_div, x_rem, x_get, x_getR, x_ald, x_aldR, x_len, x_lenR, x_if, xa_nil, xa_ci, xa_cr, x_callI, x_callR, x_new, x_newa, x_newq, x_max, x_min, xc_cmp, xc_cmp0, xc_null, xc_nn, xc_not, xc_and, xc_or, xc_if, xs_skip, xs_seq, xs_decI, xs_decR, xs_setI, xs_inc, xs_if, xs_blk, xs_retI, xs_retB, xs_retR, xs_retD, xs_ret0, xs_putI, xs_putZ, xs_putR, xs_putop, xs_ast, xs_astop, xs_astR, xs_callV, xs_callP, xs_super, xs_sw, s_go_inl, s_go_inr, s_cut_inl, s_cut_inr, o_void_n, v_i_int, v_i_none, v_r_ref, v_r_null, v_r_rf, h_set_some, o_some_s, zB_ne0, zB_ite, zB_ite2, g_Vn, g_Pi, nI_add, Option.bind_some, Option.map_some, Option.bind_none, Option.map_none, List.getElem?_cons_zero, List.getElem?_cons_succ, List.set_cons_zero, List.set_cons_succ, List.cons_append, List.nil_append, List.take_succ_cons, List.take_zero, List.length_cons, List.length_nil, Nat.zero_add, Nat.reduceAdd, Nat.reduceLT, if_true, if_false, Bool.false_eq_true, Bool.true_eq_false, decide_eq_true_eq, decide_true, decide_false, Bool.not_true, Bool.not_false, Option.isNone_none, Option.isNone_some, Option.isSome_none, Option.isSome_some, ite_true, ite_false, reduceIte, reduceCtorEq, and_true, true_and, eq_self, Option.some.injEq, Sum.inr.injEq, Sum.inl.injEq, Prod.mk.injEq, o1, cs2, cF_len, s0, o2, pk_sub, w]
end
