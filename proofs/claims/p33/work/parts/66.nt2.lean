/-! NUMBERS AGAIN (own work): the last factor; factors without their repeats; primes that divide a step; sums over all primes -/
theorem fac_mul {n : Nat} (h : 2 ≤ n) : lp n * (n / lp n) = n := Nat.mul_div_cancel' (lp_spec h).1
theorem wo_p {n : Nat} (h : 2 ≤ n) : wo (lp n) n = wo (lp n) (n / lp n) := wo_c ⟨(lp_spec h).2.1, by omega, Nat.mod_eq_zero_of_dvd (lp_spec h).1⟩
theorem lp_ge {p m : Nat} (h : 2 ≤ m) (hp : ∀ e, 2 ≤ e → e ∣ m → p ≤ e) (hd : p ∣ m) (h2 : 2 ≤ p) : lp m = p := by
  have a := lp_spec h
  have h1 := hp (lp m) a.2.1 a.1
  rcases Nat.lt_or_ge p (lp m) with q | q
  · exact absurd hd (a.2.2.2 p h2 q)
  · omega
/-- a row of factors without the repeats behind one another -/
def dd : Nat → List Nat → List Nat
  | _, [] => []
  | p, x :: l => if x = p then dd p l else x :: dd x l
theorem dd_fac {p : Nat} (hp : 2 ≤ p) : ∀ (k m : Nat), m ≤ k → 1 ≤ m → (∀ e, 2 ≤ e → e ∣ m → p ≤ e) → dd p (fac m) = dfac (wo p m) := by
  intro k
  induction k generalizing p with
  | zero => intro m h1 h2; omega
  | succ k ih =>
    intro m h1 h2 h3
    by_cases h : 2 ≤ m
    · obtain ⟨a1, a2, a3, a4⟩ := lp_spec h
      have l1 := lp_div_lt h
      have l2 := lp_div_pos h
      have sub : ∀ e, 2 ≤ e → e ∣ m / lp m → lp m ≤ e := fun e he hd => lp_le h he (Nat.dvd_trans hd ⟨lp m, by rw [Nat.mul_comm]; exact (fac_mul h).symm⟩)
      rw [fac_c h]
      show (if lp m = p then dd p (fac (m / lp m)) else lp m :: dd (lp m) (fac (m / lp m))) = _
      by_cases e : lp m = p
      · rw [if_pos e]
        rw [← e, ih a2 (m / lp m) (by omega) l2 sub, wo_p h]
      · rw [if_neg e, ih a2 (m / lp m) (by omega) l2 sub]
        have np : ¬ p ∣ m := fun hd => e (lp_ge h h3 hd hp)
        rw [wo_s (p := p) (fun z => np (Nat.dvd_of_mod_eq_zero z.2.2)), dfac_c h, wo_p h]
    · have : m = 1 := by omega
      subst this
      rw [fac_s (by omega), wo_s (p := p) (fun z => by
        have := Nat.le_of_dvd (Nat.zero_lt_one) (Nat.dvd_of_mod_eq_zero z.2.2)
        omega), dfac_s (by omega)]
      rfl
theorem dd_all {n : Nat} (h1 : 1 ≤ n) : dd 0 (fac n) = dfac n := by
  by_cases h : 2 ≤ n
  · have a := lp_spec h
    rw [fac_c h]
    show (if lp n = 0 then _ else lp n :: dd (lp n) (fac (n / lp n))) = _
    rw [if_neg (by omega), dd_fac a.2.1 _ _ (Nat.le_refl _) (lp_div_pos h) (fun e he hd => lp_le h he (Nat.dvd_trans hd ⟨lp n, by rw [Nat.mul_comm]; exact (fac_mul h).symm⟩)), dfac_c h, wo_p h]
  · rw [fac_s h, dfac_s h]
    rfl
theorem dd_last : ∀ (l : List Nat) (p : Nat), l ≠ [] → (dd p l).getLast?.getD p = l.getLast?.getD p
  | [], _, h => absurd rfl h
  | x :: l, p, _ => by
    have key : (dd x l).getLast?.getD x = l.getLast?.getD x := by
      cases l with
      | nil => rfl
      | cons y l => exact dd_last (y :: l) x (List.cons_ne_nil _ _)
    have e1 : ∀ (m : List Nat) (d : Nat), (x :: m).getLast?.getD d = m.getLast?.getD x := fun m d => by
      cases m with
      | nil => rfl
      | cons y m => rw [List.getLast?_cons_cons, List.getLast?_eq_some_getLast (List.cons_ne_nil y m)]; rfl
    show (if x = p then dd p l else x :: dd x l).getLast?.getD p = _
    rw [e1]
    by_cases e : x = p
    · subst e
      rw [if_pos rfl]
      exact key
    · rw [if_neg e, e1]
      exact key
theorem fac_last {n : Nat} (h : 2 ≤ n) : (fac n)[(fac n).length - 1]? = some (gpr n 1) := by
  have hne : fac n ≠ [] := by rw [fac_c h]; exact List.cons_ne_nil _ _
  have e1 := dd_last (fac n) 0 hne
  rw [dd_all (by omega)] at e1
  have hd : dfac n ≠ [] := by rw [dfac_c h]; exact List.cons_ne_nil _ _
  rw [List.getLast?_eq_some_getLast hne, List.getLast?_eq_some_getLast hd] at e1
  rw [← List.getLast?_eq_getElem?, List.getLast?_eq_some_getLast hne]
  unfold gpr
  rw [List.getLast?_eq_some_getLast hd]
  have e1 : (dfac n).getLast hd = (fac n).getLast hne := e1
  show some _ = some ((dfac n).getLast hd)
  rw [e1]
theorem gpr_pr {n : Nat} (h : 2 ≤ n) : isPr (gpr n 1) ∧ gpr n 1 ∣ n := by
  have := List.mem_of_getElem? (fac_last h)
  exact (mem_fac n n _ (Nat.le_refl _) (by omega)).mp this
theorem dfac_nodup : ∀ (k n : Nat), n ≤ k → 1 ≤ n → (dfac n).Nodup := by
  intro k
  induction k with
  | zero => intro n h1 h2; omega
  | succ k ih =>
    intro n h1 h2
    by_cases h : 2 ≤ n
    · have w1 := wo_pos (p := lp n) n n (Nat.le_refl _) h2
      have w2 := wo_lt h
      rw [dfac_c h, List.nodup_cons]
      refine ⟨fun hm => ?_, ih _ (by omega) w1.1⟩
      have := (mem_dfac _ _ _ (Nat.le_refl _) w1.1).mp hm
      exact wo_no (lp_spec h).2.1 n n (Nat.le_refl _) h2 this.2
    · rw [dfac_s h]; exact List.nodup_nil
theorem PRS_nodup : PRS.Nodup := by
  have h : PRS.Pairwise (· < ·) := List.Pairwise.filter _ List.pairwise_lt_range
  exact h.imp (fun hab => Nat.ne_of_lt hab)
theorem count_dfac {n : Nat} (h1 : 1 ≤ n) (hn : n ≤ 9999) (Q : Nat → Bool) : PRS.countP (fun p => decide (n % p = 0) && Q p) = (dfac n).countP Q := by
  have hp : (PRS.filter (fun p => decide (n % p = 0))).Perm (dfac n) := by
    rw [List.perm_ext_iff_of_nodup (PRS_nodup.filter _) (dfac_nodup n n (Nat.le_refl _) h1)]
    intro p
    rw [List.mem_filter, mem_PRS, mem_dfac n n p (Nat.le_refl _) h1, decide_eq_true_eq]
    constructor
    · rintro ⟨⟨a, -⟩, b⟩
      exact ⟨a, Nat.dvd_of_mod_eq_zero b⟩
    · rintro ⟨a, b⟩
      exact ⟨⟨a, Nat.le_trans (Nat.le_of_dvd h1 b) hn⟩, Nat.mod_eq_zero_of_dvd b⟩
  rw [← hp.countP_eq, List.countP_filter]
  exact List.countP_congr (fun p _ => by rw [Bool.and_comm])
theorem below_s (S : tS) (k p : Nat) : below S (k + 1) p = (below S k p || decide (sN S k % p = 0)) := by
  unfold below
  rw [← Bool.decide_or]
  exact decide_eq_decide.mpr ⟨fun ⟨j, h1, h2⟩ => by
    by_cases e : j = k
    · exact Or.inr (by rw [← e]; exact h2)
    · exact Or.inl ⟨j, by omega, h2⟩, fun h => by
    rcases h with ⟨j, h1, h2⟩ | h
    · exact ⟨j, by omega, h2⟩
    · exact ⟨k, by omega, h⟩⟩
theorem countP_or {l : List Nat} (P Q : Nat → Bool) : l.countP (fun x => P x || Q x) = l.countP P + l.countP (fun x => Q x && !P x) := by
  induction l with
  | nil => rfl
  | cons x l ih =>
    rw [List.countP_cons, List.countP_cons, List.countP_cons, ih]
    cases P x <;> cases Q x <;> simp <;> omega
theorem dpN_count {S : tS} (h : okS S) : ∀ n, sumN (fun k => (dfac (sN S k)).countP (fun p => !below S k p)) n = PRS.countP (fun p => below S n p)
  | 0 => by
    show 0 = _
    refine (List.countP_eq_zero.mpr (fun p _ => ?_)).symm
    unfold below
    rw [decide_eq_true_eq]
    rintro ⟨k, hk, -⟩
    exact absurd hk (Nat.not_lt_zero k)
  | n + 1 => by
    have b := sN_ok h n
    show sumN (fun k => (dfac (sN S k)).countP (fun p => !below S k p)) n + (dfac (sN S n)).countP (fun p => !below S n p) = _
    rw [dpN_count h n, ← count_dfac b.1 b.2]
    have : (fun p => below S (n + 1) p) = fun p => below S n p || decide (sN S n % p = 0) := funext fun p => below_s S n p
    rw [this, countP_or]
theorem cnt_pos {P : Nat → Bool} : ∀ n, (0 < cnt P n ↔ ∃ k, k < n ∧ P k = true)
  | 0 => ⟨fun h => absurd h (Nat.lt_irrefl 0), fun ⟨k, hk, _⟩ => absurd hk (Nat.not_lt_zero k)⟩
  | n + 1 => by
    rw [cnt_succ]
    have ih := cnt_pos (P := P) n
    constructor
    · intro h
      by_cases c : P n = true
      · exact ⟨n, by omega, c⟩
      · rw [if_neg c] at h
        obtain ⟨k, hk, hp⟩ := ih.mp h
        exact ⟨k, by omega, hp⟩
    · rintro ⟨k, hk, hp⟩
      by_cases e : k = n
      · subst e; rw [if_pos hp]; omega
      · have := ih.mpr ⟨k, by omega, hp⟩
        omega
/-! sums over all primes -/
theorem sumF_zero {g : Nat → Int32} : ∀ (l : List Nat), (∀ q ∈ l, g q = nI 0) → sumF g l = nI 0
  | [], _ => rfl
  | x :: l, h => by
    rw [sumF_cons, h x List.mem_cons_self, sumF_zero l (fun q hq => h q (List.mem_cons_of_mem _ hq))]
    rfl
theorem sumF_perm {g : Nat → Int32} {l m : List Nat} (h : l.Perm m) : sumF g l = sumF g m := by
  induction h with
  | nil => rfl
  | cons x _ ih => rw [sumF_cons, sumF_cons, ih]
  | swap x y l => rw [sumF_cons, sumF_cons, sumF_cons, sumF_cons, ← Int32.add_assoc, ← Int32.add_assoc, Int32.add_comm (g y)]
  | trans _ _ ih1 ih2 => exact ih1.trans ih2
theorem sumF_sub {g : Nat → Int32} : ∀ (ps L : List Nat), ps.Nodup → L.Nodup → (∀ q ∈ ps, q ∈ L) → (∀ q ∈ L, q ∉ ps → g q = nI 0) → sumF g ps = sumF g L
  | [], L, _, _, _, h => (sumF_zero L (fun q hq => h q hq List.not_mem_nil)).symm
  | x :: ps, L, h1, h2, h3, h4 => by
    have hx := h3 x List.mem_cons_self
    rw [List.nodup_cons] at h1
    rw [sumF_perm (List.perm_cons_erase hx), sumF_cons, sumF_cons]
    congr 1
    refine sumF_sub ps (L.erase x) h1.2 (h2.erase x) (fun q hq => ?_) (fun q hq hn => ?_)
    · exact (List.mem_erase_of_ne (fun e => h1.1 (by rw [← e]; exact hq))).mpr (h3 q (List.mem_cons_of_mem _ hq))
    · refine h4 q (List.mem_of_mem_erase hq) (fun hm => ?_)
      rcases List.mem_cons.mp hm with e | e
      · subst e
        exact h2.not_mem_erase hq
      · exact hn e
theorem countP_sub {P : Nat → Bool} : ∀ (ps L : List Nat), ps.Nodup → L.Nodup → (∀ q ∈ ps, q ∈ L) → (∀ q ∈ L, q ∉ ps → P q = false) → ps.countP P = L.countP P
  | [], L, _, _, _, h => (List.countP_eq_zero.mpr (fun q hq => by rw [h q hq List.not_mem_nil]; exact Bool.false_ne_true)).symm
  | x :: ps, L, h1, h2, h3, h4 => by
    have hx := h3 x List.mem_cons_self
    rw [List.nodup_cons] at h1
    rw [(List.perm_cons_erase hx).countP_eq, List.countP_cons, List.countP_cons]
    congr 1
    refine countP_sub ps (L.erase x) h1.2 (h2.erase x) (fun q hq => ?_) (fun q hq hn => ?_)
    · exact (List.mem_erase_of_ne (fun e => h1.1 (by rw [← e]; exact hq))).mpr (h3 q (List.mem_cons_of_mem _ hq))
    · refine h4 q (List.mem_of_mem_erase hq) (fun hm => ?_)
      rcases List.mem_cons.mp hm with e | e
      · subst e
        exact h2.not_mem_erase hq
      · exact hn e
theorem okA_in {ps : List Nat} {ch cm : Nat → Int32} (h : okA ps ch cm) : (∀ q ∈ ps, q ∈ PRS) ∧ ∀ q ∈ PRS, q ∉ ps → ch q = nI 0 := ⟨fun q hq => mem_PRS.mpr (h.2.1 q hq), fun q hq hn => (h.2.2 q (mem_PRS.mp hq).1 hn).1⟩
theorem okA_sum {ps : List Nat} {ch cm : Nat → Int32} (h : okA ps ch cm) : sumF ch ps = sumF ch PRS := sumF_sub ps PRS h.1 PRS_nodup (okA_in h).1 (okA_in h).2
theorem okA_cnt {ps : List Nat} {ch cm : Nat → Int32} (h : okA ps ch cm) : ps.countP (fun q => isPos (ch q)) = PRS.countP (fun q => isPos (ch q)) := countP_sub ps PRS h.1 PRS_nodup (okA_in h).1 (fun q hq hn => by rw [(okA_in h).2 q hq hn]; decide)
