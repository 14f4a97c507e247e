/-! ONE EVENT (own work): the law's rows and the object's answer go together -/
def LC (S : tS) (M : tM) : Prop := (∀ j, j < 25 → M 2 j = sCh S (p25 j)) ∧ (∀ j, j < 25 → M 3 j = came S (p25 j)) ∧ ∀ j, j < 25 → M 4 j = nI (p25 j)
def L25 (S : tS) : Prop := (∀ x ∈ S.1, G25 x) ∧ ∀ q, isPr q → q ∉ P25 → sCh S q = nI 0
def LI (σ : sSt) (M : tM) (V : tV) : Prop := WV σ M V ∧ LN V.1 M ∧ LC V.1 M ∧ L25 V.1
theorem G25.dvd {x y : Nat} (h : G25 x) (d : y ∣ x) : G25 y := fun q hq e => h q hq (Nat.dvd_trans e d)
theorem L25.nu {S : tS} (h : L25 S) (i : Nat) : G25 (sN S i) := by
  unfold sN
  rw [List.getD_eq_getElem?_getD]
  cases hi : S.1[i]? with
  | none => exact g25_1
  | some x => exact h.1 x (List.mem_of_getElem? hi)
theorem g25_lcm {a b : Nat} (ha : G25 a) (hb : G25 b) : G25 (lcm2 a b) := fun q hq d => by
  unfold lcm2 at d
  rcases pr_mul hq d with e | e
  · exact ha q hq (Nat.dvd_trans e (Nat.div_dvd_of_dvd (Nat.gcd_dvd_left a b)))
  · exact hb q hq e
theorem L25.set {S : tS} (h : L25 S) {i x : Nat} (hx : G25 x) : L25 (S.1.set i x, S.2) := ⟨fun y hy => by
  rcases List.mem_or_eq_of_mem_set hy with q | q
  · exact h.1 y q
  · rw [q]; exact hx, h.2⟩
theorem L25.era {S : tS} (h : L25 S) {i : Nat} : L25 (S.1.eraseIdx i, S.2) := ⟨fun y hy => h.1 y (List.mem_of_mem_eraseIdx hy), h.2⟩
theorem L25.put {S : tS} (h : L25 S) {i x : Nat} (hi : i ≤ S.1.length) (hx : G25 x) : L25 (S.1.insertIdx i x, S.2) := ⟨fun y hy => by
  rcases (List.mem_insertIdx hi).mp hy with q | q
  · rw [q]; exact hx
  · exact h.1 y q, h.2⟩
theorem l25_shr {S : tS} (h : L25 S) (i : Nat) : L25 (shr S i) := L25.set (L25.set h ((h.nu i).dvd (Nat.gcd_dvd_left _ _))) (g25_lcm (h.nu i) (h.nu (i + 1)))
theorem l25_spl {S : tS} (h : L25 S) {i d : Nat} (hd : d ∣ sN S i) : L25 (spl S i d) := by
  have e : ∀ q, isPr q → q ∉ P25 → sCh S q + nI (ex q d) = nI 0 := fun q hq hn => by
    rw [h.2 q hq hn, ex_s (fun z => hn (h.nu i q hq (Nat.dvd_trans (Nat.dvd_of_mod_eq_zero z.2.2) hd)))]
    rfl
  unfold spl
  split
  · exact ⟨(h.era (i := i)).1, e⟩
  · exact ⟨(h.set (i := i) ((h.nu i).dvd (Nat.div_dvd_of_dvd hd))).1, e⟩
theorem l25_rnd : ∀ (d k : Nat) (S T : tS), L25 S → rndF d k S = some T → L25 T := by
  intro d
  induction d with
  | zero => intro k S T h e; cases e; exact h
  | succ d ih =>
    intro k S T h e
    unfold rndF at e
    split at e
    · exact ih (k + 1) (shr S k) T (l25_shr h k) e
    · cases e
theorem came_rnd : ∀ (d k : Nat) (S T : tS), okS S → rndF d k S = some T → k + d + 1 = S.1.length → okS T ∧ T.1.length = S.1.length ∧ (∀ q, isPr q → came T q = came S q ∧ sCh T q = sCh S q) := by
  intro d
  induction d with
  | zero => intro k S T h e _; cases e; exact ⟨h, rfl, fun q _ => ⟨rfl, rfl⟩⟩
  | succ d ih =>
    intro k S T h e hk
    unfold rndF at e
    split at e
    · next hb =>
      have b1 := sN_ok h k
      have b2 := sN_ok h (k + 1)
      have hg := gcd_pos (b := sN S (k + 1)) b1.1
      have hg2 := gcd_le (b := sN S (k + 1)) b1.1
      have ok : okS (shr S k) := okS.set (S := (S.1.set k _, S.2)) (h.set hg (by omega)) (lcm2_pos b1.1 b2.1) hb
      obtain ⟨c1, c2, c3⟩ := ih (k + 1) (shr S k) T ok e (by rw [shr_len]; omega)
      rw [shr_len] at c2
      exact ⟨c1, c2, fun q hq => ⟨(c3 q hq).1.trans (shr_came h (by omega) hq), (c3 q hq).2⟩⟩
    · cases e
theorem came_sir : ∀ (d : Nat) (S : tS) (r : Nat × tS), okS S → L25 S → sirF d S = some r → L25 r.2 ∧ ∀ q, isPr q → came r.2 q = came S q ∧ sCh r.2 q = sCh S q := by
  intro d
  induction d with
  | zero => intro S r _ _ h; cases h
  | succ d ih =>
    intro S r ok l25 h
    unfold sirF at h
    split at h
    · cases h; exact ⟨l25, fun q _ => ⟨rfl, rfl⟩⟩
    · next hs =>
      have h2 := stl_len hs
      cases hr : rndF (S.1.length - 1) 0 S with
      | none => rw [hr] at h; cases h
      | some T =>
        rw [hr] at h
        have h : (sirF d T).map (fun r => (r.1 + 1, r.2)) = some r := h
        obtain ⟨c1, c2, c3⟩ := came_rnd (S.1.length - 1) 0 S T ok hr (by omega)
        cases hq : sirF d T with
        | none => rw [hq] at h; cases h
        | some q =>
          rw [hq] at h
          cases h
          obtain ⟨e1, e2⟩ := ih T q c1 (l25_rnd _ _ _ _ l25 hr) hq
          exact ⟨e1, fun z hz => ⟨(e2 z hz).1.trans (c3 z hz).1, (e2 z hz).2.trans (c3 z hz).2⟩⟩
theorem settle_ok {S : tS} (ok : okS S) (l25 : L25 S) : L25 (dSettle S).2 ∧ ∀ q, isPr q → came (dSettle S).2 q = came S q ∧ sCh (dSettle S).2 q = sCh S q := by
  unfold dSettle
  cases hr : sirF 13 S with
  | none => exact ⟨l25, fun q _ => ⟨rfl, rfl⟩⟩
  | some r => exact came_sir 13 S r ok l25 hr
theorem wrap_2 (V : tV) (r : Int32 × tS) (h : i_lt r.1 0 = true → r.2 = V.1) : (wrap V r).2.1 = r.2 := by
  unfold wrap
  split
  · next c => exact (h c).symm
  · rfl
theorem dAdd_n {S : tS} (h : okS S) {i x : Nat} (hi : i ≤ S.1.length) (h1 : 1 ≤ x) (h9 : x ≤ 9999) : dAdd S (nI i) (nI x) = if S.1.length = 12 then (-3, S) else (nI (S.1.length + 1), S.1.insertIdx i x, S.2) := by
  have hl := h.1
  have e1 : inB (nI i) (nI 0) (nI S.1.length) = true := by
    rw [inB_n (by omega) (by omega) (by omega), decide_eq_true (Nat.zero_le i), Bool.true_and, decide_eq_true hi]
  have e2 : inB (nI x) (nI 1) (nI 9999) = true := by
    rw [inB_n (by omega) (by omega) (by omega), decide_eq_true h1, Bool.true_and, decide_eq_true h9]
  unfold dAdd
  rw [e1, e2, Bool.and_true, if_pos rfl, nN_n (by omega), nN_n (by omega)]
theorem i_m1 (x : Int32) : (-1 : Int32) * x = -x := by rw [Int32.neg_mul, Int32.one_mul]
theorem nI_1mul (x : Int32) : nI 1 * x = x := by rw [← j_one, Int32.one_mul]
section
variable {σ : sSt} {M : tM} {V : tV}
theorem WV.mpw (h : WV σ M V) : 65 ≤ σ.1.length ∧ σ = mp σ M ∧ ∀ M', M' 5 = M 5 → WV (mp σ M') M' V := by
  obtain ⟨P, C, T, fi, er, nu, po, w, v⟩ := h
  exact ⟨w.len, w.mp, fun M' hm => ⟨P, C, T, fi, er, nu, po, w.m M' hm, v⟩⟩
theorem WV.lw (h : WV σ M V) : LW σ M := by
  obtain ⟨hσ, e, -⟩ := h.mpw
  have := lw_mp (σ := σ) (M := M) hσ
  rw [← e] at this
  exact this
theorem W0.app {P C : Nat → Nat} {T : Nat → tS} {sv : Bool} {fi he : Nat} {er nu po : Int32} {p : List Nat} (h : W0 σ P C T sv fi he er nu po p M) {f : Nat → Int32} {M' : tM} (e5 : nN (M' 5 0) = nN (M 5 0) + 1) (hm : mC M' = mC M) : W0 (hp σ f) P C T sv fi he er nu po p M' := by
  have hl := h.len
  obtain ⟨⟨s1, s2, s3, s4, s5, s6⟩, h2, h3, ⟨f', h4, h5⟩, ⟨Q, h6, h7⟩, ⟨n0, o1, g, o2⟩, ⟨D, h8⟩, h9, h10⟩ := h
  have g0 : ∀ x, x < 65 → (hp σ f).1[x]? = σ.1[x]? := fun x hx => (hp_keep hl).2 x (by omega) (fun z => z)
  refine ⟨⟨by rw [hp_len]; omega, fun k hk => (s2 k hk).keep (hp_keep hl) ⟨fun z => z, fun z => z, fun z => z, fun z => z, fun z => z, fun z => z⟩, s3, s4, by rw [hp_len, e5]; omega, by show σ.2 + 12 ≤ _; rw [e5]; omega⟩, (g0 _ (by omega)).trans h2, (g0 _ (by omega)).trans h3, ⟨f', (g0 _ (by omega)).trans h4, h5⟩, ⟨Q, h6, fun k c hc => ?_⟩, ⟨n0, (g0 _ (by omega)).trans o1, g, (g0 _ (by omega)).trans o2⟩, ⟨D, fun k c hc => ?_⟩, fun k c hc => ?_, h10⟩
  · have : k < 2 := (List.getElem?_eq_some_iff.mp hc).1
    exact (g0 _ (by omega)).trans (h7 k c hc)
  · have : k < 5 := (List.getElem?_eq_some_iff.mp hc).1
    exact (g0 _ (by omega)).trans (h8 k c hc)
  · rw [hm] at hc
    have : k < 5 := (List.getElem?_eq_some_iff.mp hc).1
    exact (g0 _ (by omega)).trans (h9 k c hc)
theorem WV.app (h : WV σ M V) {f : Nat → Int32} {M' : tM} (e5 : nN (M' 5 0) = nN (M 5 0) + 1) : WV (mp (hp σ f) M') M' V := by
  obtain ⟨P, C, T, fi, er, nu, po, w, v⟩ := h
  have e : nN (uN M 5 (M' 5) 5 0) = nN (M 5 0) + 1 := e5
  have w1 : W0 (hp σ f) P C T V.2.2.1.isSome fi V.2.1.length er nu po V.2.2.2.1 (uN M 5 (M' 5)) := w.app e rfl
  exact ⟨P, C, T, fi, er, nu, po, w1.m M' rfl, v⟩
end
