/-! FAMILIES in both texts are the same (own work) -/
/-- what is the same on both sides of each kin -/
def Same (S : tS) (G : Nat → Nat) : Prop := ∀ a b, a < S.1.length → b < S.1.length → kin S a b = true → G a = G b
def Good (S : tS) (f : Nat → Nat) : Prop := (∀ i, f i ≤ i) ∧ ∀ G, Same S G → ∀ i, i < S.1.length → G (f i) = G i
theorem Good.join {S : tS} {f : Nat → Nat} (h : Good S f) {l k : Nat} (hl : l < S.1.length) (hk : k < S.1.length) (c : kin S l k = true) : Good S (joinF f (f l) (f k)) := by
  refine ⟨fun i => ?_, fun G sG i hi => ?_⟩
  · unfold joinF
    by_cases e : f i = f l ∨ f i = f k
    · rw [if_pos e]
      have := h.1 i
      rcases e with e | e <;> omega
    · rw [if_neg e]; exact h.1 i
  · unfold joinF
    by_cases e : f i = f l ∨ f i = f k
    · rw [if_pos e]
      have e1 := h.2 G sG l hl
      have e2 := h.2 G sG k hk
      have e3 := h.2 G sG i hi
      have e4 := sG l k hl hk c
      have e5 : G (min (f l) (f k)) = G l := by
        rcases Nat.le_total (f l) (f k) with q | q
        · rw [Nat.min_eq_left q, e1]
        · rw [Nat.min_eq_right q, e2, e4]
      rw [e5, ← e3]
      rcases e with e | e
      · rw [e, e1]
      · rw [e, e2, e4]
    · rw [if_neg e]; exact h.2 G sG i hi
theorem joinF_eq {f : Nat → Nat} {x y a b : Nat} (h : f a = f b) : joinF f x y a = joinF f x y b := by
  unfold joinF
  rw [h]
theorem fI_spec {S : tS} {k : Nat} (hk : k < S.1.length) {f : Nat → Nat} (hf : Good S f) : ∀ l, l ≤ k → Good S (fI S k l f) ∧ (∀ a b, f a = f b → fI S k l f a = fI S k l f b) ∧ ∀ a, a < l → kin S a k = true → fI S k l f a = fI S k l f k
  | 0, _ => ⟨hf, fun a b h => h, fun a ha => absurd ha (Nat.not_lt_zero a)⟩
  | l + 1, hl => by
    obtain ⟨g1, g2, g3⟩ := fI_spec hk hf l (by omega)
    by_cases c : kin S l k = true
    · have e : fI S k (l + 1) f = joinF (fI S k l f) (fI S k l f l) (fI S k l f k) := if_pos c
      rw [e]
      refine ⟨g1.join (by omega) hk c, fun a b h => joinF_eq (g2 a b h), fun a ha hc => ?_⟩
      by_cases q : a = l
      · subst q
        unfold joinF
        rw [if_pos (Or.inl rfl), if_pos (Or.inr rfl)]
      · exact joinF_eq (g3 a (by omega) hc)
    · have e : fI S k (l + 1) f = fI S k l f := if_neg c
      rw [e]
      refine ⟨g1, g2, fun a ha hc => ?_⟩
      by_cases q : a = l
      · subst q; exact absurd hc c
      · exact g3 a (by omega) hc
theorem fO_spec {S : tS} : ∀ j, j ≤ S.1.length → Good S (fO S j) ∧ ∀ a b, b < j → a < b → kin S a b = true → fO S j a = fO S j b
  | 0, _ => ⟨⟨fun i => Nat.le_refl i, fun G _ i _ => rfl⟩, fun a b hb => absurd hb (Nat.not_lt_zero b)⟩
  | j + 1, hj => by
    obtain ⟨h1, h2⟩ := fO_spec (S := S) j (by omega)
    obtain ⟨g1, g2, g3⟩ := fI_spec (k := j) (by omega) h1 j (Nat.le_refl j)
    refine ⟨g1, fun a b hb hab hc => ?_⟩
    by_cases q : b = j
    · subst q
      exact g3 a hab hc
    · exact g2 a b (h2 a b (by omega) hab hc)
theorem find_good (S : tS) : Good S (findF S) ∧ Same S (findF S) := by
  obtain ⟨h1, h2⟩ := fO_spec (S := S) S.1.length (Nat.le_refl _)
  refine ⟨h1, fun a b ha hb hc => ?_⟩
  rcases Nat.lt_trichotomy a b with q | q | q
  · exact h2 a b hb q hc
  · rw [q]
  · exact (h2 b a ha q (by rw [kin_sym]; exact hc)).symm
/-! the reference's way -/
abbrev tJ : Type := (Nat → Nat) × Bool
/-- what stands through the steps: good, the flag, the sum -/
def JR (S : tS) (t u : tJ) : Prop := (Good S t.1 → Good S u.1) ∧ (t.2 = true → u.2 = true) ∧ (u.2 = false → u = t) ∧ (u.2 = true → t.2 = false → sumN u.1 S.1.length < sumN t.1 S.1.length) ∧ sumN u.1 S.1.length ≤ sumN t.1 S.1.length
theorem JR.rf {S : tS} {t : tJ} : JR S t t := ⟨fun h => h, fun h => h, fun _ => rfl, fun h h2 => (by rw [h] at h2; cases h2), Nat.le_refl _⟩
theorem JR.tr {S : tS} {t u v : tJ} (h : JR S t u) (k : JR S u v) : JR S t v := by
  obtain ⟨h1, h2, h3, h4, h5⟩ := h
  obtain ⟨k1, k2, k3, k4, k5⟩ := k
  refine ⟨fun z => k1 (h1 z), fun z => k2 (h2 z), fun z => ?_, fun z w => ?_, by omega⟩
  · have e := k3 z
    have : u.2 = false := by rw [← e]; exact z
    rw [e, h3 this]
  · cases q : u.2 with
    | false =>
      have := k4 z q
      omega
    | true =>
      have := h4 q w
      omega
section
variable {σ : sSt} {M : tM} {S : tS}
def rFam (S : tS) : Nat := cnt (fun k => decide (findF S k = k)) S.1.length
def rSize (S : tS) (v : Nat) : Nat := cnt (fun k => decide (findF S k = v)) S.1.length
def rGreat (S : tS) : Nat := maxN (rSize S) S.1.length
theorem rSize_le {S : tS} (h : S.1.length ≤ 12) (v : Nat) : rSize S v ≤ 12 := Nat.le_trans (cnt_le _ _) h
end
