/-! the two constructors (own work): what they leave -/
def S0 : tS := ([], 0, 2, 0, fun _ => 0)
def V0 : tV := (S0, [], none, [], none)
theorem S0_ok : okS S0 := ⟨Nat.zero_le _, fun x hx => absurd hx List.not_mem_nil, Nat.zero_le _, by decide, by decide⟩
theorem nil_at {α : Type} {k : Nat} {x : α} {P : Prop} (h : ([] : List α)[k]? = some x) : P := by rw [List.getElem?_nil] at h; cases h
/-- new stairs -/
theorem iniSt {σ : sSt} {a : Nat} (h : ∀ j, j < 6 → σ.1[a + j]? = (iS a)[j]?) : StAt σ a (a + 3) 16 S0 := by
  refine ⟨⟨S0_ok, h 0 (by omega), _, h 1 (by omega), fun i x hx => nil_at hx⟩, ⟨[], ⟨h 2 (by omega), Nat.zero_le _, Nat.le_refl _, by omega, Or.inl (by omega), _, _, _, h 3 (by omega), h 4 (by omega), h 5 (by omega), fun j q hq => nil_at hq⟩, List.nodup_nil, fun q hq => absurd hq List.not_mem_nil, fun q _ _ => ⟨rfl, rfl⟩⟩, Or.inr (by omega)⟩
def c60 : List sAC := .inl (6, kF false 0 0 0) :: l7
theorem six {P : Nat → Prop} (h0 : P 0) (h1 : P 1) (h2 : P 2) (h3 : P 3) (h4 : P 4) (h5 : P 5) : ∀ j, j < 6 → P j := fun j hj => by
  rcases (show j = 0 ∨ j = 1 ∨ j = 2 ∨ j = 3 ∨ j = 4 ∨ j = 5 by omega) with rfl | rfl | rfl | rfl | rfl | rfl <;> assumption
theorem c60_st : ∀ k, k < 8 → ∀ j, j < 6 → c60[ad k + j]? = (iS (ad k))[j]? := fun k hk => by
  rcases (show k = 0 ∨ k = 1 ∨ k = 2 ∨ k = 3 ∨ k = 4 ∨ k = 5 ∨ k = 6 ∨ k = 7 by omega) with rfl | rfl | rfl | rfl | rfl | rfl | rfl | rfl
  · exact six rfl rfl rfl rfl rfl rfl
  · exact six rfl rfl rfl rfl rfl rfl
  · exact six rfl rfl rfl rfl rfl rfl
  · exact six rfl rfl rfl rfl rfl rfl
  · exact six rfl rfl rfl rfl rfl rfl
  · exact six rfl rfl rfl rfl rfl rfl
  · exact six rfl rfl rfl rfl rfl rfl
  · exact six rfl rfl rfl rfl rfl rfl
theorem iniWV {σ : sSt} {M : tM} (h : ∀ i, i < 60 → σ.1[i]? = c60[i]?) (hl : σ.1.length = 65) (hn : σ.2 ≤ 50000) (hM : ∀ k c, (mC M)[k]? = some c → σ.1[60 + k]? = some c) : WV σ M V0 := by
  have sN16 : sumN (fun _ => 16) 8 = 128 := rfl
  refine ⟨fun k => ad k + 3, fun _ => 16, fun _ => S0, 0, 0, 0, 0, ⟨⟨by omega, fun k hk => ?_, fun k _ => Or.inl rfl, fun j k hj hk hjk => ?_, by rw [hl, sN16]; show 65 + 319 ≤ 3 * 128 + _; omega, by omega⟩, h 0 (by omega), h 19 (by omega), ⟨rF 19, h 20 (by omega), fun k hk => ?_⟩, ⟨((fun _ => 0, fun _ _ => 0) : tC), ⟨Nat.zero_le _, rfl, fun i hi => absurd hi (Nat.not_lt_zero i)⟩, fun k c hc => ?_⟩, ⟨0, h 53 (by omega), _, h 54 (by omega)⟩, ⟨((fun _ => 0, fun _ _ => 0) : tC), fun k c hc => ?_⟩, hM, by omega, Nat.zero_le _⟩, rfl, fun k S hk => nil_at hk, fun S hS => (by cases hS), fun _ => rfl, fun e he => (by cases he)⟩
  · have a := ad_le hk
    exact iniSt (fun j hj => (h _ (by omega)).trans (c60_st k hk j hj))
  · have := ad_cases hj
    have := ad_cases hk
    show ad j + 3 + 3 ≤ ad k + 3 ∨ ad k + 3 + 3 ≤ ad j + 3
    omega
  · rcases (show k = 0 ∨ k = 1 ∨ k = 2 ∨ k = 3 ∨ k = 4 by omega) with rfl | rfl | rfl | rfl | rfl <;> rfl
  · have hk : k < 2 := (List.getElem?_eq_some_iff.mp hc).1
    rw [h _ (by omega), ← hc]
    rcases (show k = 0 ∨ k = 1 by omega) with rfl | rfl <;> rfl
  · have hk : k < 5 := (List.getElem?_eq_some_iff.mp hc).1
    rw [h _ (by omega), ← hc]
    rcases (show k = 0 ∨ k = 1 ∨ k = 2 ∨ k = 3 ∨ k = 4 by omega) with rfl | rfl | rfl | rfl | rfl <;> rfl
