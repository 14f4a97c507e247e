/-! BITS of numbers (own work; nx_and, b_ext, b_or, b_sshr and what they rest on are pasted from kit/laws) -/
def bt (x : Int32) (i : Nat) : Bool := x.toBitVec.getLsbD i
theorem b_ext {x y : Int32} (h : ∀ i, i < 32 → bt x i = bt y i) : x = y := Int32.toBitVec_inj.mp (BitVec.eq_of_getLsbD_eq (fun i hi => h i hi))
theorem s_l : ∀ n, n < 32 → ((nI n &&& 31).toBitVec.smod 32).toNat = n := by decide +kernel
theorem b_sshr (n : Nat) (hn : n < 32) (x : Int32) {i : Nat} (hi : i < 32) : bt (x >>> (nI n &&& 31)) i = if n + i < 32 then bt x (n + i) else bt x 31 := by
  unfold bt
  rw [Int32.toBitVec_shiftRight]
  show (x.toBitVec.sshiftRight ((nI n &&& 31).toBitVec.smod 32).toNat).getLsbD i = _
  rw [s_l n hn, BitVec.getLsbD_sshiftRight, BitVec.msb_eq_getLsbD_last]
  simp [hi]
theorem nx_and (a b : Nat) : nI a &&& nI b = nI (a &&& b) := by
  apply Int32.toBitVec_inj.1
  show BitVec.ofNat 32 a &&& BitVec.ofNat 32 b = BitVec.ofNat 32 (a &&& b)
  apply BitVec.eq_of_getLsbD_eq
  intro i hi
  simp [hi]
theorem nx_or (a b : Nat) : nI a ||| nI b = nI (a ||| b) := by
  apply Int32.toBitVec_inj.1
  show BitVec.ofNat 32 a ||| BitVec.ofNat 32 b = BitVec.ofNat 32 (a ||| b)
  apply BitVec.eq_of_getLsbD_eq
  intro i hi
  simp [hi]
theorem bt_nI (a : Nat) {i : Nat} (hi : i < 32) : bt (nI a) i = a.testBit i := by
  show (BitVec.ofNat 32 a).getLsbD i = _
  rw [BitVec.getLsbD_ofNat, decide_eq_true hi, Bool.true_and]
theorem tb_big {b i : Nat} (h : b < 2 ^ 31) (hi : 31 ≤ i) : b.testBit i = false := Nat.testBit_lt_two_pow (Nat.lt_of_lt_of_le h (Nat.pow_le_pow_right (by omega) hi))
theorem nx_shr {b i : Nat} (hb : b < 2 ^ 31) (hi : i < 32) : nI b >>> (nI i &&& 31) = nI (b >>> i) := by
  refine b_ext (fun j hj => ?_)
  rw [b_sshr i hi _ hj, bt_nI _ hj, Nat.testBit_shiftRight]
  by_cases c : i + j < 32
  · rw [if_pos c, bt_nI _ c]
  · rw [if_neg c, bt_nI _ (by omega), tb_big hb (Nat.le_refl _), tb_big hb (by omega)]
theorem nx_bit {b i : Nat} (hb : b < 2 ^ 31) (hi : i < 32) : (nI b >>> (nI i &&& 31)) &&& nI 1 = zB (b.testBit i) := by
  rw [nx_shr hb hi, nx_and, Nat.and_one_is_mod, Nat.shiftRight_eq_div_pow, Nat.testBit_eq_decide_div_mod_eq]
  generalize b / 2 ^ i = z
  rcases Nat.mod_two_eq_zero_or_one z with h | h
  · rw [h]; rfl
  · rw [h]; rfl
theorem nx_shl : ∀ j, j < 31 → nI 1 <<< (nI j &&& 31) = nI (2 ^ j) := by decide +kernel
theorem zB_eq1 (b : Bool) : i_eq (zB b) (nI 1) = b := by cases b <;> rfl
theorem tb_set (b j i : Nat) : (b ||| 2 ^ j).testBit i = (b.testBit i || decide (j = i)) := by
  rw [Nat.testBit_or, Nat.testBit_two_pow]
theorem or_lt {b j : Nat} (h : b < 4096) (hj : j < 12) : b ||| 2 ^ j < 4096 := by
  have : (4096 : Nat) = 2 ^ 12 := rfl
  rw [this] at h ⊢
  exact Nat.or_lt_two_pow h (Nat.pow_lt_pow_right (by omega) hj)
theorem or_lt0 {b : Nat} (h : b < 4096) : b ||| 0 < 4096 := by rw [Nat.or_zero]; exact h
