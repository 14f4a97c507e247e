/-! the law's walk (own work): mean's case, the switch, the loop -/
theorem l_c23 {y : lCy} (hy : lOk y) {i : Nat} {σ : sSt} {V : tV} (h : JV σ V) (kk : ∀ (σ2 : sSt) (V2 : tV), JV σ2 V2 → lA y 976 (lV y i) [] σ2) : lA y 817 (lV y i) [] σ := by
  obtain ⟨σ1, σ2, e8, e9, j⟩ := j_mean h
  have hE := j.room
  have hl1 := (T_X9_mean _ _ _ _ e9).1
  generalize rMean V.1 = d at e8 e9
  have K := kk _ _ j
  refine l_ax hy dL_law_817 ?_
  refine l_call hy (As := []) T_X8_mean (s_Rcv_of 6 _ _) rfl gL_law_X8_mean rfl (by decide +kernel) (n := 0) (Nat.le_of_ble_eq_true rfl) (Nat.le_of_ble_eq_true rfl) dL_law_818 rfl e8 ⟨Nat.le_trans hl1.1 hE.1, Nat.le_trans hl1.2 hE.2⟩ (rest := []) (Nat.le_of_ble_eq_true rfl) ?_
  show lA y 821 (lV y i) [.double d] σ1
  have hz := hy
  obtain ⟨p, l, e, s, m, below, meth, c, b, L, xs, G⟩ := y
  obtain ⟨hx, hb, hr, hml, hown, hts, hX, hbl, hlocks, hKn, hG1, hcl, hcm, hL⟩ := hy
  have st : lA (p, l, e, s, m, below, meth, c, b, L, xs, G) 824 [(4, .double d), (3, .int (nI i)), (2, .ref (G.1 + 60)), (1, .ref G.1), (0, .ref b)] [.ref (G.1 + 60)] σ1 := by
    refine l_call hz (As := []) T_X9_mean (s_Rcv_of 7 _ _) rfl gL_law_X9_mean rfl (by decide +kernel) (n := 0) (Nat.le_of_ble_eq_true rfl) (Nat.le_of_ble_eq_true rfl) dL_law_824 rfl e9 hE (rest := []) (Nat.le_of_ble_eq_true rfl) ?_
    show lA _ 827 _ [.double d] σ2
    intro H locs ls hrel hS hl
    refine lv_dstore (lv' := [(6, .double d), (4, .double d), (3, .int (nI i)), (2, .ref (G.1 + 60)), (1, .ref G.1), (0, .ref b)]) hx hb dL_law_827 hl (by decide) rfl (fun ls hl => ?_)
    have K := K H locs ls hrel hS (lv_sub hl [2, 3, 4, 5] rfl)
    have d4 := lv_at hl 1 rfl
    have d6 := lv_at hl 0 rfl
    refine lv_dload hx hb dL_law_829 d4 (lv_dload hx hb dL_law_831 d6 (lv_dcmp hx hb dL_law_833 ?_))
    refine lv_if_eq (tgt := 855) hx hb dL_law_834 (by decide) (fun _ => ?_) (fun w => ?_)
    · exact lv_goto (tgt := 976) hx hb dL_law_855 (by decide) K
    · refine lv_dload hx hb dL_law_837 d4 (lv_dload hx hb dL_law_839 d4 (lv_dcmp hx hb dL_law_841 ?_))
      refine lv_if_eq (tgt := 853) hx hb dL_law_842 (by decide) (fun u => absurd u w) (fun _ => ?_)
      refine lv_dload hx hb dL_law_845 d6 (lv_dload hx hb dL_law_847 d6 (lv_dcmp hx hb dL_law_849 ?_))
      refine lv_if_ne (tgt := 855) hx hb dL_law_850 (by decide) (fun _ => ?_) (fun u => absurd u w)
      exact lv_goto (tgt := 976) hx hb dL_law_855 (by decide) K
  intro H locs ls hrel hS hl
  refine lv_dstore (lv' := [(4, .double d), (3, .int (nI i)), (2, .ref (G.1 + 60)), (1, .ref G.1), (0, .ref b)]) hx hb dL_law_821 hl (by decide) rfl (fun ls hl => ?_)
  refine lv_aload_n hx hb dL_law_823 rfl (lv_at hl 2 rfl) ?_
  exact st H locs ls hrel hS hl
def lTab : Array Int := #[136, 169, 192, 215, 238, 271, 284, 317, 340, 353, 376, 389, 402, 425, 458, 491, 534, 567, 610, 663, 716, 729, 762, 785, 826, 869, 892, 905, 918, 931]
theorem l_tab {y : lCy} (hy : lOk y) {lv : List (Nat × Value)} {k tgt : Nat} {off : Int} (hk : k ≤ 29) (ho : lTab[k]? = some off) (ht : (32 : Int) + off = (tgt : Int)) {σ : sSt} (K : lA y tgt lv [] σ) : lA y 32 lv [.int (nI k)] σ := by
  obtain ⟨p, l, e, s, m, below, meth, c, b, L, xs, G⟩ := y
  obtain ⟨hx, hb, -⟩ := hy
  intro H locs ls hrel hS hl
  have e1 : (nI k).toInt = (k : Int) := nI_toInt (by omega)
  exact lv_tableIn (off := off) (tgt := tgt) hx hb dL_law_32 (by rw [e1]; omega) (by rw [e1]; omega) (by rw [e1]; show lTab[((k : Int) - 0).toNat]? = _; rw [show ((k : Int) - 0).toNat = k by omega]; exact ho) ht (K H locs ls hrel hS hl)
theorem l_out {y : lCy} (hy : lOk y) {lv : List (Nat × Value)} {k : Nat} (hk : 29 < k) (hk2 : k < 32) {σ : sSt} (K : lA y 976 lv [] σ) : lA y 32 lv [.int (nI k)] σ := by
  obtain ⟨p, l, e, s, m, below, meth, c, b, L, xs, G⟩ := y
  obtain ⟨hx, hb, -⟩ := hy
  intro H locs ls hrel hS hl
  have e1 : (nI k).toInt = (k : Int) := nI_toInt (by omega)
  exact lv_tableOut (tgt := 976) hx hb dL_law_32 (by rw [e1]; omega) (by decide) (K H locs ls hrel hS hl)
theorem l_and (x : Int32) : ∃ k, k < 32 ∧ x &&& 31 = nI k := by
  refine ⟨(x &&& 31).toBitVec.toNat, ?_, ?_⟩
  · rw [Int32.toBitVec_and, BitVec.toNat_and]
    exact Nat.lt_of_le_of_lt Nat.and_le_right (Nat.lt_succ_self _)
  · apply Int32.toBitVec_inj.mp
    show _ = (Int32.ofNat _).toBitVec
    rw [show (Int32.ofNat (x &&& 31).toBitVec.toNat).toBitVec = BitVec.ofNat 32 (x &&& 31).toBitVec.toNat from rfl, BitVec.ofNat_toNat, BitVec.setWidth_eq]
theorem l_sw {y : lCy} (hy : lOk y) {i : Nat} {σ : sSt} {V : tV} (hi : i + 4 < lL y) (h : JV σ V) (kk : ∀ (σ2 : sSt) (V2 : tV), JV σ2 V2 → lA y 976 (lV y i) [] σ2) {k : Nat} (hk : k < 32) : lA y 32 (lV y i) [.int (nI k)] σ := by
  rcases (show k = 0 ∨ k = 1 ∨ k = 2 ∨ k = 3 ∨ k = 4 ∨ k = 5 ∨ k = 6 ∨ k = 7 ∨ k = 8 ∨ k = 9 ∨ k = 10 ∨ k = 11 ∨ k = 12 ∨ k = 13 ∨ k = 14 ∨ k = 15 ∨ k = 16 ∨ k = 17 ∨ k = 18 ∨ k = 19 ∨ k = 20 ∨ k = 21 ∨ k = 22 ∨ k = 23 ∨ k = 24 ∨ k = 25 ∨ k = 26 ∨ k = 27 ∨ k = 28 ∨ k = 29 ∨ 29 < k by omega) with rfl | rfl | rfl | rfl | rfl | rfl | rfl | rfl | rfl | rfl | rfl | rfl | rfl | rfl | rfl | rfl | rfl | rfl | rfl | rfl | rfl | rfl | rfl | rfl | rfl | rfl | rfl | rfl | rfl | rfl | g
  · exact l_tab hy (Nat.le_of_ble_eq_true rfl) rfl (off := 136) (by decide) (l_c0 hy hi h kk)
  · exact l_tab hy (Nat.le_of_ble_eq_true rfl) rfl (off := 169) (by decide) (l_c1 hy hi h kk)
  · exact l_tab hy (Nat.le_of_ble_eq_true rfl) rfl (off := 192) (by decide) (l_c2 hy hi h kk)
  · exact l_tab hy (Nat.le_of_ble_eq_true rfl) rfl (off := 215) (by decide) (l_c3 hy hi h kk)
  · exact l_tab hy (Nat.le_of_ble_eq_true rfl) rfl (off := 238) (by decide) (l_c4 hy hi h kk)
  · exact l_tab hy (Nat.le_of_ble_eq_true rfl) rfl (off := 271) (by decide) (l_c5 hy hi h kk)
  · exact l_tab hy (Nat.le_of_ble_eq_true rfl) rfl (off := 284) (by decide) (l_c6 hy hi h kk)
  · exact l_tab hy (Nat.le_of_ble_eq_true rfl) rfl (off := 317) (by decide) (l_c7 hy hi h kk)
  · exact l_tab hy (Nat.le_of_ble_eq_true rfl) rfl (off := 340) (by decide) (l_c8 hy hi h kk)
  · exact l_tab hy (Nat.le_of_ble_eq_true rfl) rfl (off := 353) (by decide) (l_c9 hy hi h kk)
  · exact l_tab hy (Nat.le_of_ble_eq_true rfl) rfl (off := 376) (by decide) (l_c10 hy hi h kk)
  · exact l_tab hy (Nat.le_of_ble_eq_true rfl) rfl (off := 389) (by decide) (l_c11 hy hi h kk)
  · exact l_tab hy (Nat.le_of_ble_eq_true rfl) rfl (off := 402) (by decide) (l_c12 hy hi h kk)
  · exact l_tab hy (Nat.le_of_ble_eq_true rfl) rfl (off := 425) (by decide) (l_c13 hy hi h kk)
  · exact l_tab hy (Nat.le_of_ble_eq_true rfl) rfl (off := 458) (by decide) (l_c14 hy hi h kk)
  · exact l_tab hy (Nat.le_of_ble_eq_true rfl) rfl (off := 491) (by decide) (l_c15 hy hi h kk)
  · exact l_tab hy (Nat.le_of_ble_eq_true rfl) rfl (off := 534) (by decide) (l_c16 hy hi h kk)
  · exact l_tab hy (Nat.le_of_ble_eq_true rfl) rfl (off := 567) (by decide) (l_c17 hy hi h kk)
  · exact l_tab hy (Nat.le_of_ble_eq_true rfl) rfl (off := 610) (by decide) (l_c18 hy hi h kk)
  · exact l_tab hy (Nat.le_of_ble_eq_true rfl) rfl (off := 663) (by decide) (l_c19 hy hi h kk)
  · exact l_tab hy (Nat.le_of_ble_eq_true rfl) rfl (off := 716) (by decide) (l_c20 hy hi h kk)
  · exact l_tab hy (Nat.le_of_ble_eq_true rfl) rfl (off := 729) (by decide) (l_c21 hy hi h kk)
  · exact l_tab hy (Nat.le_of_ble_eq_true rfl) rfl (off := 762) (by decide) (l_c22 hy hi h kk)
  · exact l_tab hy (Nat.le_of_ble_eq_true rfl) rfl (off := 785) (by decide) (l_c23 hy h kk)
  · exact l_tab hy (Nat.le_of_ble_eq_true rfl) rfl (off := 826) (by decide) (l_c24 hy hi h kk)
  · exact l_tab hy (Nat.le_of_ble_eq_true rfl) rfl (off := 869) (by decide) (l_c25 hy hi h kk)
  · exact l_tab hy (Nat.le_of_ble_eq_true rfl) rfl (off := 892) (by decide) (l_c26 hy hi h kk)
  · exact l_tab hy (Nat.le_of_ble_eq_true rfl) rfl (off := 905) (by decide) (l_c27 hy hi h kk)
  · exact l_tab hy (Nat.le_of_ble_eq_true rfl) rfl (off := 918) (by decide) (l_c28 hy hi h kk)
  · exact l_tab hy (Nat.le_of_ble_eq_true rfl) rfl (off := 931) (by decide) (l_c29 hy hi h kk)
  · exact l_out hy g hk (kk σ V h)
/-- the loop -/
theorem l_loop {y : lCy} (hy : lOk y) : ∀ (n i : Nat) (σ : sSt) (V : tV), lL y < i + n → i ≤ lL y → JV σ V → lA y 18 (lV y i) [] σ := by
  intro n
  induction n with
  | zero => intro i σ V h1 h2; exact absurd h1 (by omega)
  | succ n ih =>
    intro i σ V h1 h2 h
    have hz := hy
    have hroom := h.room
    have ih2 := fun (hi : i + 4 < lL y) (σ2 : sSt) (V2 : tV) (j : JV σ2 V2) => ih (i + 5) σ2 V2 (by omega) (by omega) j
    have sw := fun (hi : i + 4 < lL y) (kk : ∀ (σ2 : sSt) (V2 : tV), JV σ2 V2 → lA y 976 (lV y i) [] σ2) (k : Nat) (hk : k < 32) => l_sw hy hi h kk hk
    obtain ⟨p, l, e, s, m, below, meth, c, b, L, xs, G⟩ := y
    obtain ⟨hx, hb, hr, hml, hown, hts, hX, hbl, hlocks, hKn, hG1, hcl, hcm, hL⟩ := hy
    have h1 : L < i + (n + 1) := h1
    have h2 : i ≤ L := h2
    have hbA : ¬ G.1 ≤ b := by rw [hG1]; exact Nat.not_le.mpr hbl
    intro H locs ls hrel hS hl
    refine lv_iload_n hx hb dL_law_18 rfl (lv_at hl 0 rfl) ?_
    refine lv_aload_n hx hb dL_law_19 rfl (lv_at hl 3 rfl) ?_
    refine va_slen hx hb hX hbl hbA hS dL_law_20 ?_
    refine lv_iconst hx hb dL_law_21 (v := nI 5) (by decide +kernel) ?_
    refine lv_isub hx hb dL_law_22 ?_
    have e5 : (Int32.ofNat L - nI 5).toInt = (L : Int) - 5 := pk_sub_toInt (a := L) (b := 5) (by omega) (by omega)
    have ei : (nI i).toInt = (i : Int) := nI_toInt (by omega)
    refine lv_icmp_gt (tgt := 982) hx hb dL_law_23 (by decide) (fun q => ?_) (fun q => ?_)
    · refine lv_iconst (v := 1) hx hb dL_law_982 (by decide) ?_
      refine va_forget (fun q hq => by rw [← hG1]; exact hS.2.2 q hq) ?_
      refine W.widen (k := 600000) (n := 7302250) hroom.1 hroom.2 ?_
      exact lw_ret (d0 := s.drawn) (Drawn.sameBut.refl s.drawn lw_cs) hx hb hr hlocks dL_law_983
    · have hi : i + 4 < L := by
        rw [Int32.lt_iff_toInt_lt, e5, ei] at q
        omega
      refine lv_aload_n hx hb dL_law_26 rfl (lv_at hl 3 rfl) ?_
      refine lv_iload_n hx hb dL_law_27 rfl (lv_at hl 0 rfl) ?_
      refine va_sld hx hb hX hbl hbA hS (vp_in_nI (show i < L by omega) (by omega)) dL_law_28 ?_
      refine lv_bipush (v := 31) hx hb dL_law_29 (by decide +kernel) ?_
      refine lv_iand hx hb dL_law_31 ?_
      obtain ⟨k, hk, ek⟩ := l_and (xs (nI i).toNatClampNeg)
      rw [ek]
      refine sw hi (fun σ2 V2 j => ?_) k hk H locs ls hrel hS hl
      intro H locs ls hrel hS hl
      refine lv_iinc (v := nI (i + 5)) (lv' := lV (p, l, e, s, m, below, meth, c, b, L, xs, G) (i + 5)) hx hb dL_law_976 hl (k := 0) rfl (by rw [show Int32.ofInt 5 = nI 5 by decide +kernel, nI_add]) (by decide) rfl (fun ls hl => ?_)
      refine lv_goto (tgt := 18) hx hb dL_law_979 (by decide) ?_
      exact ih2 hi σ2 V2 j H locs ls hrel hS hl
