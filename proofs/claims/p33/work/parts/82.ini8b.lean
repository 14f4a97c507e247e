/-! StairKin's constructor (own work): the whole -/
theorem iPut {k n n' b : Nat} {fs : List Value} {l l' : List sAC} {E : sEx (Option Nat)} (hk : k < fs.length) (e : E [.ref 0] (.inl (6, fs) :: l, n) = some (some b, (.inl (6, fs) :: l', n'))) : s_putR 6 k (e_r 0) E [.ref 0] (.inl (6, fs) :: l, n) = some (.inr ([.ref 0], (.inl (6, fs.set k (.ref b)) :: l', n'))) := by
  have o : h_obj (.inl (6, fs) :: l', n') (some 0) 6 = some fs := h_obj_eq rfl
  have r0 : e_r 0 [Value.ref 0] (.inl (6, fs) :: l, n) = some (some 0, (.inl (6, fs) :: l, n)) := rfl
  simp only [xs_putR, r0, e, o, hk, Option.bind_some, if_true]
  rfl
def l3 : List sAC := iS 1 ++ (iS 7 ++ iS 13)
def l4 : List sAC := l3 ++ .inl (3, [.ref 20, .int 0, .int 0]) :: .inr (.inr (5, rF 19)) :: (iS 21 ++ (iS 27 ++ (iS 33 ++ (iS 39 ++ iS 45))))
def l5 : List sAC := l4 ++ [.inl (4, [.ref 52, .int 0, .int 0, .int 0, .int 0, .int 0, .int 0, .int 0, .int 0]), iA 60]
def l6 : List sAC := l5 ++ [.inl (2, [.ref 54, .int 0]), iA 12]
def l7 : List sAC := l6 ++ [.inl (1, [.ref 56, .int 0, .int 0, .int 0, .int 0, .ref 57, .ref 58, .ref 59]), iA 12, iA 12, iA 12, iA 12]
theorem ini8 (n : Nat) : M_X8_init [.ref 0] ([.inl (6, [.null, .null, .null, .int 0, .null, .null, .null, .null, .int 0, .int 0, .int 0])], n) = some (none, (.inl (6, kF false 0 0 0) :: l7, n + 707)) := by
  refine m_eq rfl rfl ?_
  unfold B_X8_init
  refine (seq_r (L1 := [.ref 0]) (σ1 := (.inl (6, kF false 0 0 0) :: l7, n + 707)) ?_).trans rfl
  have h1 := iPut (k := 0) (fs := [.null, .null, .null, .int 0, .null, .null, .null, .null, .int 0, .int 0, .int 0]) (l := []) (l' := iS 1) (n := n) (n' := n + 70) (b := 1) (Nat.le_of_ble_eq_true rfl) (iniS _ n _)
  have h2 := iPut (k := 1) (fs := [.ref 1, .null, .null, .int 0, .null, .null, .null, .null, .int 0, .int 0, .int 0]) (l := iS 1) (l' := iS 1 ++ iS 7) (n := n + 70) (n' := n + 140) (b := 7) (Nat.le_of_ble_eq_true rfl) (iniS _ (n + 70) _)
  have h3 := iPut (k := 2) (fs := [.ref 1, .ref 7, .null, .int 0, .null, .null, .null, .null, .int 0, .int 0, .int 0]) (l := iS 1 ++ iS 7) (l' := l3) (n := n + 140) (n' := n + 210) (b := 13) (Nat.le_of_ble_eq_true rfl) (iniS _ (n + 140) _)
  have h4 := iPut (k := 4) (fs := [.ref 1, .ref 7, .ref 13, .int 0, .null, .null, .null, .null, .int 0, .int 0, .int 0]) (l := l3) (l' := l4) (n := n + 210) (n' := n + 568) (b := 19) (Nat.le_of_ble_eq_true rfl) (iniH _ (n + 210) _)
  have h5 := iPut (k := 5) (fs := [.ref 1, .ref 7, .ref 13, .int 0, .ref 19, .null, .null, .null, .int 0, .int 0, .int 0]) (l := l4) (l' := l5) (n := n + 568) (n' := n + 637) (b := 51) (Nat.le_of_ble_eq_true rfl) (iniP _ (n + 568) _)
  have h6 := iPut (k := 6) (fs := [.ref 1, .ref 7, .ref 13, .int 0, .ref 19, .ref 51, .null, .null, .int 0, .int 0, .int 0]) (l := l5) (l' := l6) (n := n + 637) (n' := n + 651) (b := 53) (Nat.le_of_ble_eq_true rfl) (iniF _ (n + 637) _)
  have h7 := iPut (k := 7) (fs := [.ref 1, .ref 7, .ref 13, .int 0, .ref 19, .ref 51, .ref 53, .null, .int 0, .int 0, .int 0]) (l := l6) (l' := l7) (n := n + 651) (n' := n + 707) (b := 55) (Nat.le_of_ble_eq_true rfl) (iniC _ (n + 651) _)
  exact (seq_r (L1 := [.ref 0]) (σ1 := ([.inl (6, [.null, .null, .null, .int 0, .null, .null, .null, .null, .int 0, .int 0, .int 0])], n)) rfl).trans ((seq_r h1).trans ((seq_r h2).trans ((seq_r h3).trans ((seq_r h4).trans ((seq_r h5).trans ((seq_r h6).trans h7))))))
