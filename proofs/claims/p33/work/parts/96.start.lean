/-! the walk from the entry (own work) -/
theorem whole_start {p : Program} {e : Env} {s : State} {m : MethodId} {below : List Frame} {meth : Method} {c : Code} (l : Launch) (hflags : l.flags = flags0) {b L : Nat} {xs : Nat → Int32} (hL : L ≤ 260) (C0 : lw_At p s m meth c b L xs) : W p l e room_1 s m #[Value.ref b] below meth c s.heap [] 0 0 (lw_Z below #[Value.ref b] s) (entryFrame m ([Value.ref b] : List Value).toArray 9) := by
  obtain ⟨hx, hb, hr, hml, hown, hts, hX, hbl, hlocks, hgv⟩ := C0
  obtain ⟨G, hG1, hcl, hcm, hKn⟩ := s_Kn_start hts
  have hOk : lOk (p, l, e, s, m, below, meth, c, b, L, xs, G) := ⟨hx, hb, hr, hml, hown, fun w hw => hts w (wl_law w hw), hX, hbl, hlocks, hKn, hG1, hcl, hcm, hL⟩
  have hl := lv_entry ([.ref b]) (n := 9) (Nat.le_of_ble_eq_true rfl)
  rw [lg_entry_eq]
  generalize (lg_sl ([.ref b]) ++ List.replicate (9 - (lg_sl ([.ref b])).length) Slot.unset).toArray = ls at hl ⊢
  have hl : lv_has ls 9 [(0, .ref b)] := hl
  exact l_start hOk s.heap [] ls ⟨by rw [hG1]; rfl, fun i a h => by simp at h⟩ va_S.rf hl
