/-! the links among nest mates, as data (printed by wip/whole/gen_nest.py) -/
def s_nest : List Cond := [
  Cond.fieldLinkNest "StairKin" 221 "StairKin$Stairs" "accounts" "LStairKin$Accounts;" "StairKin",
  Cond.fieldLinkNest "StairKin$Families" 15 "StairKin$Stairs" "size" "I" "StairKin",
  Cond.fieldLinkNest "StairKin" 97 "StairKin$Stairs" "size" "I" "StairKin",
  Cond.fieldLinkNest "StairKin" 270 "StairKin$Stairs" "rule" "I" "StairKin",
  Cond.fieldLinkNest "StairKin" 273 "StairKin$Stairs" "stride" "I" "StairKin",
  Cond.fieldLinkNest "StairKin" 261 "StairKin$Stairs" "broken" "I" "StairKin",
  Cond.fieldLinkNest "StairKin" 277 "StairKin$History" "held" "I" "StairKin",
  Cond.fieldLinkNest "StairKin" 276 "StairKin$Pad" "length" "I" "StairKin",
  Cond.arrayOver (.object "StairKin$Stairs")]
def s_isN : Cond → Bool := fun w => match w with
  | .fieldLinkNest _ _ _ _ _ _ => true
  | .methodLinkNest _ _ _ _ => true
  | .arrayOver (.object _) => true
  | _ => false
theorem s_nest_ok : ∀ w ∈ s_nest, s_isN w = true := List.all_eq_true.mp (by decide +kernel)
theorem s_nest_warm {w : Cond} (hw : s_isN w = true) {s U : State} (hW : s.WarmedH U.vm) (h : va_Nw w s) : va_Nw w U := by
  unfold s_isN at hw
  split at hw
  · exact va_Nw.warmF hW h
  · exact va_Nw.warmM hW h
  · exact va_AO.moved hW.alike h
  · cases hw
theorem s_nest_same {w : Cond} (hw : s_isN w = true) {s U : State} (hv : s.vm = U.vm) (h : va_Nw w s) : va_Nw w U := by
  unfold s_isN at hw
  split at hw
  · exact va_Nw.same rfl hv h
  · exact va_Nw.same rfl hv h
  · exact va_AO.moved (by rw [hv]; exact Vm.Alike.refl _) h
  · cases hw
