section VIA
theorem bnd_eta {α : Type} (o : Option (α × Mem)) : (bnd o fun v m => some (v, m)) = o := by
  cases o with
  | none => rfl
  | some p => cases p; rfl
theorem viaFrom_ok {a b c d : Int32} {m : Mem} {Q : Int64 → Mem → Prop} (h : Ok (F_Od_waysAt 40 a b c d m) Q) : Ok (F_Od_waysFrom a b c d m) Q := by
  unfold F_Od_waysFrom
  rw [bnd_eta]
  exact h
theorem viaSlot_ok {a b c d e : Int32} {m : Mem} {Q : Int64 → Mem → Prop} (h : Ok (F_Od_waysOfSlot (F_Od_waysAt 40) a b c d e false m) Q) : Ok (F_Od_waysBySlot a b c d e m) Q := by
  unfold F_Od_waysBySlot
  rw [bnd_eta]
  exact h
theorem viaGo_ok {a b c d : Int32} {m : Mem} {Q : Int64 → Mem → Prop} (h : Ok (F_Od_waysGoingOn (F_Od_waysAt 40) a b c d m) Q) : Ok (F_Od_waysByChoice false a b c d m) Q := by
  unfold F_Od_waysByChoice
  rw [if_neg Bool.false_ne_true, bnd_eta]
  exact h
theorem viaOw_ok {a b c d : Int32} {m : Mem} {Q : Int64 → Mem → Prop} (h : Ok (F_Od_waysOtherwise (F_Od_waysAt 40) a b c d m) Q) : Ok (F_Od_waysByChoice true a b c d m) Q := by
  unfold F_Od_waysByChoice
  rw [if_pos rfl, bnd_eta]
  exact h
end VIA
