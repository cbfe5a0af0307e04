section WP
/-- a text that comes to an end, and what then holds -/
def Ok {α : Type} (x : Option (α × Mem)) (Q : α → Mem → Prop) : Prop := ∃ a m', x = some (a, m') ∧ Q a m'
theorem ok_lt {α β : Type} {x : β} {f : β → Option (α × Mem)} {Q : α → Mem → Prop} (h : Ok (f x) Q) : Ok (lt x f) Q := h
theorem ok_ck {α : Type} {b : Bool} {k : Option (α × Mem)} {Q : α → Mem → Prop} (hb : b = true) (h : Ok k Q) : Ok (ckB b k) Q := by rw [hb]; exact h
theorem ok_some {α : Type} {a : α} {m' : Mem} {Q : α → Mem → Prop} (h : Q a m') : Ok (some (a, m')) Q := ⟨a, m', rfl, h⟩
theorem ok_ite {α : Type} {c : Prop} [inst : Decidable c] {x y : Option (α × Mem)} {Q : α → Mem → Prop} (h1 : c → Ok x Q) (h2 : ¬ c → Ok y Q) : Ok (if c then x else y) Q := by
  by_cases h : c
  · rw [if_pos h]; exact h1 h
  · rw [if_neg h]; exact h2 h
theorem ok_t {α : Type} {c : Prop} [inst : Decidable c] {x y : Option (α × Mem)} {Q : α → Mem → Prop} (hc : c) (h : Ok x Q) : Ok (if c then x else y) Q := by rw [if_pos hc]; exact h
theorem ok_f {α : Type} {c : Prop} [inst : Decidable c] {x y : Option (α × Mem)} {Q : α → Mem → Prop} (hc : ¬ c) (h : Ok y Q) : Ok (if c then x else y) Q := by rw [if_neg hc]; exact h
theorem ok_bnd {α β : Type} {o : Option (β × Mem)} {f : β → Mem → Option (α × Mem)} {Q : α → Mem → Prop} (h : Ok o (fun a m => Ok (f a m) Q)) : Ok (bnd o f) Q := by
  obtain ⟨a, m', e, h⟩ := h
  rw [bnd_some e]; exact h
/-- what holds behind a call that may throw -/
def okX {α β : Type} (Q : (Nat ⊕ α) → Mem → Prop) (f : β → Mem → Option ((Nat ⊕ α) × Mem)) (r : Nat ⊕ β) (m : Mem) : Prop := match r with
  | .inl k => Q (.inl k) m
  | .inr a => Ok (f a m) Q
theorem ok_xr {α β : Type} {Q : (Nat ⊕ α) → Mem → Prop} {f : β → Mem → Option ((Nat ⊕ α) × Mem)} {a : β} {m : Mem} (h : Ok (f a m) Q) : okX Q f (.inr a) m := h
theorem ok_xl {α β : Type} {Q : (Nat ⊕ α) → Mem → Prop} {f : β → Mem → Option ((Nat ⊕ α) × Mem)} {k : Nat} {m : Mem} (h : Q (.inl k) m) : okX Q f (.inl k) m := h
theorem ok_bndX {α β : Type} {o : Option ((Nat ⊕ β) × Mem)} {f : β → Mem → Option ((Nat ⊕ α) × Mem)} {Q : (Nat ⊕ α) → Mem → Prop} (h : Ok o (okX Q f)) : Ok (bndX o f) Q := by
  obtain ⟨a, m', e, h⟩ := h
  cases a with
  | inl k => rw [bndX_inl e]; exact ⟨_, _, rfl, h⟩
  | inr a => rw [bndX_inr e]; exact h
theorem ok_bnd_e {α β : Type} {o : Option (β × Mem)} {f : β → Mem → Option (α × Mem)} {Q : α → Mem → Prop} {a : β} {m' : Mem} (e : o = some (a, m')) (h : Ok (f a m') Q) : Ok (bnd o f) Q := by
  rw [bnd_some e]; exact h
theorem ok_of {α : Type} {x : Option (α × Mem)} {P Q : α → Mem → Prop} (h : Ok x P) (h2 : ∀ a m', P a m' → Q a m') : Ok x Q := by
  obtain ⟨a, m', e, h⟩ := h
  exact ⟨a, m', e, h2 a m' h⟩
theorem ok_e {α : Type} {x : Option (α × Mem)} {Q : α → Mem → Prop} {a : α} {m' : Mem} (e : x = some (a, m')) (h : Q a m') : Ok x Q := ⟨a, m', e, h⟩
/-- only the reference's word of a throw changes -/
def Thr (m m' : Mem) : Prop := Fr [] [(78, 0)] m m'
theorem thr_s {m : Mem} {v : Int32} : Thr m (sI m 78 0 v) := Fr_sI rfl Fr_rf (by decide)
theorem thr_ss {m : Mem} {v w : Int32} : Thr m (sI (sI m 78 0 v) 78 0 w) := Fr_sI rfl thr_s (by decide)
theorem bounds {α : Type} {x : Option (α × Mem)} {Q : α → Mem → Prop} (h : Ok x Q) : ∃ a m', x = some (a, m') ∧ Q a m' := h
end WP
