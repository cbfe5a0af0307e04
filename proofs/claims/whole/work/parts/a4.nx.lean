section NXT
/-! ===== which exceptions a text may throw ===== -/
def Nx {α : Type} (S : Nat → Prop) (x : Option ((Nat ⊕ α) × Mem)) : Prop := ∀ ke m', x = some (.inl ke, m') → S ke
variable {α β : Type} {S : Nat → Prop}
theorem nx_r {v : α} {m : Mem} : Nx S (some (.inr v, m)) := fun _ _ h => by cases h
theorem nx_l {ke : Nat} {m : Mem} (h : S ke) : Nx (α := α) S (some (.inl ke, m)) := fun _ _ e => by cases e; exact h
theorem nx_none : Nx (α := α) S none := fun _ _ h => by cases h
theorem nx_lt {x : β} {f : β → Option ((Nat ⊕ α) × Mem)} (h : Nx S (f x)) : Nx S (lt x f) := h
theorem nx_ite {c : Prop} [inst : Decidable c] {a b : Option ((Nat ⊕ α) × Mem)} (h1 : c → Nx S a) (h2 : ¬ c → Nx S b) : Nx S (if c then a else b) := by
  by_cases hc : c
  · rw [if_pos hc]; exact h1 hc
  · rw [if_neg hc]; exact h2 hc
theorem nx_bnd {o : Option (β × Mem)} {f : β → Mem → Option ((Nat ⊕ α) × Mem)} (h : ∀ v m, Nx S (f v m)) : Nx S (bnd o f) := fun ke m' e => by
  obtain ⟨v, m, -, h2⟩ := bnd_ex e
  exact h v m _ _ h2
theorem nx_bndX {o : Option ((Nat ⊕ β) × Mem)} {f : β → Mem → Option ((Nat ⊕ α) × Mem)} (h : Nx S o) (h2 : ∀ v m, Nx S (f v m)) : Nx S (bndX o f) := fun ke m' e => by
  rcases bndX_ex e with ⟨k2, m, h3, h4⟩ | ⟨v, m, -, h3⟩
  · cases h4
    exact h _ _ h3
  · exact h2 v m _ _ h3
def S12 (ke : Nat) : Prop := ke = 2 ∨ ke = 1
def S2 (ke : Nat) : Prop := ke = 2
theorem nx_mono {S' : Nat → Prop} {x : Option ((Nat ⊕ α) × Mem)} (h : Nx S x) (hs : ∀ k, S k → S' k) : Nx S' x := fun ke m' e => hs _ (h _ _ e)
theorem nx_below {a b : Int32} {m : Mem} : Nx S2 (F_T_mustBeBelow a b m) := by
  unfold F_T_mustBeBelow
  refine nx_lt (nx_ite (fun _ => nx_l rfl) (fun _ => nx_ite (fun _ => nx_r) (fun _ => nx_l rfl)))
theorem nx_state {a b c d : Int32} {m : Mem} : Nx S12 (F_T_mustBeState a b c d m) := by
  unfold F_T_mustBeState
  refine nx_bndX (nx_mono nx_below fun _ h => Or.inl h) (fun _ _ => nx_bndX (nx_mono nx_below fun _ h => Or.inl h) (fun _ _ => nx_lt ?_))
  exact nx_ite (fun _ => nx_l (Or.inr rfl)) (fun _ => nx_ite (fun _ => nx_l (Or.inr rfl)) (fun _ => nx_ite (fun _ => nx_l (Or.inr rfl)) (fun _ => nx_ite (fun _ => nx_r) (fun _ => nx_l (Or.inr rfl)))))
theorem nx_state0 {a b : Int32} {m : Mem} : Nx S2 (F_T_mustBeState a b 0 0 m) := by
  unfold F_T_mustBeState
  refine nx_bndX nx_below (fun _ _ => nx_bndX nx_below (fun _ _ => nx_lt ?_))
  exact nx_ite (fun h => absurd h (by decide)) (fun _ => nx_ite (fun h => absurd h (by decide)) (fun _ => nx_ite (fun h => absurd h (by decide)) (fun _ => nx_ite (fun _ => nx_r) (fun h => absurd (by decide) h))))
theorem nx_declares {a b : Int32} {z : Bool} {c d : Int32} {m : Mem} : Nx S12 (F_T_declares a b z c d m) := by
  unfold F_T_declares
  exact nx_bndX nx_state (fun _ _ => nx_bnd (fun _ _ => nx_ite (fun _ => nx_r) (fun _ => nx_bnd (fun _ _ => nx_bnd (fun _ _ => nx_ite (fun _ => nx_r) (fun _ => nx_r))))))
theorem nx_enforces {a b : Int32} {m : Mem} : Nx S12 (F_T_enforces a b m) := by
  unfold F_T_enforces
  exact nx_bndX nx_state (fun _ _ => nx_bnd (fun _ _ => nx_bnd (fun _ _ => nx_bnd (fun _ _ => nx_r))))
theorem nx_holds {a : Int32} {z : Bool} {b c : Int32} {m : Mem} : Nx S12 (F_T_holds a z b c m) := by
  unfold F_T_holds
  exact nx_bndX nx_state (fun _ _ => nx_bnd (fun _ _ => nx_bnd (fun _ _ => nx_bnd (fun _ _ => nx_r))))
theorem nx_when_L {a b : Int32} : ∀ (nf : Nat) (x : Int32) (m : Mem), Nx S12 (F_T_when_L27 a b nf x m) := by
  intro nf
  induction nf with
  | zero =>
    intro x m
    exact nx_none
  | succ nf ih =>
    intro x m
    rw [F_T_when_L27]
    exact nx_ite (fun _ => nx_r) (fun _ => nx_bnd (fun _ _ => nx_bnd (fun _ _ => nx_ite (fun _ => nx_r) (fun _ => nx_lt (ih _ _)))))
theorem nx_when {a b : Int32} {m : Mem} : Nx S12 (F_T_when a b m) := by
  unfold F_T_when
  exact nx_bndX nx_state (fun _ _ => nx_bnd (fun _ _ => nx_when_L _ _ _))
theorem nx_turnover_L {a b : Int32} : ∀ (nf : Nat) (x : Int32) (m : Mem), Nx S12 (F_T_turnover_L27 a b nf x m) := by
  intro nf
  induction nf with
  | zero =>
    intro x m
    exact nx_none
  | succ nf ih =>
    intro x m
    rw [F_T_turnover_L27]
    exact nx_ite (fun _ => nx_r) (fun _ => nx_bnd (fun _ _ => nx_bnd (fun _ _ => nx_ite (fun _ => nx_lt (ih _ _)) (fun _ => nx_r))))
theorem nx_turnover {a b : Int32} {m : Mem} : Nx S12 (F_T_turnover a b m) := by
  unfold F_T_turnover
  exact nx_bndX nx_state (fun _ _ => nx_bnd (fun _ _ => nx_turnover_L _ _ _))
theorem nx_chased_L {a b : Int32} : ∀ (nf : Nat) (x : Int32) (m : Mem), Nx S2 (F_T_chased_L33 a b nf x m) := by
  intro nf
  induction nf with
  | zero =>
    intro x m
    exact nx_none
  | succ nf ih =>
    intro x m
    rw [F_T_chased_L33]
    exact nx_ite (fun _ => nx_r) (fun _ => nx_bnd (fun _ _ => nx_bnd (fun _ _ => nx_ite (fun _ => nx_lt (ih _ _)) (fun _ => nx_r))))
theorem nx_chased {a : Int32} {m : Mem} : Nx S2 (F_T_chased a m) := by
  unfold F_T_chased
  exact nx_bndX nx_state0 (fun _ _ => nx_bnd (fun _ _ => nx_bnd (fun _ _ => nx_chased_L _ _ _)))
theorem nx_line_L {a b c f : Int32} {k : Int32 → Mem → Option ((Nat ⊕ Int32) × Mem)} (hk : ∀ x m, Nx S12 (k x m)) : ∀ (nf : Nat) (x : Int32) (m : Mem), Nx S12 (F_T_line_L27 a b c f k nf x m) := by
  intro nf
  induction nf with
  | zero =>
    intro x m
    exact nx_none
  | succ nf ih =>
    intro x m
    rw [F_T_line_L27]
    exact nx_ite (fun _ => nx_r) (fun _ => nx_bnd (fun _ _ => nx_bnd (fun _ _ => nx_ite (fun _ => nx_lt (ih _ _)) (fun _ => hk _ _))))
theorem nx_line {a b : Int32} {z : Bool} {c d : Int32} {m : Mem} : Nx S12 (F_T_line a b z c d m) := by
  unfold F_T_line
  exact nx_bndX nx_state (fun _ _ => nx_ite (fun _ => nx_r) (fun _ => nx_bnd (fun _ _ => nx_lt (nx_line_L (fun _ _ => nx_ite (fun _ => nx_r) (fun _ => nx_r)) _ _ _))))
end NXT
