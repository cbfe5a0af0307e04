section LAWT
/-- what holds wherever a text ends -/
def Pt {α : Type} (x : Option (α × Mem)) (Q : α → Mem → Prop) : Prop := ∀ a m', x = some (a, m') → Q a m'
theorem pt_some {α : Type} {a : α} {m : Mem} {Q : α → Mem → Prop} (h : Q a m) : Pt (some (a, m)) Q := fun _ _ e => by cases e; exact h
theorem pt_none {α : Type} {Q : α → Mem → Prop} : Pt (none : Option (α × Mem)) Q := fun _ _ e => by cases e
theorem pt_lt {α β : Type} {x : β} {f : β → Option (α × Mem)} {Q : α → Mem → Prop} (h : Pt (f x) Q) : Pt (lt x f) Q := h
theorem pt_ck {α : Type} {b : Bool} {k : Option (α × Mem)} {Q : α → Mem → Prop} (h : b = true → Pt k Q) : Pt (ckB b k) Q := fun a m' e => by
  obtain ⟨h1, h2⟩ := ckB_ex e
  exact h h1 a m' h2
theorem pt_ite {α : Type} {c : Prop} [inst : Decidable c] {x y : Option (α × Mem)} {Q : α → Mem → Prop} (h1 : c → Pt x Q) (h2 : ¬ c → Pt y Q) : Pt (if c then x else y) Q := by
  by_cases h : c
  · rw [if_pos h]; exact h1 h
  · rw [if_neg h]; exact h2 h
theorem pt_bnd {α β : Type} {o : Option (β × Mem)} {f : β → Mem → Option (α × Mem)} {P : β → Mem → Prop} {Q : α → Mem → Prop} (h1 : Pt o P) (h2 : ∀ a m, P a m → Pt (f a m) Q) : Pt (bnd o f) Q := fun a m' e => by
  obtain ⟨v, m, e1, e2⟩ := bnd_ex e
  exact h2 v m (h1 v m e1) a m' e2
/-- the world's own part stays, and the steps can be counted -/
def PD (m0 m : Mem) : Prop := (∀ j, j < 1135 → gI m 79 j = gI m0 79 j) ∧ ∃ s : Nat, s ≤ 400 ∧ gI m 78 15 = iI s
theorem PD.fr {m0 m m' : Mem} (h : PD m0 m) (f : Fr [] [(78, 9), (78, 11)] m m') : PD m0 m' := ⟨fun j hj => (f.gI (by simp) (by simp)).trans (h.1 j hj), by
  obtain ⟨s, s4, hs⟩ := h.2
  exact ⟨s, s4, (f.gI (by simp) (by simp)).trans hs⟩⟩
theorem PD.s12 {m0 m : Mem} {v : Int32} (h : PD m0 m) : PD m0 (sI m 78 12 v) := ⟨fun j hj => by rw [gI_sI, if_neg (fun q => absurd q.1 (by decide))]; exact h.1 j hj, by
  obtain ⟨s, s4, hs⟩ := h.2
  exact ⟨s, s4, by rw [gI_sI, if_neg (fun q => absurd q.2 (by decide))]; exact hs⟩⟩
theorem PD.s9 {m0 m : Mem} {v : Int32} (h : PD m0 m) : PD m0 (sI m 78 9 v) := ⟨fun j hj => by rw [gI_sI, if_neg (fun q => absurd q.1 (by decide))]; exact h.1 j hj, by
  obtain ⟨s, s4, hs⟩ := h.2
  exact ⟨s, s4, by rw [gI_sI, if_neg (fun q => absurd q.2 (by decide))]; exact hs⟩⟩
theorem PD.sw {m0 m : Mem} {j : Nat} {v : Int32} (h : PD m0 m) (hj : 1135 ≤ j) : PD m0 (sI m 79 j v) := ⟨fun i hi => by rw [gI_sI, if_neg (fun q => by have := q.2; omega)]; exact h.1 i hi, by
  obtain ⟨s, s4, hs⟩ := h.2
  exact ⟨s, s4, by rw [gI_sI, if_neg (fun q => absurd q.1 (by decide))]; exact hs⟩⟩
theorem pd_emits {m0 m : Mem} (x y : Int32) (h : PD m0 m) : Pt (F_M_emits x y m) (fun _ => PD m0) := by
  obtain ⟨h1, s, s4, hs⟩ := h
  intro a m' e
  have hlt : s < 400 := by
    by_cases q : s < 400
    · exact q
    · exfalso
      have e4 : s = 400 := by omega
      subst e4
      unfold F_M_emits at e
      rw [hs] at e
      exact absurd (ckB_ex e).1 (by decide)
  have e2 : F_M_emits x y m = some ((), sI (sI (sI m 79 (1172 + 2 * s) x) 79 (1172 + 2 * s + 1) y) 78 15 (iI (s + 1 : Nat))) := by
    unfold F_M_emits
    have e1 : gI (sI m 79 (1172 + 2 * s) x) 78 15 = iI s := by rw [gI_sI, if_neg (fun q => absurd q.1 (by decide))]; exact hs
    have e2 : gI (sI (sI m 79 (1172 + 2 * s) x) 79 (1172 + 2 * s + 1) y) 78 15 = iI s := by rw [gI_sI, if_neg (fun q => absurd q.1 (by decide))]; exact e1
    rw [hs, show (1172 : Int32) = iI 1172 from rfl, show (2 : Int32) = iI 2 from rfl, iI_mul, iI_add, ckB_t (iI_inb (by omega) (by omega) (by omega)), lt_def, iI_idx (by omega) (by omega), show ((1172 : Int) + 2 * (s : Int)).toNat = 1172 + 2 * s by omega, e1, iI_mul, iI_add, lt_def, lt1, iI_add, ckB_t (iI_inb (by omega) (by omega) (by omega)), lt_def, iI_idx (by omega) (by omega), show ((1172 : Int) + 2 * (s : Int) + 1).toNat = 1172 + 2 * s + 1 by omega, e2, lt_def, iI_add]
    rfl
  rw [e2] at e
  cases e
  refine ⟨fun j hj => ?_, s + 1, by omega, by rw [gI_sI, if_pos ⟨rfl, rfl⟩]⟩
  rw [gI_sI, if_neg (fun q => absurd q.1 (by decide)), gI_sI, if_neg (fun q => by have := q.2; omega), gI_sI, if_neg (fun q => by have := q.2; omega)]
  exact h1 j hj
theorem Fr_bl {A : List Nat} {L : List (Nat × Nat)} {m m' : Mem} (h : Fr A L m m') (ha : ∀ a ∈ A, a ∈ ([] : List Nat)) (hl : ∀ a ∈ L, a ∈ [(78, 9), (78, 11)]) : Fr [] [(78, 9), (78, 11)] m m' := Fr_wk h ha hl
theorem pd_letters {m0 m : Mem} (h : PD m0 m) : Pt (F_M_letters m) (fun _ => PD m0) := fun _ _ e => h.fr (Fr_bl (fr_M_letters _ _ _ e) (by simp) (by simp))
theorem pd_blanks {m0 m : Mem} (h : PD m0 m) : Pt (F_M_blanks m) (fun _ => PD m0) := fun _ _ e => h.fr (Fr_bl (fr_M_blanks _ _ _ e) (by simp) (by simp))
theorem pd_isWord {m0 m : Mem} (tx : String) (h : PD m0 m) : Pt (F_M_isWord tx m) (fun _ => PD m0) := fun _ _ e => h.fr (Fr_bl (fr_M_isWord _ _ _ _ e) (by simp) (by simp))
theorem pd_isAt {m0 m : Mem} (x y : Int32) (h : PD m0 m) : Pt (F_M_isAt x y m) (fun _ => PD m0) := fun _ _ e => h.fr (Fr_bl (fr_M_isAt _ _ _ _ _ e) (by simp) (by simp))
theorem pd_number {m0 m : Mem} (x y : Int32) (h : PD m0 m) : Pt (F_M_number x y m) (fun _ => PD m0) := fun _ _ e => h.fr (Fr_bl (fr_M_number _ _ _ _ _ e) (by simp) (by simp))
theorem pd_sign {m0 m : Mem} (x : Int32) (h : PD m0 m) : Pt (F_M_sign x m) (fun _ => PD m0) := fun _ _ e => h.fr (Fr_bl (fr_M_sign _ _ _ _ e) (by simp) (by simp))
theorem pd_passes {m0 m : Mem} (tx : String) (h : PD m0 m) : Pt (F_M_passes tx m) (fun _ => PD m0) := fun _ _ e => h.fr (Fr_bl (fr_M_passes _ _ _ _ e) (by simp) (by simp))
theorem pd_part {m0 m : Mem} (h : PD m0 m) : Pt (F_M_readPart m) (fun _ => PD m0) := by
  unfold F_M_readPart
  repeat' (first
    | (with_reducible refine pt_some ?_)
    | (with_reducible refine pt_lt ?_)
    | (with_reducible refine pt_ck (fun _ => ?_))
    | (with_reducible refine pt_ite (fun _ => ?_) (fun _ => ?_))
    | (with_reducible refine pt_bnd (P := fun _ => PD m0) ?_ (fun _ _ _ => ?_))
    | (with_reducible refine pd_emits _ _ ?_)
    | (with_reducible refine pd_isWord _ ?_)
    | (with_reducible refine pd_number _ _ ?_)
    | (with_reducible refine pd_sign _ ?_)
    | (with_reducible refine pd_passes _ ?_)
    | (with_reducible refine pd_letters ?_)
    | (with_reducible refine pd_blanks ?_)
    | (with_reducible assumption)
    | (with_reducible refine PD.s12 ?_)
    | (with_reducible refine PD.sw ?_ (by omega))
    | (dsimp only))
theorem pd_sumL {m0 : Mem} : ∀ (nf : Nat) (m : Mem), PD m0 m → Pt (F_M_readSum_L9 nf m) (fun _ => PD m0) := by
  intro nf
  induction nf with
  | zero => intro m _; exact pt_none
  | succ nf ih =>
    intro m h
    rw [F_M_readSum_L9]
    repeat' (first
      | (with_reducible refine pt_some ?_)
      | (with_reducible refine pt_lt ?_)
      | (with_reducible refine pt_ck (fun _ => ?_))
      | (with_reducible refine pt_ite (fun _ => ?_) (fun _ => ?_))
      | (with_reducible refine pt_bnd (P := fun _ => PD m0) ?_ (fun _ _ _ => ?_))
      | (with_reducible refine pd_emits _ _ ?_)
      | (with_reducible refine pd_isWord _ ?_)
      | (with_reducible refine pd_number _ _ ?_)
      | (with_reducible refine pd_sign _ ?_)
      | (with_reducible refine pd_passes _ ?_)
      | (with_reducible refine pd_letters ?_)
      | (with_reducible refine pd_blanks ?_)
      | (with_reducible refine pd_part ?_)
      | (with_reducible refine ih _ ?_)
      | (with_reducible assumption)
      | (with_reducible refine PD.s12 ?_)
      | (with_reducible refine PD.sw ?_ (by omega))
      | (dsimp only))
theorem pd_sum {m0 m : Mem} (h : PD m0 m) : Pt (F_M_readSum m) (fun _ => PD m0) := by
  unfold F_M_readSum
  repeat' (first
    | (with_reducible refine pt_some ?_)
    | (with_reducible refine pt_lt ?_)
    | (with_reducible refine pt_ck (fun _ => ?_))
    | (with_reducible refine pt_ite (fun _ => ?_) (fun _ => ?_))
    | (with_reducible refine pt_bnd (P := fun _ => PD m0) ?_ (fun _ _ _ => ?_))
    | (with_reducible refine pd_emits _ _ ?_)
    | (with_reducible refine pd_isWord _ ?_)
    | (with_reducible refine pd_number _ _ ?_)
    | (with_reducible refine pd_sign _ ?_)
    | (with_reducible refine pd_passes _ ?_)
    | (with_reducible refine pd_letters ?_)
    | (with_reducible refine pd_blanks ?_)
    | (with_reducible refine pd_part ?_)
    | (with_reducible refine pd_sumL _ _ ?_)
    | (with_reducible assumption)
    | (with_reducible refine PD.s12 ?_)
    | (with_reducible refine PD.sw ?_ (by omega))
    | (dsimp only))
abbrev PDC (rc : Mem → Option (Bool × Mem)) : Prop := ∀ m0 m, PD m0 m → Pt (rc m) (fun _ => PD m0)
theorem pd_allL {rc : Mem → Option (Bool × Mem)} (hr : PDC rc) {m0 : Mem} : ∀ (nf : Nat) (m : Mem), PD m0 m → Pt (F_M_readAllOf_L9 rc nf m) (fun _ => PD m0) := by
  intro nf
  induction nf with
  | zero => intro m _; exact pt_none
  | succ nf ih =>
    intro m h
    rw [F_M_readAllOf_L9]
    repeat' (first
      | (with_reducible refine pt_some ?_)
      | (with_reducible refine pt_lt ?_)
      | (with_reducible refine pt_ck (fun _ => ?_))
      | (with_reducible refine pt_ite (fun _ => ?_) (fun _ => ?_))
      | (with_reducible refine pt_bnd (P := fun _ => PD m0) ?_ (fun _ _ _ => ?_))
      | (with_reducible refine pd_emits _ _ ?_)
      | (with_reducible refine pd_isWord _ ?_)
      | (with_reducible refine pd_number _ _ ?_)
      | (with_reducible refine pd_sign _ ?_)
      | (with_reducible refine pd_passes _ ?_)
      | (with_reducible refine pd_letters ?_)
      | (with_reducible refine pd_blanks ?_)
      | (with_reducible refine hr _ _ ?_)
      | (with_reducible refine ih _ ?_)
      | (with_reducible assumption)
      | (with_reducible refine PD.s12 ?_)
      | (with_reducible refine PD.sw ?_ (by omega))
      | (dsimp only))
theorem pd_all {rc : Mem → Option (Bool × Mem)} (hr : PDC rc) : PDC (F_M_readAllOf rc) := by
  intro m0 m h
  unfold F_M_readAllOf
  repeat' (first
    | (with_reducible refine pt_some ?_)
    | (with_reducible refine pt_lt ?_)
    | (with_reducible refine pt_ck (fun _ => ?_))
    | (with_reducible refine pt_ite (fun _ => ?_) (fun _ => ?_))
    | (with_reducible refine pt_bnd (P := fun _ => PD m0) ?_ (fun _ _ _ => ?_))
    | (with_reducible refine pd_emits _ _ ?_)
    | (with_reducible refine pd_isWord _ ?_)
    | (with_reducible refine pd_number _ _ ?_)
    | (with_reducible refine pd_sign _ ?_)
    | (with_reducible refine pd_passes _ ?_)
    | (with_reducible refine pd_letters ?_)
    | (with_reducible refine pd_blanks ?_)
    | (with_reducible refine hr _ _ ?_)
    | (with_reducible refine pd_allL hr _ _ ?_)
    | (with_reducible assumption)
    | (with_reducible refine PD.s12 ?_)
    | (with_reducible refine PD.sw ?_ (by omega))
    | (dsimp only))
theorem pd_condL {rc : Mem → Option (Bool × Mem)} (hr : PDC rc) {m0 : Mem} : ∀ (nf : Nat) (m : Mem), PD m0 m → Pt (F_M_readCond_L9 rc nf m) (fun _ => PD m0) := by
  intro nf
  induction nf with
  | zero => intro m _; exact pt_none
  | succ nf ih =>
    intro m h
    rw [F_M_readCond_L9]
    repeat' (first
      | (with_reducible refine pt_some ?_)
      | (with_reducible refine pt_lt ?_)
      | (with_reducible refine pt_ck (fun _ => ?_))
      | (with_reducible refine pt_ite (fun _ => ?_) (fun _ => ?_))
      | (with_reducible refine pt_bnd (P := fun _ => PD m0) ?_ (fun _ _ _ => ?_))
      | (with_reducible refine pd_emits _ _ ?_)
      | (with_reducible refine pd_isWord _ ?_)
      | (with_reducible refine pd_number _ _ ?_)
      | (with_reducible refine pd_sign _ ?_)
      | (with_reducible refine pd_passes _ ?_)
      | (with_reducible refine pd_letters ?_)
      | (with_reducible refine pd_blanks ?_)
      | (with_reducible refine pd_all hr _ _ ?_)
      | (with_reducible refine ih _ ?_)
      | (with_reducible assumption)
      | (with_reducible refine PD.s12 ?_)
      | (with_reducible refine PD.sw ?_ (by omega))
      | (dsimp only))
theorem pd_cond {rc : Mem → Option (Bool × Mem)} (hr : PDC rc) : PDC (F_M_readCond rc) := by
  intro m0 m h
  unfold F_M_readCond
  repeat' (first
    | (with_reducible refine pt_some ?_)
    | (with_reducible refine pt_lt ?_)
    | (with_reducible refine pt_ck (fun _ => ?_))
    | (with_reducible refine pt_ite (fun _ => ?_) (fun _ => ?_))
    | (with_reducible refine pt_bnd (P := fun _ => PD m0) ?_ (fun _ _ _ => ?_))
    | (with_reducible refine pd_emits _ _ ?_)
    | (with_reducible refine pd_isWord _ ?_)
    | (with_reducible refine pd_number _ _ ?_)
    | (with_reducible refine pd_sign _ ?_)
    | (with_reducible refine pd_passes _ ?_)
    | (with_reducible refine pd_letters ?_)
    | (with_reducible refine pd_blanks ?_)
    | (with_reducible refine pd_all hr _ _ ?_)
    | (with_reducible refine pd_condL hr _ _ ?_)
    | (with_reducible assumption)
    | (with_reducible refine PD.s12 ?_)
    | (with_reducible refine PD.sw ?_ (by omega))
    | (dsimp only))
theorem pd_atomb {rc : Mem → Option (Bool × Mem)} (hr : PDC rc) : PDC (F_M_readAtom_b rc) := by
  intro m0 m h
  unfold F_M_readAtom_b
  repeat' (first
    | (with_reducible refine pt_some ?_)
    | (with_reducible refine pt_lt ?_)
    | (with_reducible refine pt_ck (fun _ => ?_))
    | (with_reducible refine pt_ite (fun _ => ?_) (fun _ => ?_))
    | (with_reducible refine pt_bnd (P := fun _ => PD m0) ?_ (fun _ _ _ => ?_))
    | (with_reducible refine pd_emits _ _ ?_)
    | (with_reducible refine pd_isWord _ ?_)
    | (with_reducible refine pd_number _ _ ?_)
    | (with_reducible refine pd_sign _ ?_)
    | (with_reducible refine pd_passes _ ?_)
    | (with_reducible refine pd_letters ?_)
    | (with_reducible refine pd_blanks ?_)
    | (with_reducible refine pd_cond hr _ _ ?_)
    | (with_reducible refine pd_sum ?_)
    | (with_reducible refine hr _ _ ?_)
    | (with_reducible assumption)
    | (with_reducible refine PD.s12 ?_)
    | (with_reducible refine PD.sw ?_ (by omega))
    | (dsimp only))
theorem pd_atom : ∀ k, PDC (F_M_readAtom k) := by
  intro k
  induction k with
  | zero => intro m0 m _; exact pt_none
  | succ k ih => exact pd_atomb ih
theorem pd_lawline {m0 m : Mem} {n : Nat} (hn : n < 12) (h : PD m0 m) : Pt (F_M_readLawLine (iI n) m) (fun _ => PD m0) := by
  unfold F_M_readLawLine
  rw [show (1136 : Int32) = iI 1136 from rfl, show (3 : Int32) = iI 3 from rfl, iI_mul, iI_add, lt_def, lt1, lt2]
  rw [iI_add, iI_add, iI_idx (by omega) (by omega), iI_idx (by omega) (by omega), iI_idx (by omega) (by omega)]
  repeat' (first
    | (with_reducible refine pt_some ?_)
    | (with_reducible refine pt_lt ?_)
    | (with_reducible refine pt_ck (fun _ => ?_))
    | (with_reducible refine pt_ite (fun _ => ?_) (fun _ => ?_))
    | (with_reducible refine pt_bnd (P := fun _ => PD m0) ?_ (fun _ _ _ => ?_))
    | (with_reducible refine pd_emits _ _ ?_)
    | (with_reducible refine pd_isWord _ ?_)
    | (with_reducible refine pd_number _ _ ?_)
    | (with_reducible refine pd_sign _ ?_)
    | (with_reducible refine pd_passes _ ?_)
    | (with_reducible refine pd_letters ?_)
    | (with_reducible refine pd_blanks ?_)
    | (with_reducible refine pd_cond (pd_atom 8) _ _ ?_)
    | (with_reducible assumption)
    | (with_reducible refine PD.s12 ?_)
    | (with_reducible refine PD.sw ?_ (by omega))
    | (dsimp only))
theorem pd_line {m0 m : Mem} {n : Nat} (hn : n ≤ 12) (h : PD m0 m) : Pt (F_M_readLine false (iI n) m) (fun z m' => PD m0 m' ∧ (z = true → n < 12)) := by
  unfold F_M_readLine
  refine pt_bnd (pd_letters h) (fun _ m1 h1 => ?_)
  rw [lt_def, if_neg (by decide)]
  dsimp only
  by_cases q : n < 12
  · rw [if_neg (by rw [lt12, iI_le (by omega) (by omega) (by omega) (by omega)]; omega), if_neg (by decide)]
    refine pt_bnd (pd_lawline q h1) (fun z m2 h2 => ?_)
    exact pt_ite (fun _ => pt_some ⟨h2, fun _ => q⟩) (fun _ => pt_some ⟨h2, fun _ => q⟩)
  · rw [if_pos (by rw [lt12, iI_le (by omega) (by omega) (by omega) (by omega)]; omega)]
    exact pt_some ⟨h1, fun w => Bool.noConfusion w⟩
theorem pd_readL {m0 : Mem} (k54 : Int32 → Mem → Option (Int32 × Mem)) (hk : ∀ v m, PD m0 m → Pt (k54 v m) (fun _ => PD m0)) : ∀ (nf n : Nat) (m : Mem), n ≤ 12 → PD m0 m → Pt (F_M_readAll_L28 false k54 nf (iI n) m) (fun _ => PD m0) := by
  intro nf
  induction nf with
  | zero => intro n m _ _; exact pt_none
  | succ nf ih =>
    intro n m hn h
    rw [F_M_readAll_L28]
    refine pt_bnd (pd_line hn h) (fun z m1 h1 => ?_)
    refine pt_ite (fun hz => ?_) (fun _ => pt_some h1.1)
    refine pt_bnd (pd_blanks h1.1) (fun _ m2 h2 => ?_)
    refine pt_ite (fun _ => hk _ _ h2) (fun _ => ?_)
    refine pt_bnd (pd_isAt _ _ h2) (fun z m3 h3 => ?_)
    refine pt_ite (fun _ => ?_) (fun _ => pt_some h3)
    have := h1.2 hz
    rw [lt_def, lt_def, lt1, iI_add]
    exact ih (n + 1) _ (by omega) h3.s9
theorem pd_read (m : Mem) : Pt (F_M_readAll false m) (fun _ m' => ∀ j, j < 1135 → gI m' 79 j = gI m 79 j) := by
  obtain ⟨N, hN⟩ : ∃ N : Nat, N = 1000000 := ⟨_, rfl⟩
  unfold F_M_readAll
  rw [← hN]
  refine pt_bnd (P := fun _ m1 => ∀ j, j < 1135 → gI m1 79 j = gI m 79 j) (fun _ _ e j hj => (fr_M_uses _ _ _ e).gI (by simp) (by simp)) (fun _ m1 h1 => ?_)
  have h2 : PD m (sI m1 78 15 0) := ⟨fun j hj => by rw [gI_sI, if_neg (fun q => absurd q.1 (by decide))]; exact h1 j hj, 0, by omega, by rw [gI_sI, if_pos ⟨rfl, rfl⟩]; rfl⟩
  rw [lt_def]
  refine pt_bnd (pd_blanks h2) (fun _ m3 h3 => ?_)
  refine pt_ite (fun _ => pt_some h3.1) (fun _ => ?_)
  rw [lt_def]
  intro a m' e
  exact (pd_readL _ (fun v m4 h4 => pt_some h4) N 0 m3 (by omega) h3 a m' e).1
/-! a line of the law -/
theorem TF.num {b : Nat → Int} {T K : Nat} {B E : Nat → Nat} (h : TF b T K B E) {j : Nat} (hj : j ≤ K) {lo hi : Int} (hn : nok b T (B j) lo hi = true) : j < K ∧ E j = dig b T (B j) := by
  have h1 := (nok_e.1 hn).1
  have hD : isD (b (B j)) = true := by
    by_cases q : isD (b (B j)) = true
    · exact q
    · have : dig b T (B j) = B j := sc_f q
      omega
  have hlt : B j < T := by
    by_cases q : B j < T
    · exact q
    · have : dig b T (B j) = B j := sc_T (by omega)
      omega
  have hk : j < K := by
    by_cases q : j < K
    · exact q
    · have e : j = K := by omega
      rw [e, h.bK] at hlt
      omega
  refine ⟨hk, ?_⟩
  rw [h.en j hk]
  unfold tnd
  rw [if_neg (fun w => by have := isW_e.1 w; have := isD_e.1 hD; omega), if_pos hD]
theorem LinesAt_cgr {m m' : Mem} {o off : Nat} : ∀ {law : List (Int × List Int)} {k st : Nat}, (∀ j, 1 ≤ j → j < 1 + 3 * (k + law.length) → gI m' o (off + j) = gI m o (off + j)) → (∀ j, 37 ≤ j → j < 37 + 2 * (st + stepsL law) → gI m' o (off + j) = gI m o (off + j)) → LinesAt m o off k st law → LinesAt m' o off k st law
  | [], _, _, _, _, _ => trivial
  | x :: r, k, st, h1, h2, hr => by
    simp only [List.length_cons] at h1
    simp only [stepsL] at h2
    obtain ⟨g1, g2, g3, g4, g5⟩ := hr
    refine ⟨?_, ?_, ?_, MRow_cg (N := 2 * (st + x.2.length)) (fun j hj => ?_) (by omega) g4, LinesAt_cgr (fun j a c => h1 j a (by omega)) (fun j a c => h2 j a (by omega)) g5⟩
    · rw [Nat.add_assoc, h1 _ (by omega) (by omega), ← Nat.add_assoc]; exact g1
    · rw [Nat.add_assoc, h1 _ (by omega) (by omega), ← Nat.add_assoc]; exact g2
    · rw [Nat.add_assoc, h1 _ (by omega) (by omega), ← Nat.add_assoc]; exact g3
    · rw [Nat.add_assoc, h2 _ (by omega) (by omega)]
theorem LinesAt_app {m : Mem} {o off : Nat} {x : Int × List Int} : ∀ {law : List (Int × List Int)} {k st : Nat}, LinesAt m o off k st law → LinesAt m o off (k + law.length) (st + stepsL law) [x] → LinesAt m o off k st (law ++ [x])
  | [], k, st, _, h => by simpa [stepsL] using h
  | y :: r, k, st, hr, h => by
    obtain ⟨g1, g2, g3, g4, g5⟩ := hr
    refine ⟨g1, g2, g3, g4, LinesAt_app g5 ?_⟩
    simp only [List.length_cons, stepsL] at h
    rw [show k + 1 + r.length = k + (r.length + 1) by omega, show st + y.2.length + stepsL r = st + (y.2.length + stepsL r) by omega]
    exact h
theorem stepsL_app (x : Int × List Int) : ∀ law : List (Int × List Int), stepsL (law ++ [x]) = stepsL law + x.2.length
  | [] => by simp [stepsL]
  | y :: r => by
    simp only [List.cons_append, stepsL]
    rw [stepsL_app x r]
    omega
theorem codeL_app (x : Int × List Int) : ∀ law : List (Int × List Int), codeL (law ++ [x]) = codeL law ++ ((if x.2 = [] then [1] else x.2) ++ [2000 + x.1])
  | [] => by simp [codeL]
  | y :: r => by
    simp only [List.cons_append, codeL]
    rw [codeL_app x r]
    simp
def okLs (law : List (Int × List Int)) : Prop := ∀ x ∈ law, 0 ≤ x.1 ∧ x.1 ≤ 9 ∧ (x.2 = [] ∨ okT x.2 [])
theorem okLs_app {law : List (Int × List Int)} {x : Int × List Int} (h : okLs law) (hx : 0 ≤ x.1 ∧ x.1 ≤ 9 ∧ (x.2 = [] ∨ okT x.2 [])) : okLs (law ++ [x]) := by
  intro y hy
  rcases List.mem_append.1 hy with h1 | h1
  · exact h y h1
  · rw [List.mem_singleton] at h1
    rw [h1]
    exact hx
def RB (m : Mem) (b : Nat → Int) (T q c st : Nat) : Prop := (∃ p, c ≤ p ∧ blk b T p = q ∧ RSc m b T p) ∧ gI m 78 15 = iI st
/-- n lines of a law have come, in class and reference -/
def IL (b : Nat → Int) (T K n k : Nat) (mC mR : Mem) : Prop := ∃ (law : List (Int × List Int)) (c : Nat), law.length = n ∧ okLs law ∧ CA mC b T K (Bq b T) (Eq1 b T) k (codeL law).length ∧ RB mR b T (Bq b T k) c (stepsL law) ∧ (codeL law).length ≤ c ∧ stepsL law ≤ c ∧ RowIs mC 58 0 (codeL law) ∧ LinesAt mR 79 1135 0 0 law
/-- what the class does behind a line's number -/
def LC1 (xq6 : Int32) (mq4 : Mem) : Option (Unit × Mem) := bnd (F_Tx_takesWordL ("if") mq4) fun zq9 mq7 => lt (fun (mq10 : Mem) => ((bnd (F_Lw_add ((2000 : Int32) + xq6) mq10) fun _ mq11 => some ((), mq11)) : Option (Unit × Mem))) fun k39_10 => if zq9 = true then (bnd (F_LT_readAny (F_LT_readAtom 8) (0 : Int32) mq7) fun _ mq17 => k39_10 mq17) else (bnd (F_Lw_add (1 : Int32) mq7) fun _ mq14 => k39_10 mq14)
theorem LC1_d {m : Mem} {f : Nat} (hd : DDL m f) (x : Int32) : ∃ m', LC1 x m = some ((), m') ∧ DDL m' f := by
  obtain ⟨m1, e1, h1⟩ := Ladd_d hd (1 : Int32)
  obtain ⟨m2, e2, h2⟩ := Ladd_d h1 ((2000 : Int32) + x)
  refine ⟨m2, ?_, h2⟩
  unfold LC1
  rw [bnd_some (takesWordL_d hd _), lt_def, if_neg (by decide), bnd_some e1]
  dsimp only
  rw [bnd_some e2]
theorem IL_snoc {b : Nat → Int} {T K n k k' c' : Nat} {law : List (Int × List Int)} {mC mR mC' mR' : Mem} {v : Int} {cs : List Int} (h1 : law.length = n) (hn : n < 12) (h2 : okLs law) (v0 : 0 ≤ v) (v9 : v ≤ 9) (hcs : cs = [] ∨ okT cs []) (hrow : RowIs mC 58 0 (codeL law)) (hlin : LinesAt mR 79 1135 0 0 law) (hk : k < k')
    (hC : CA mC' b T K (Bq b T) (Eq1 b T) k' ((codeL law).length + ((if cs = [] then [1] else cs) ++ [2000 + v]).length)) (hR : RB mR' b T (Bq b T k') c' (stepsL law + cs.length)) (c1 : (codeL law).length + ((if cs = [] then [1] else cs) ++ [2000 + v]).length ≤ c') (c2 : stepsL law + cs.length ≤ c')
    (e58 : ∀ j, j < (codeL law).length → gI mC' 58 j = gI mC 58 j) (hr : RowIs mC' 58 (codeL law).length ((if cs = [] then [1] else cs) ++ [2000 + v])) (e79 : ∀ j, j < 1172 + 2 * stepsL law → j ≠ 1136 + 3 * n → j ≠ 1137 + 3 * n → j ≠ 1138 + 3 * n → gI mR' 79 j = gI mR 79 j)
    (w1 : gI mR' 79 (1136 + 3 * n) = iI v) (w2 : gI mR' 79 (1137 + 3 * n) = iI (stepsL law)) (w3 : gI mR' 79 (1138 + 3 * n) = iI (stepsL law + cs.length : Nat)) (w4 : MRow mR' 79 1172 (stepsL law) cs) : ∃ k', k < k' ∧ IL b T K (n + 1) k' mC' mR' := by
  refine ⟨k', hk, law ++ [(v, cs)], c', by simp [h1], okLs_app h2 ⟨v0, v9, hcs⟩, ?_, ?_, ?_, ?_, ?_, ?_⟩
  · rw [codeL_app, List.length_append]; exact hC
  · rw [stepsL_app]; exact hR
  · rw [codeL_app, List.length_append]; exact c1
  · rw [stepsL_app]; exact c2
  · rw [codeL_app]
    refine RowIs_app.2 ⟨RowIs_cg (fun j hj => by rw [Nat.zero_add]; exact e58 j hj) hrow, ?_⟩
    rw [Nat.zero_add]
    exact hr
  · refine LinesAt_app (LinesAt_cgr (fun j a c => ?_) (fun j a c => ?_) hlin) ?_
    · rw [h1] at c
      exact e79 _ (by omega) (by omega) (by omega) (by omega)
    · exact e79 _ (by omega) (by omega) (by omega) (by omega)
    · rw [h1, Nat.zero_add, Nat.zero_add]
      refine ⟨?_, ?_, ?_, w4, trivial⟩
      · rw [show 1135 + 1 + 3 * n = 1136 + 3 * n by omega]; exact w1
      · rw [show 1135 + 2 + 3 * n = 1137 + 3 * n by omega]; exact w2
      · rw [show 1135 + 3 + 3 * n = 1138 + 3 * n by omega]; exact w3
theorem lawline_ok {b : Nat → Int} {T K n k : Nat} {mC mR : Mem} (hn : n < 12) (h : IL b T K n k mC mR) : ∃ ok mC' mR', F_LT_readLine mC = some ((), mC') ∧ F_M_readLine false (iI n) mR = some (ok, mR') ∧ ((ok = true ∧ ∃ k', k < k' ∧ IL b T K (n + 1) k' mC' mR') ∨ (ok = false ∧ ∃ f, DDL mC' f ∧ gI mR' 78 11 = iI f)) := by
  obtain ⟨law, c, hlen, hok, hC, ⟨⟨p, p1, p2, p3⟩, p4⟩, hsc, hstc, hrow, hlin⟩ := h
  have tf := hC.1.tf
  have kK := hC.1.kK
  have kT := tf.kT
  have t4 := tf.t4
  obtain ⟨B, hB⟩ : ∃ B, B = Bq b T := ⟨_, rfl⟩
  obtain ⟨E, hE⟩ : ∃ E, E = Eq1 b T := ⟨_, rfl⟩
  rw [← hB, ← hE] at hC tf
  rw [← hB] at p2
  obtain ⟨m1, e1, r1, g1, f1⟩ := Mletters_ok p3
  rw [p2] at r1 g1
  have hge : B k ≤ wrd b T (B k) := sc_ge _ _ _ _
  have e2 := MisWord_eq r1 g1 hge (fun i a d => wrd_le127 a d) (tx := "hard") (by decide)
  have hmt := mustTakeL_eq hC.1 (tx := "hard") (by decide) (by decide)
  have eR : ∀ z m', F_M_readLawLine (iI n) m1 = some (z, m') → F_M_readLine false (iI n) mR = some (z, m') := by
    intro z m' e
    unfold F_M_readLine
    rw [bnd_some e1, lt_def, if_neg (by decide)]
    dsimp only
    rw [if_neg (by rw [lt12, iI_le (by omega) (by omega) (by omega) (by omega)]; omega), if_neg (by decide), bnd_some e]
    cases z with
    | true => rw [if_pos rfl]
    | false => rw [if_neg (by decide)]
  have eC : ∀ x m2 m3, F_Tx_mustTakeL "hard" mC = some ((), m2) → F_Tx_numberL (iI 0) (iI 9) m2 = some (x, m3) → F_LT_readLine mC = LC1 x m3 := by
    intro x m2 m3 a1 a2
    unfold F_LT_readLine
    rw [bnd_some a1, show (0 : Int32) = iI 0 from rfl, show (9 : Int32) = iI 9 from rfl, bnd_some a2]
    rfl
  by_cases hw : wm b (B k) (wrd b T (B k)) "hard" = true
  · obtain ⟨hk, hW, hEk⟩ := tf.word kK (by decide) hw
    have hl4 : "hard".length = 4 := by decide
    have h4 : wrd b T (B k) = B k + 4 := by
      have := (of_decide_eq_true hw).1
      rw [hl4] at this
      exact this
    rw [hw] at e2
    rw [if_pos hw] at hmt
    have hC1 := hC.nxt hk
    have hpB : p ≤ B k := by rw [← p2]; exact sc_ge isB b T p
    have hB1 : blk b T (E k) = B (k + 1) := (tf.nx k hk).symm
    rw [← hEk] at r1 h4
    have hBE : E k ≤ B (k + 1) := by rw [← hB1]; exact sc_ge isB b T _
    obtain ⟨m2, e3, r3, g3, f3⟩ := Mnumber_ok r1 (lo := 0) (hi := 9) (by omega) (by omega) (by omega)
    rw [hB1] at e3 r3 g3
    have hnum := numberL_eq hC1.1 (lo := 0) (hi := 9) (by omega) (by omega) (by omega)
    have f13 : Fr [] [(78, 9), (78, 11)] mR m2 := Fr_tr f1 f3 (by simp) (by simp)
    have hx1 : (1136 : Int32) + (3 : Int32) * iI n = iI (1136 + 3 * n : Nat) := by
      rw [show (1136 : Int32) = iI 1136 from rfl, show (3 : Int32) = iI 3 from rfl, iI_mul, iI_add]
      rfl
    by_cases hno : nok b T (B (k + 1)) 0 9 = true
    · rw [if_pos hno] at e3 hnum
      obtain ⟨n1, n2, n3, n4⟩ := nok_e.1 hno
      obtain ⟨hk1, hE1⟩ := tf.num (j := k + 1) hk hno
      obtain ⟨v, hv⟩ : ∃ v, v = nvq b T (B (k + 1)) := ⟨_, rfl⟩
      rw [← hv] at e3 hnum n3 n4
      rw [← hE1] at r3 n1
      have hC2 := hC1.nxt hk1
      obtain ⟨m3, hm3⟩ : ∃ x, x = sI m2 79 (1136 + 3 * n) (iI v) := ⟨_, rfl⟩
      obtain ⟨m4, hm4⟩ : ∃ x, x = sI m3 79 (1137 + 3 * n) (iI (stepsL law)) := ⟨_, rfl⟩
      obtain ⟨m5, hm5⟩ : ∃ x, x = sI m4 78 12 (iI 0) := ⟨_, rfl⟩
      have s3 : gI m3 78 15 = iI (stepsL law) := by
        rw [hm3, gI_sI, if_neg (fun q => absurd q.1 (by decide)), f13.gI (by simp) (by simp)]
        exact p4
      have k2 : ∀ o j, o ≠ 79 → (o = 78 → j ≠ 12) → gI m5 o j = gI m2 o j := by
        intro o j a1 a2
        rw [hm5, gI_sI, if_neg (fun q => a2 q.1 q.2), hm4, gI_sI, if_neg (fun q => a1 q.1), hm3, gI_sI, if_neg (fun q => a1 q.1)]
      have k3 : ∀ j, j ≠ 1136 + 3 * n → j ≠ 1137 + 3 * n → gI m5 79 j = gI mR 79 j := by
        intro j a1 a2
        rw [hm5, gI_sI, if_neg (fun q => absurd q.1 (by decide)), hm4, gI_sI, if_neg (fun q => a2 q.2), hm3, gI_sI, if_neg (fun q => a1 q.2), f13.gI (by simp) (by simp)]
      have k4 : gI m5 79 (1136 + 3 * n) = iI v := by
        rw [hm5, gI_sI, if_neg (fun q => absurd q.1 (by decide)), hm4, gI_sI, if_neg (fun q => by have := q.2; omega), hm3, gI_sI, if_pos ⟨rfl, rfl⟩]
      have k5 : gI m5 79 (1137 + 3 * n) = iI (stepsL law) := by
        rw [hm5, gI_sI, if_neg (fun q => absurd q.1 (by decide)), hm4, gI_sI, if_pos ⟨rfl, rfl⟩]
      have hR5 : RA m5 b T (B (k + 1 + 1)) (c + 5) (stepsL law) 0 := by
        refine ⟨⟨E (k + 1), by omega, (tf.nx (k + 1) hk1).symm, r3.cg (fun j => k2 83 j (by decide) (fun q => absurd q (by decide))) (k2 78 10 (by decide) (by decide)) (k2 78 9 (by decide) (by decide))⟩, ?_, by rw [hm5]; rfl⟩
        rw [k2 78 15 (by decide) (by decide), f13.gI (by simp) (by simp)]
        exact p4
      have c400 := hR5.c4
      obtain ⟨m6, e6, q1, q2, q3, q4⟩ := Rpass hR5 tf hk1 (tx := "if") (by decide) (by decide)
      -- the reference, as far as the word if
      have eR2 : ∀ R, (lt (fun (mq18 : Mem) => ((ckB (inb (iI (1136 + 3 * n : Nat) + (2 : Int32)) 1972) <| lt (sI mq18 79 (iI (1136 + 3 * n : Nat) + (2 : Int32)).toNatClampNeg (gI mq18 78 15)) fun mq19 => some (true, mq19)) : Option (Bool × Mem))) fun k78_18 => if wm b (B (k + 1 + 1)) (wrd b T (B (k + 1 + 1))) "if" = true then (bnd (F_M_readCond (F_M_readAtom 8) m6) fun zq23 mq21 => if zq23 = true then (k78_18 mq21) else (some (false, mq21))) else (k78_18 m6)) = R → F_M_readLawLine (iI n) m1 = R := by
        intro R hR
        unfold F_M_readLawLine
        rw [hx1, lt_def, bnd_some e2, if_pos rfl, show (0 : Int32) = iI 0 from rfl, show (9 : Int32) = iI 9 from rfl, bnd_some e3, ckB_t (iI_inb (by omega) (by omega) (by omega)), lt_def, ckB_t (iI_inb (by omega) (by omega) (by omega)), lt_def, iI_idx (by omega) (by omega), Int.toNat_natCast, ← hm3]
        rw [show gI m3 79 (1136 + 3 * n) = iI v by rw [hm3, gI_sI, if_pos ⟨rfl, rfl⟩], if_pos (by rw [iI_le (by omega) (by omega) (by omega) (by omega)]; omega)]
        rw [show iI ((1136 + 3 * n : Nat) : Int) + (1 : Int32) = iI (1137 + 3 * n : Nat) by rw [lt1, iI_add]; congr 1; omega, ckB_t (iI_inb (by omega) (by omega) (by omega)), lt_def, iI_idx (by omega) (by omega), Int.toNat_natCast, s3, ← hm4, lt_def, ← hm5, bnd_some e6]
        exact hR
      have hx3 : iI ((1136 + 3 * n : Nat) : Int) + (2 : Int32) = iI (1138 + 3 * n : Nat) := by rw [lt2, iI_add]; congr 1; omega
      have eC2 := eC (iI v) _ _ hmt hnum
      have e2000 : (2000 : Int32) + iI v = iI (2000 + v) := by rw [show (2000 : Int32) = iI 2000 from rfl, iI_add]
      by_cases hif : wm b (B (k + 1 + 1)) (wrd b T (B (k + 1 + 1))) "if" = true
      · obtain ⟨hk2, hR6⟩ := q1 hif
        have hC3 := hC2.nxt hk2
        obtain ⟨ok, mC3, mR3, y1, y2, y3⟩ := cond_ok b T K B E (k + 1 + 1 + 1) (codeL law).length (c + 5 + 1) (stepsL law) _ m6 hC3 hR6 (by omega) (by omega)
        rw [show iI ((0 : Nat) : Int) = (0 : Int32) from rfl] at y1
        rcases y3 with ⟨rfl, k', cs, ⟨z1, z2, z3, z4, z5, z6, z7⟩, hty, hne⟩ | ⟨rfl, f, z1, z2⟩
        · have hT := hty [] [] (by simp) rfl
          rw [List.append_nil] at hT
          have c401 := z3.c4
          obtain ⟨mC4, a1, a2, a3, a4⟩ := Ladd_ok z2 (by omega) (2000 + v)
          obtain ⟨mR4, hm⟩ : ∃ x, x = sI mR3 79 (1138 + 3 * n) (iI (stepsL law + cs.length : Nat)) := ⟨_, rfl⟩
          refine ⟨true, mC4, mR4, ?_, eR _ _ (eR2 _ ?_), Or.inl ⟨rfl, ?_⟩⟩
          · rw [eC2]
            unfold LC1
            rw [bnd_some (tW_t hC2.1 (by decide) (by decide) hif), lt_def, if_pos rfl, bnd_some y1]
            dsimp only
            rw [e2000, bnd_some a1]
          · rw [lt_def, if_pos hif, bnd_some y2, if_pos rfl]
            dsimp only
            rw [hx3, ckB_t (iI_inb (by omega) (by omega) (by omega)), lt_def, iI_idx (by omega) (by omega), Int.toNat_natCast, z3.2.1, hm]
          · have hcs : (if cs = [] then [1] else cs) = cs := if_neg hne
            have kR : ∀ o j, o ≠ 79 → gI mR4 o j = gI mR3 o j := fun o j a => by rw [hm, gI_sI, if_neg (fun q => a q.1)]
            rw [hB] at z2 z3 a2
            rw [hE] at a2
            refine IL_snoc (c' := c + 5 + 1 + cs.length) (v := v) (cs := cs) hlen hn hok n3 n4 (Or.inr hT) hrow hlin (show k < k' by omega) ?_ ?_ ?_ ?_ ?_ ?_ ?_ ?_ ?_ ?_ ?_
            · rw [hcs, List.length_append, List.length_singleton, ← Nat.add_assoc]; exact a2
            · obtain ⟨⟨p', w1, w2, w3⟩, w4, w5⟩ := z3
              exact ⟨⟨p', w1, w2, w3.cg (fun j => kR _ _ (by decide)) (kR _ _ (by decide)) (kR _ _ (by decide))⟩, (kR _ _ (by decide)).trans w4⟩
            · rw [hcs, List.length_append, List.length_singleton]; omega
            · omega
            · intro j hj
              rw [a4 j (by omega), z5 j hj, k58, k58, k58]
            · rw [hcs]
              exact RowIs_app.2 ⟨RowIs_cg (fun j hj => a4 _ (by omega)) z4, a3, trivial⟩
            · intro j j1 j2 j3 j4
              rw [hm, gI_sI, if_neg (fun q => j4 q.2), z7 j j1, q4 j, k3 j j2 j3]
            · rw [hm, gI_sI, if_neg (fun q => by have := q.2; omega), z7 _ (by omega), q4, k4]
            · rw [hm, gI_sI, if_neg (fun q => by have := q.2; omega), z7 _ (by omega), q4, k5]
            · rw [hm, gI_sI, if_pos ⟨rfl, rfl⟩]
            · refine MRow_congr (fun j => ?_) z6
              rw [hm, gI_sI, if_neg (fun q => by have := q.2; omega)]
        · obtain ⟨mC4, a1, a2⟩ := Ladd_d z1 (iI (2000 + v))
          refine ⟨false, mC4, mR3, ?_, eR _ _ (eR2 _ ?_), Or.inr ⟨rfl, f, a2, z2⟩⟩
          · rw [eC2]
            unfold LC1
            rw [bnd_some (tW_t hC2.1 (by decide) (by decide) hif), lt_def, if_pos rfl, bnd_some y1]
            dsimp only
            rw [e2000, bnd_some a1]
          · rw [lt_def, if_pos hif, bnd_some y2, if_neg (by decide)]
      · have hif := wm_b hif
        have hR6 := q2 hif
        obtain ⟨mC3, a1, a2, a3, a4⟩ := Ladd_ok hC2 (by omega) 1
        obtain ⟨mC4, b1, b2, b3, b4⟩ := Ladd_ok a2 (by omega) (2000 + v)
        obtain ⟨mR4, hm⟩ : ∃ x, x = sI m6 79 (1138 + 3 * n) (iI (stepsL law : Nat)) := ⟨_, rfl⟩
        refine ⟨true, mC4, mR4, ?_, eR _ _ (eR2 _ ?_), Or.inl ⟨rfl, ?_⟩⟩
        · rw [eC2]
          unfold LC1
          rw [bnd_some (tW_f hC2.1 (by decide) (by decide) hif), lt_def, if_neg (by decide), show (1 : Int32) = iI 1 from rfl, bnd_some a1]
          dsimp only
          rw [e2000, bnd_some b1]
        · rw [lt_def, hif, if_neg (by decide)]
          dsimp only
          rw [hx3, ckB_t (iI_inb (by omega) (by omega) (by omega)), lt_def, iI_idx (by omega) (by omega), Int.toNat_natCast, hR6.2.1, hm]
        · have kR : ∀ o j, o ≠ 79 → gI mR4 o j = gI m6 o j := fun o j a => by rw [hm, gI_sI, if_neg (fun q => a q.1)]
          rw [hB] at hR6 b2
          rw [hE] at b2
          refine IL_snoc (c' := c + 5) (v := v) (cs := []) hlen hn hok n3 n4 (Or.inl rfl) hrow hlin (show k < k + 1 + 1 by omega) ?_ ?_ ?_ ?_ ?_ ?_ ?_ ?_ ?_ ?_ ?_
          · rw [if_pos rfl]
            exact b2
          · obtain ⟨⟨p', w1, w2, w3⟩, w4, w5⟩ := hR6
            exact ⟨⟨p', w1, w2, w3.cg (fun j => kR _ _ (by decide)) (kR _ _ (by decide)) (kR _ _ (by decide))⟩, (kR _ _ (by decide)).trans w4⟩
          · rw [if_pos rfl]
            show (codeL law).length + 2 ≤ c + 5
            omega
          · show stepsL law + 0 ≤ c + 5
            omega
          · intro j hj
            rw [b4 j (by omega), a4 j hj, k58, k58]
          · rw [if_pos rfl]
            exact ⟨(b4 _ (by omega)).trans a3, b3, trivial⟩
          · intro j j1 j2 j3 j4
            rw [hm, gI_sI, if_neg (fun q => j4 q.2), q4 j, k3 j j2 j3]
          · rw [hm, gI_sI, if_neg (fun q => by have := q.2; omega), q4, k4]
          · rw [hm, gI_sI, if_neg (fun q => by have := q.2; omega), q4, k5]
          · (rw [hm, gI_sI, if_pos ⟨rfl, rfl⟩]) <;> rfl
          · trivial
    · rw [if_neg hno] at e3 hnum
      obtain ⟨mC3, a1, a2⟩ := LC1_d (ddL_set hC1.1) (iI 0)
      refine ⟨false, mC3, sI m2 79 (1136 + 3 * n) (iI (-1)), (eC _ _ _ hmt hnum).trans a1, eR _ _ ?_, Or.inr ⟨rfl, _, a2, ?_⟩⟩
      · unfold F_M_readLawLine
        rw [hx1, lt_def, bnd_some e2, if_pos rfl, show (0 : Int32) = iI 0 from rfl, show (9 : Int32) = iI 9 from rfl, bnd_some e3, ckB_t (iI_inb (by omega) (by omega) (by omega)), lt_def, ckB_t (iI_inb (by omega) (by omega) (by omega)), lt_def, iI_idx (by omega) (by omega), Int.toNat_natCast]
        rw [show gI (sI m2 79 (1136 + 3 * n) (iI (-1))) 79 (1136 + 3 * n) = iI (-1) by rw [gI_sI, if_pos ⟨rfl, rfl⟩], if_neg (by decide)]
      · rw [gI_sI, if_neg (fun q => absurd q.1 (by decide))]
        exact g3
  · have hw := wm_b hw
    rw [hw] at e2
    rw [hw, if_neg (by decide)] at hmt
    have hd := ddL_set hC.1
    obtain ⟨mC3, a1, a2⟩ := LC1_d hd (iI 0)
    refine ⟨false, mC3, m1, (eC _ _ _ hmt (numberL_d hd _ _)).trans a1, eR _ _ ?_, Or.inr ⟨rfl, _, a2, g1⟩⟩
    unfold F_M_readLawLine
    rw [lt_def, bnd_some e2, if_neg (by decide)]
/-- a thirteenth line -/
theorem lawline_12 {b : Nat → Int} {T K k : Nat} {mC mR : Mem} (h : IL b T K 12 k mC mR) : ∃ mR', F_M_readLine false (iI (12 : Nat)) mR = some (false, mR') ∧ gI mR' 78 11 = iI (Bq b T k) := by
  obtain ⟨law, c, hlen, hok, hC, ⟨⟨p, p1, p2, p3⟩, p4⟩, -⟩ := h
  obtain ⟨m1, e1, r1, g1, f1⟩ := Mletters_ok p3
  rw [p2] at g1
  refine ⟨m1, ?_, g1⟩
  unfold F_M_readLine
  rw [bnd_some e1, lt_def, if_neg (by decide)]
  dsimp only
  rw [if_pos (by decide)]
theorem IL.hC {b : Nat → Int} {T K n k : Nat} {mC mR : Mem} (h : IL b T K n k mC mR) : CTL mC b T K (Bq b T) (Eq1 b T) k ∧ ∃ p, blk b T p = Bq b T k ∧ RSc mR b T p := by
  obtain ⟨law, c, x1, x2, hC, ⟨⟨p, p1, p2, p3⟩, p4⟩, x3⟩ := h
  exact ⟨hC.1, p, p2, p3⟩
theorem IL.hR {b : Nat → Int} {T K n k : Nat} {mC mR mR' : Mem} (h : IL b T K n k mC mR) (hr : RSc mR' b T (Bq b T k)) (hf : Fr [] [(78, 9), (78, 11)] mR mR') : IL b T K n k mC mR' := by
  obtain ⟨law, c, x1, x2, hC, ⟨⟨p, p1, p2, p3⟩, p4⟩, x3, x4, x5, x6⟩ := h
  have hp : p ≤ Bq b T k := by rw [← p2]; exact sc_ge isB b T p
  exact ⟨law, c, x1, x2, hC, ⟨⟨Bq b T k, by omega, hC.1.tf.bl hC.1.kK, hr⟩, (hf.gI (by simp) (by simp)).trans p4⟩, x3, x4, x5, LinesAt_cgr (fun j _ _ => hf.gI (by simp) (by simp)) (fun j _ _ => hf.gI (by simp) (by simp)) x6⟩
theorem IL.hS {b : Nat → Int} {T K n k : Nat} {mC mR mR' : Mem} (h : IL b T K n k mC mR) (hk : k < K) (hb : blk b T (Bq b T k + 1) = Bq b T (k + 1)) (hr : RSc mR' b T (Bq b T k + 1)) (hf : Fr [] [(78, 9), (78, 11)] mR mR') : IL b T K n (k + 1) (sI mC 52 5 (iI (k + 1 : Nat))) mR' := by
  obtain ⟨law, c, x1, x2, hC, ⟨⟨p, p1, p2, p3⟩, p4⟩, x3, x4, x5, x6⟩ := h
  have hp : p ≤ Bq b T k := by rw [← p2]; exact sc_ge isB b T p
  exact ⟨law, c, x1, x2, hC.nxt hk, ⟨⟨Bq b T k + 1, by omega, hb, hr⟩, (hf.gI (by simp) (by simp)).trans p4⟩, x3, x4, RowIs_congr k58 x5, LinesAt_cgr (fun j _ _ => hf.gI (by simp) (by simp)) (fun j _ _ => hf.gI (by simp) (by simp)) x6⟩
theorem IL_0 {b : Nat → Int} {T K : Nat} {mC mR mC0 : Mem} (h57 : gI mC0 57 1 = iI 0) (hct : CTL mC b T K (Bq b T) (Eq1 b T) 0) (hfC : Fr [53, 54, 55, 56] [(52, 4), (52, 5), (52, 6)] mC0 mC) (hr : RSc mR b T (Bq b T 0)) (h15 : gI mR 78 15 = iI 0) : IL b T K 0 0 mC mR :=
  ⟨[], 0, rfl, fun x hx => absurd hx List.not_mem_nil, ⟨hct, (hfC.gI (by simp) (by simp)).trans h57⟩, ⟨⟨Bq b T 0, Nat.zero_le _, hct.tf.bl (Nat.zero_le _), hr⟩, h15⟩, Nat.zero_le _, Nat.zero_le _, trivial, trivial⟩
/-- a law's text, in class and reference -/
theorem lawtext {b : Nat → Int} {T : Nat} {mC0 mR0 : Mem} (hB : BT mC0 b T) (hR0 : RT mR0 b T) (h8 : gI mR0 78 8 = iI T) (h57 : gI mC0 57 1 = iI 0) : ∃ (r : Int32) (mC' : Mem) (v : Int32) (mR' : Mem), F_Tx_readLinesL (iI T) (12 : Int32) mC0 = some (r, mC') ∧ F_M_readAll false mR0 = some (v, mR') ∧ ((gI mC' 52 6 = iI (-1) ∧ ∃ law : List (Int × List Int), law.length ≤ 12 ∧ okLs law ∧ r = iI law.length ∧ v = iI law.length ∧ gI mC' 57 1 = iI (codeL law).length ∧ (codeL law).length ≤ 400 ∧ stepsL law ≤ 400 ∧ RowIs mC' 58 0 (codeL law) ∧ LinesAt mR' 79 1135 0 0 law) ∨ (v = iI (-1) ∧ ∃ f : Nat, gI mC' 52 6 = iI f ∧ f ≤ 400 ∧ gI mR' 78 11 = iI f)) := by
  obtain ⟨K, r, mC', v, mR', e1, e2, e3⟩ := textL (fun K n k mC mR => IL b T K n k mC mR) (most := 12) (by omega) false hB hR0 h8
    (fun K n k mC mR h => IL.hC h) (fun K n k mC mR mR' h hr hf => IL.hR h hr hf) (fun K n k mC mR mR' h hk hb hr hf => IL.hS h hk hb hr hf) (fun K n k mC mR hn h => lawline_ok hn h) (fun K k mC mR h => lawline_12 h) (fun K mC mR hct hfC hr h15 _ => IL_0 h57 hct hfC hr h15)
  refine ⟨r, mC', v, mR', e1, e2, ?_⟩
  rcases e3 with ⟨n', h1, h2, h3, law, c, x1, x2, hC, hR, x3, x4, x5, x6⟩ | ⟨h1, f, h2, h3⟩
  · refine Or.inl ⟨hC.1.wr, law, by omega, x2, by rw [h2, x1], by rw [h3, x1], hC.2, ?_, ?_, x5, x6⟩
    · obtain ⟨⟨p, p1, p2, p3⟩, -⟩ := hR
      have := p3.1.1
      have := p3.2.2.2
      omega
    · obtain ⟨⟨p, p1, p2, p3⟩, -⟩ := hR
      have := p3.1.1
      have := p3.2.2.2
      omega
  · exact Or.inr ⟨h1, f, h2.1, h2.2, h3⟩
end LAWT
