section LP
theorem lt0 : (0 : Int32) = iI 0 := rfl
theorem lt1 : (1 : Int32) = iI 1 := rfl
theorem lt2 : (2 : Int32) = iI 2 := rfl
theorem lt3 : (3 : Int32) = iI 3 := rfl
theorem lt4 : (4 : Int32) = iI 4 := rfl
theorem lt5 : (5 : Int32) = iI 5 := rfl
theorem lt6 : (6 : Int32) = iI 6 := rfl
theorem lt7 : (7 : Int32) = iI 7 := rfl
theorem lt8 : (8 : Int32) = iI 8 := rfl
theorem lt9 : (9 : Int32) = iI 9 := rfl
theorem lt10 : (10 : Int32) = iI 10 := rfl
theorem lt11 : (11 : Int32) = iI 11 := rfl
theorem lt12 : (12 : Int32) = iI 12 := rfl
theorem lt13 : (13 : Int32) = iI 13 := rfl
theorem lt14 : (14 : Int32) = iI 14 := rfl
theorem lt15 : (15 : Int32) = iI 15 := rfl
theorem lt16 : (16 : Int32) = iI 16 := rfl
theorem lt17 : (17 : Int32) = iI 17 := rfl
theorem lt18 : (18 : Int32) = iI 18 := rfl
theorem lt19 : (19 : Int32) = iI 19 := rfl
theorem lt20 : (20 : Int32) = iI 20 := rfl
theorem lt21 : (21 : Int32) = iI 21 := rfl
theorem lt22 : (22 : Int32) = iI 22 := rfl
theorem lt23 : (23 : Int32) = iI 23 := rfl
theorem lt24 : (24 : Int32) = iI 24 := rfl
theorem lt25 : (25 : Int32) = iI 25 := rfl
theorem lt26 : (26 : Int32) = iI 26 := rfl
theorem lt27 : (27 : Int32) = iI 27 := rfl
theorem lt28 : (28 : Int32) = iI 28 := rfl
theorem lt29 : (29 : Int32) = iI 29 := rfl
theorem lt30 : (30 : Int32) = iI 30 := rfl
theorem lt31 : (31 : Int32) = iI 31 := rfl
theorem lt32 : (32 : Int32) = iI 32 := rfl
theorem lt40 : (40 : Int32) = iI 40 := rfl
theorem lt41 : (41 : Int32) = iI 41 := rfl
theorem lt43 : (43 : Int32) = iI 43 := rfl
theorem lt48 : (48 : Int32) = iI 48 := rfl
theorem lt55 : (55 : Int32) = iI 55 := rfl
theorem lt57 : (57 : Int32) = iI 57 := rfl
theorem lt59 : (59 : Int32) = iI 59 := rfl
theorem lt60 : (60 : Int32) = iI 60 := rfl
theorem lt62 : (62 : Int32) = iI 62 := rfl
theorem lt63 : (63 : Int32) = iI 63 := rfl
theorem lt64 : (64 : Int32) = iI 64 := rfl
theorem lt70 : (70 : Int32) = iI 70 := rfl
theorem lt72 : (72 : Int32) = iI 72 := rfl
theorem lt81 : (81 : Int32) = iI 81 := rfl
theorem lt97 : (97 : Int32) = iI 97 := rfl
theorem lt99 : (99 : Int32) = iI 99 := rfl
theorem lt100 : (100 : Int32) = iI 100 := rfl
theorem lt122 : (122 : Int32) = iI 122 := rfl
theorem lt162 : (162 : Int32) = iI 162 := rfl
theorem lt180 : (180 : Int32) = iI 180 := rfl
theorem lt235 : (235 : Int32) = iI 235 := rfl
theorem lt255 : (255 : Int32) = iI 255 := rfl
theorem lt298 : (298 : Int32) = iI 298 := rfl
theorem lt299 : (299 : Int32) = iI 299 := rfl
theorem lt325 : (325 : Int32) = iI 325 := rfl
theorem lt335 : (335 : Int32) = iI 335 := rfl
theorem lt400 : (400 : Int32) = iI 400 := rfl
theorem lt837 : (837 : Int32) = iI 837 := rfl
theorem lt999 : (999 : Int32) = iI 999 := rfl
theorem lt1000 : (1000 : Int32) = iI 1000 := rfl
theorem lt1001 : (1001 : Int32) = iI 1001 := rfl
theorem lt1002 : (1002 : Int32) = iI 1002 := rfl
theorem lt1003 : (1003 : Int32) = iI 1003 := rfl
theorem lt1004 : (1004 : Int32) = iI 1004 := rfl
theorem lt1005 : (1005 : Int32) = iI 1005 := rfl
theorem lt1006 : (1006 : Int32) = iI 1006 := rfl
theorem lt1007 : (1007 : Int32) = iI 1007 := rfl
theorem lt1008 : (1008 : Int32) = iI 1008 := rfl
theorem lt1100 : (1100 : Int32) = iI 1100 := rfl
theorem lt1101 : (1101 : Int32) = iI 1101 := rfl
theorem lt1102 : (1102 : Int32) = iI 1102 := rfl
theorem lt1103 : (1103 : Int32) = iI 1103 := rfl
theorem lt1104 : (1104 : Int32) = iI 1104 := rfl
theorem lt1105 : (1105 : Int32) = iI 1105 := rfl
theorem lt1135 : (1135 : Int32) = iI 1135 := rfl
theorem lt1136 : (1136 : Int32) = iI 1136 := rfl
theorem lt1172 : (1172 : Int32) = iI 1172 := rfl
theorem lt2000 : (2000 : Int32) = iI 2000 := rfl
theorem lt3278 : (3278 : Int32) = iI 3278 := rfl
theorem lt3575 : (3575 : Int32) = iI 3575 := rfl
theorem lt10000 : (10000 : Int32) = iI 10000 := rfl
theorem lt12345 : (12345 : Int32) = iI 12345 := rfl
theorem lt21450 : (21450 : Int32) = iI 21450 := rfl
theorem lt32767 : (32767 : Int32) = iI 32767 := rfl
theorem lt193050 : (193050 : Int32) = iI 193050 := rfl
theorem lt1103515245 : (1103515245 : Int32) = iI 1103515245 := rfl
theorem ltm162 : (-162 : Int32) = iI (-162) := rfl
theorem ltm99 : (-99 : Int32) = iI (-99) := rfl
theorem ltm81 : (-81 : Int32) = iI (-81) := rfl
theorem ltm8 : (-8 : Int32) = iI (-8) := rfl
theorem ltm1 : (-1 : Int32) = iI (-1) := rfl

/-- a loop comes to its end -/
theorem lp {σ β : Type} (L : Nat → σ → Option β) (P : σ → Prop) (mu : σ → Nat) (R : β → Prop) (h : ∀ nf s, P s → (∃ s', P s' ∧ mu s' < mu s ∧ L (nf + 1) s = L nf s') ∨ ∃ r, L (nf + 1) s = some r ∧ R r) : ∀ (n : Nat) (s : σ), P s → mu s < n → ∃ r, L n s = some r ∧ R r := by
  intro n
  induction n with
  | zero => intro s _ h2; exact absurd h2 (Nat.not_lt_zero _)
  | succ n ih =>
    intro s hP hm
    rcases h n s hP with ⟨s', h1, h2, h3⟩ | h1
    · rw [h3]
      exact ih s' h1 (by omega)
    · exact h1
theorem iI_divn {a b : Int} (a1 : 0 ≤ a) (a2 : a < 2147483648) (b1 : 0 < b) (b2 : b < 2147483648) : iI a / iI b = iI (a / b) := by
  rw [iI_div (by omega) a2 (by omega) b2, Int.tdiv_eq_ediv_of_nonneg a1]
/-- a loop that counts up to N -/
theorem lpc {β : Type} (L : Nat → Int32 → Mem → Option β) (N : Nat) (P : Nat → Mem → Prop) (h : ∀ nf k m, k < N → P k m → ∃ m', P (k + 1) m' ∧ L (nf + 1) (iI k) m = L nf (iI ((k : Int) + 1)) m') : ∀ (n k : Nat) (m : Mem), k ≤ N → P k m → N - k < n → ∃ nf m', P N m' ∧ L n (iI k) m = L (nf + 1) (iI N) m' := by
  intro n
  induction n with
  | zero => intro k m _ _ h2; exact absurd h2 (Nat.not_lt_zero _)
  | succ n ih =>
    intro k m hk hP hm
    rcases Nat.lt_or_ge k N with hlt | hge
    · obtain ⟨m', h1, h2⟩ := h n k m hlt hP
      rw [h2]
      exact ih (k + 1) m' (by omega) h1 (by omega)
    · have e : k = N := by omega
      subst e
      exact ⟨n, m, hP, rfl⟩
theorem iI_lt_t {a b : Int} (a1 : -2147483648 ≤ a) (b2 : b < 2147483648) (h : a < b) : (iI a < iI b) = True := by
  rw [iI_lt a1 (by omega) (by omega) b2]; exact eq_true h
theorem iI_lt_f {a b : Int} (b1 : -2147483648 ≤ b) (a2 : a < 2147483648) (h : b ≤ a) : (iI a < iI b) = False := by
  rw [iI_lt (by omega) a2 b1 (by omega)]; exact eq_false (by omega)
theorem iI_le_t {a b : Int} (a1 : -2147483648 ≤ a) (b2 : b < 2147483648) (h : a ≤ b) : (iI a ≤ iI b) = True := by
  rw [iI_le a1 (by omega) (by omega) b2]; exact eq_true h
theorem iI_le_f {a b : Int} (b1 : -2147483648 ≤ b) (a2 : a < 2147483648) (h : b < a) : (iI a ≤ iI b) = False := by
  rw [iI_le (by omega) a2 b1 (by omega)]; exact eq_false (by omega)
theorem iI_eq_t {a b : Int} (h : a = b) : (iI a = iI b) = True := by subst h; exact eq_true rfl
theorem iI_eq_f {a b : Int} (a1 : -2147483648 ≤ a) (a2 : a < 2147483648) (b1 : -2147483648 ≤ b) (b2 : b < 2147483648) (h : a ≠ b) : (iI a = iI b) = False := by
  rw [iI_eq a1 a2 b1 b2]; exact eq_false h
/-- one step of a function's text -/
theorem lt_go {α β : Type} {x : α} {f : α → β} {r : β} (h : ∀ y, y = x → f y = r) : lt x f = r := h x rfl
theorem if_go_t {c : Prop} [inst : Decidable c] {α : Type} {a b : α} {r : α} (hc : c) (h : a = r) : (if c then a else b) = r := by rw [if_pos hc]; exact h
theorem if_go_f {c : Prop} [inst : Decidable c] {α : Type} {a b : α} {r : α} (hc : ¬ c) (h : b = r) : (if c then a else b) = r := by rw [if_neg hc]; exact h
theorem ckB_go {β : Type} {b : Bool} {k : Option β} {r : Option β} (hb : b = true) (h : k = r) : ckB b k = r := by rw [hb]; exact h
theorem bnd_go {α β : Type} {o : Option (α × Mem)} {f : α → Mem → Option β} {v : α} {m : Mem} {r : Option β} (h : o = some (v, m)) (h2 : f v m = r) : bnd o f = r := by rw [h]; exact h2
theorem bndX_go {α β : Type} {o : Option ((Nat ⊕ α) × Mem)} {f : α → Mem → Option ((Nat ⊕ β) × Mem)} {v : α} {m : Mem} {r : Option ((Nat ⊕ β) × Mem)} (h : o = some (.inr v, m)) (h2 : f v m = r) : bndX o f = r := by rw [h]; exact h2
theorem bnd_some {α β : Type} {o : Option (α × Mem)} {f : α → Mem → Option β} {v : α} {m : Mem} (h : o = some (v, m)) : bnd o f = f v m := by rw [h]; rfl
theorem bndX_inr {α β : Type} {o : Option ((Nat ⊕ α) × Mem)} {f : α → Mem → Option ((Nat ⊕ β) × Mem)} {v : α} {m : Mem} (h : o = some (.inr v, m)) : bndX o f = f v m := by rw [h]; rfl
theorem bndX_inl {α β : Type} {o : Option ((Nat ⊕ α) × Mem)} {f : α → Mem → Option ((Nat ⊕ β) × Mem)} {k : Nat} {m : Mem} (h : o = some (.inl k, m)) : bndX o f = some (.inl k, m) := by rw [h]; rfl
theorem ckB_t {β : Type} {b : Bool} {k : Option β} (h : b = true) : ckB b k = k := by rw [h]; rfl
theorem ckB_true {β : Type} {k : Option β} : ckB true k = k := rfl
theorem bnd_e {α β : Type} {v : α} {m : Mem} {f : α → Mem → Option β} : bnd (some (v, m)) f = f v m := rfl
theorem lt_def {α β : Type} (x : α) (f : α → β) : lt x f = f x := rfl
/-- reads behind a frame -/
theorem Fr.gI {A : List Nat} {L : List (Nat × Nat)} {m m' : Mem} (h : Fr A L m m') {o j : Nat} (a : o ∉ A) (b : (o, j) ∉ L) : gI m' o j = gI m o j := (h o j a b).1
theorem Fr.gL {A : List Nat} {L : List (Nat × Nat)} {m m' : Mem} (h : Fr A L m m') {o j : Nat} (a : o ∉ A) (b : (o, j) ∉ L) : gL m' o j = gL m o j := (h o j a b).2.1
theorem Fr.gZ {A : List Nat} {L : List (Nat × Nat)} {m m' : Mem} (h : Fr A L m m') {o j : Nat} (a : o ∉ A) (b : (o, j) ∉ L) : gZ m' o j = gZ m o j := (h o j a b).2.2
/-- bytes: a shifted int's low eight bits, kept as an int or as a byte -/
theorem byte_eq (a s : Int32) (hs : s = 0 ∨ s = 8 ∨ s = 16 ∨ s = 24) : ((a >>> (s &&& 31)).toInt8.toInt32).toInt8.toInt32 = ((a.toUInt32 >>> (s.toUInt32 &&& Int32.toUInt32 31)).toInt32 &&& 255).toInt8.toInt32 := by
  have h1 : ∀ x : Int32, x.toInt8.toInt32.toInt8 = x.toInt8 := fun x => by simp
  rw [h1]
  congr 1
  apply Int8.toBitVec_inj.mp
  rcases hs with rfl | rfl | rfl | rfl <;> simp <;> (apply BitVec.eq_of_getLsbD_eq; intro i hi; rcases (show i = 0 ∨ i = 1 ∨ i = 2 ∨ i = 3 ∨ i = 4 ∨ i = 5 ∨ i = 6 ∨ i = 7 by omega) with rfl | rfl | rfl | rfl | rfl | rfl | rfl | rfl <;> simp [BitVec.getLsbD_signExtend, BitVec.getLsbD_sshiftRight, BitVec.getLsbD_ushiftRight, BitVec.getElem_signExtend, BitVec.getElem_sshiftRight])
theorem and255 (x : Int32) : ∃ z : Int, x &&& 255 = iI z ∧ 0 ≤ z ∧ z ≤ 255 := by
  have h1 : (x &&& 255).toInt = ((x.toBitVec &&& 255#32).toNat : Int) := by
    show (x &&& 255).toBitVec.toInt = _
    rw [Int32.toBitVec_and]
    show (x.toBitVec &&& 255#32).toInt = _
    apply BitVec.toInt_eq_toNat_of_lt
    have h2 : (x.toBitVec &&& 255#32).toNat ≤ 255 := by
      rw [BitVec.toNat_and]
      exact Nat.and_le_right
    omega
  have h2 : (x.toBitVec &&& 255#32).toNat ≤ 255 := by
    rw [BitVec.toNat_and]
    exact Nat.and_le_right
  exact ⟨(x &&& 255).toInt, (iI_of _).symm, by omega, by omega⟩
end LP
