section FND
/-! ===== the numbers of the system: one memory of ints, longs and booleans, by object and place ===== -/
def b2i (b : Bool) : Int32 := cond b 1 0
abbrev Mem : Type := (Nat → Nat → Int32) × (Nat → Nat → Int64) × (Nat → Nat → Bool)
def gI (m : Mem) (o j : Nat) : Int32 := m.1 o j
def gL (m : Mem) (o j : Nat) : Int64 := m.2.1 o j
def gZ (m : Mem) (o j : Nat) : Bool := m.2.2 o j
def u2 {α : Type} (f : Nat → Nat → α) (o j : Nat) (v : α) : Nat → Nat → α := fun o' j' => if o' = o ∧ j' = j then v else f o' j'
def z1 {α : Type} (f : Nat → Nat → α) (o : Nat) (d : α) : Nat → Nat → α := fun o' j' => if o' = o then d else f o' j'
def sI (m : Mem) (o j : Nat) (v : Int32) : Mem := (u2 m.1 o j v, m.2.1, m.2.2)
def sL (m : Mem) (o j : Nat) (v : Int64) : Mem := (m.1, u2 m.2.1 o j v, m.2.2)
def sZ (m : Mem) (o j : Nat) (v : Bool) : Mem := (m.1, m.2.1, u2 m.2.2 o j v)
def zr (m : Mem) (o : Nat) : Mem := (z1 m.1 o 0, z1 m.2.1 o 0, z1 m.2.2 o false)
/-- a name for a value; a call; the reading and writing of an array -/
def lt {α β : Type} (x : α) (f : α → β) : β := f x
def bnd {α β : Type} (o : Option (α × Mem)) (f : α → Mem → Option β) : Option β := match o with
  | none => none
  | some (r, m) => f r m
def bndX {α β : Type} (o : Option ((Nat ⊕ α) × Mem)) (f : α → Mem → Option ((Nat ⊕ β) × Mem)) : Option ((Nat ⊕ β) × Mem) := match o with
  | none => none
  | some (.inl e, m) => some (.inl e, m)
  | some (.inr r, m) => f r m
def inb (i : Int32) (n : Nat) : Bool := decide (¬ (i < 0 ∨ n ≤ i.toNatClampNeg))
def ckB {β : Type} (b : Bool) (k : Option β) : Option β := if b = true then k else none
theorem lt_at {α β : Type} {x y : α} {f : α → Option β} {r : Option β} (e : y = x) (h : lt x f = r) : f y = r := by subst e; exact h
theorem lt_ex {α β : Type} {x : α} {f : α → Option β} {r : Option β} (h : lt x f = r) : ∃ y, y = x ∧ f y = r := ⟨x, rfl, h⟩
theorem bnd_ex {α β : Type} {o : Option (α × Mem)} {f : α → Mem → Option β} {r : β} (h : bnd o f = some r) : ∃ v m, o = some (v, m) ∧ f v m = some r := by
  match o, h with
  | some (v, m), h => exact ⟨v, m, rfl, h⟩
theorem bndX_ex {α β : Type} {o : Option ((Nat ⊕ α) × Mem)} {f : α → Mem → Option ((Nat ⊕ β) × Mem)} {r : (Nat ⊕ β) × Mem} (h : bndX o f = some r) : (∃ e m, o = some (.inl e, m) ∧ r = (.inl e, m)) ∨ ∃ v m, o = some (.inr v, m) ∧ f v m = some r := by
  match o, h with
  | some (.inl e, m), h => exact Or.inl ⟨e, m, rfl, (Option.some.inj h).symm⟩
  | some (.inr v, m), h => exact Or.inr ⟨v, m, rfl, h⟩
theorem ckB_ex {β : Type} {b : Bool} {k : Option β} {r : β} (h : ckB b k = some r) : b = true ∧ k = some r := by
  unfold ckB at h
  split at h
  · rename_i hb
    exact ⟨hb, h⟩
  · cases h
theorem inb_in {i : Int32} {n : Nat} (h : inb i n = true) : vp_in i n := by
  have h1 : ¬ (i < 0 ∨ n ≤ i.toNatClampNeg) := of_decide_eq_true h
  exact h1
theorem if_t {c : Prop} [inst : Decidable c] {α : Type} {a b : α} {r : α} (hc : c) (h : (if c then a else b) = r) : a = r := by rw [if_pos hc] at h; exact h
theorem if_f {c : Prop} [inst : Decidable c] {α : Type} {a b : α} {r : α} (hc : ¬ c) (h : (if c then a else b) = r) : b = r := by rw [if_neg hc] at h; exact h
/-! ===== the shape: which objects there are ===== -/
def shpL : List (Nat × Nat) := [(0, 10), (1, 400), (0, 7), (0, 1), (1, 2), (1, 2), (1, 16), (1, 16), (0, 3), (1, 400), (1, 8), (1, 64), (0, 0), (1, 180), (1, 72), (2, 193050), (0, 5), (1, 63), (0, 5), (1, 63), (0, 8), (4, 12), (0, 5), (1, 63), (0, 5), (1, 63), (0, 5), (1, 63), (0, 5), (1, 63), (0, 5), (1, 63), (0, 5), (1, 63), (0, 5), (1, 63), (0, 5), (1, 63), (0, 5), (1, 63), (0, 5), (1, 63), (0, 5), (1, 63), (0, 5), (1, 63), (0, 2), (1, 400), (1, 401), (1, 401), (1, 401), (1, 70), (0, 4), (1, 400), (1, 401), (1, 401), (1, 401), (0, 3), (1, 400), (1, 8), (1, 64), (0, 6), (1, 16), (1, 16), (0, 1), (1, 2), (1, 2), (1, 16), (1, 16), (0, 3), (1, 400), (1, 8), (1, 64), (0, 0), (1, 180), (1, 72), (0, 5), (1, 63), (0, 11), (1, 1972), (1, 1135), (1, 1135), (1, 3576), (3, 400), (1, 5), (1, 400), (1, 42900), (1, 42900), (1, 6), (2, 2), (1, 298), (2, 1)]
def ftL : List (List Nat) := [[0, 3], [0, 0, 0, 0, 0, 0, 0, 3, 3, 3, 3, 3, 3, 3], [3, 3, 3, 3, 0, 0, 0, 3, 0, 0, 2], [0, 0, 3, 3, 3], [3, 3, 3, 3, 0, 0, 0, 3], [0, 0, 0, 0, 0, 2, 2, 0, 0, 0, 3], [3, 3], [3, 3, 1, 2, 0, 0, 2, 1, 1], [0, 0, 3], [], [3, 0, 0, 3, 3, 3, 3, 3, 3, 3, 3, 3, 3, 2], [0, 3, 3, 3, 3, 2, 0, 3, 0, 0, 0, 0, 0, 0, 3, 0, 3, 3, 3, 3, 0, 0, 2, 0, 0, 3, 3]]
def mrL : List (List (Option Nat)) := [[some 1, none, none, some 2, some 3, some 16, some 18, some 20, some 46, some 52, some 61, some 64, some 76], [], [some 3, some 15], [none, none, none, none, none, none, none, some 4, some 5, some 6, some 7, some 8, some 12, some 14], [], [], [], [], [none, none, some 9, some 10, some 11], [], [], [], [none, some 13], [], [], [], [none, none, none, none, none, none, none, none, none, none, some 17], [], [none, none, none, none, none, none, none, none, none, none, some 19], [], [none, none, some 21], [some 22, some 24, some 26, some 28, some 30, some 32, some 34, some 36, some 38, some 40, some 42, some 44], [none, none, none, none, none, none, none, none, none, none, some 23], [], [none, none, none, none, none, none, none, none, none, none, some 25], [], [none, none, none, none, none, none, none, none, none, none, some 27], [], [none, none, none, none, none, none, none, none, none, none, some 29], [], [none, none, none, none, none, none, none, none, none, none, some 31], [], [none, none, none, none, none, none, none, none, none, none, some 33], [], [none, none, none, none, none, none, none, none, none, none, some 35], [], [none, none, none, none, none, none, none, none, none, none, some 37], [], [none, none, none, none, none, none, none, none, none, none, some 39], [], [none, none, none, none, none, none, none, none, none, none, some 41], [], [none, none, none, none, none, none, none, none, none, none, some 43], [], [none, none, none, none, none, none, none, none, none, none, some 45], [], [some 47, some 48, some 49, some 50, none, none, none, some 51], [], [], [], [], [], [some 53, some 54, some 55, some 56, none, none, none, some 57], [], [], [], [], [none, none, some 58, some 59, some 60], [], [], [], [some 62, some 63], [], [], [none, none, none, none, none, none, none, some 65, some 66, some 67, some 68, some 69, some 73, some 75], [], [], [], [], [none, none, some 70, some 71, some 72], [], [], [], [none, some 74], [], [], [none, none, none, none, none, none, none, none, none, none, some 77], [], [none, some 79, some 80, some 81, some 82, none, none, some 83, none, none, none, none, none, none, some 84, none, some 85, some 86, some 87, some 88, none, none, none, none, none, some 89, some 90], [], [], [], [], [], [], [], [], [], [], [], [], []]
def N0 : Nat := 92
def kd (k : Nat) : Nat × Nat := shpL.getD k (9, 0)
def ft (ci j : Nat) : Nat := (ftL.getD ci []).getD j 9
def nf (ci : Nat) : Nat := (ftL.getD ci []).length
def mr0 (o j : Nat) : Option Nat := (mrL.getD o []).getD j none
abbrev cls : List vw_C := [(RX0, TX0, 2), (RX1, TX1, 14), (RX2, TX2, 11), (RX3, TX3, 5), (RX4, TX4, 8), (RX5, TX5, 11), (RX6, TX6, 2), (RX7, TX7, 9), (RX8, TX8, 3), (RX0, TX0, 2), (RX10, TX10, 14), (RX11, TX11, 27)]
abbrev GG : Type := va_G × Nat × ClassId × ClassId × ClassId × ClassId × (String → Nat)
abbrev MR : Type := Nat → Nat → Option Nat
def rfv (b : Nat) (r : Option Nat) : Value := va_rf (r.map (fun k => b + k))
def fv (b : Nat) (mr : MR) (m : Mem) (k ci j : Nat) : Value := match ft ci j with
  | 0 => .int (gI m k j)
  | 1 => .long (gL m k j)
  | 2 => .int (b2i (gZ m k j))
  | _ => rfv b (mr k j)
def cellE (G : GG) (mr : MR) (m : Mem) (k : Nat) : va_E := match kd k with
  | (0, ci) => .inr (ci, (List.range (nf ci)).map (fv G.2.1 mr m k ci))
  | (1, n) => .inl (G.2.2.1, n, .inl (gI m k))
  | (2, n) => .inl (G.2.2.2.1, n, .inr (.inl (gL m k)))
  | (3, n) => .inl (G.2.2.2.2.1, n, .inl (gI m k))
  | (_, n) => .inl (G.2.2.2.2.2.1, n, .inr (.inr (.inr (.inr (fun j => (mr k j).map (fun i => G.2.1 + i))))))
def wsO (G : GG) (mr : MR) (n : Nat) (m : Mem) : va_W := (List.range n).map (fun k => (G.2.1 + k, cellE G mr m k))
def tysO (G : GG) : List (ClassId × FieldType) := [(G.2.2.1, .int), (G.2.2.2.1, .long), (G.2.2.2.2.1, .byte), (G.2.2.2.2.2.1, .object "TossGround$Match")]
theorem wsO_at (G : GG) (mr : MR) {n k : Nat} (m : Mem) (h : k < n) : (wsO G mr n m)[k]? = some (G.2.1 + k, cellE G mr m k) := by
  simp [wsO, List.getElem?_map, List.getElem?_range h]
theorem map_set {α : Type} {f g : Nat → α} {n k : Nat} {x : α} (h : k < n) (ho : ∀ i, i ≠ k → g i = f i) (hx : g k = x) : ((List.range n).map f).set k x = (List.range n).map g := by
  apply List.ext_getElem?
  intro i
  by_cases hi : i = k
  · subst hi
    rw [List.getElem?_set_self (by simpa using h)]
    simp [List.getElem?_map, List.getElem?_range h, hx]
  · rw [List.getElem?_set_ne (fun e => hi e.symm)]
    by_cases hn : i < n
    · simp [List.getElem?_map, List.getElem?_range hn, ho i hi]
    · simp [List.getElem?_map, List.getElem?_eq_none (show (List.range n).length ≤ i by simpa using hn)]
theorem wsO_set {G : GG} {mr mr' : MR} {n k : Nat} {m m' : Mem} {x : va_E} (h : k < n) (ho : ∀ i, i ≠ k → cellE G mr' m' i = cellE G mr m i) (hx : cellE G mr' m' k = x) : (wsO G mr n m).set k (G.2.1 + k, x) = wsO G mr' n m' :=
  map_set (f := fun k => (G.2.1 + k, cellE G mr m k)) (g := fun k => (G.2.1 + k, cellE G mr' m' k)) h (fun i hi => by simp only [ho i hi]) (by simp only [hx])
theorem wsO_D (G : GG) (mr : MR) (n : Nat) (m : Mem) : va_D (fun q => G.2.1 ≤ q) (wsO G mr n m) := by
  have key : ∀ (k : Nat) (q : Nat × va_E), (wsO G mr n m)[k]? = some q → q.1 = G.2.1 + k := by
    intro k q h
    by_cases hn : k < n
    · rw [wsO_at G mr m hn] at h
      cases h
      rfl
    · rw [List.getElem?_eq_none (by simpa [wsO] using hn)] at h
      cases h
  refine ⟨fun i j p q hi hj e => ?_, fun k q hk => ?_⟩
  · have h1 := key i p hi
    have h2 := key j q hj
    omega
  · have h1 := key k q hk
    show G.2.1 ≤ q.1
    omega
theorem cellE_congr {G : GG} {mr mr' : MR} {m m' : Mem} {k : Nat} (hi : gI m' k = gI m k) (hl : gL m' k = gL m k) (hz : gZ m' k = gZ m k) (hr : mr' k = mr k) : cellE G mr' m' k = cellE G mr m k := by
  have hf : ∀ ci, fv G.2.1 mr' m' k ci = fv G.2.1 mr m k ci := by
    intro ci
    funext j
    simp only [fv, hi, hl, hz, hr]
  unfold cellE
  rw [hi, hl, hr]
  split <;> simp only [hf]
theorem gI_sI_ne {m : Mem} {o j k : Nat} {v : Int32} (h : k ≠ o) : gI (sI m o j v) k = gI m k := by funext i; simp [gI, sI, u2, h]
theorem gL_sL_ne {m : Mem} {o j k : Nat} {v : Int64} (h : k ≠ o) : gL (sL m o j v) k = gL m k := by funext i; simp [gL, sL, u2, h]
theorem gZ_sZ_ne {m : Mem} {o j k : Nat} {v : Bool} (h : k ≠ o) : gZ (sZ m o j v) k = gZ m k := by funext i; simp [gZ, sZ, u2, h]
theorem gI_sI_upd (m : Mem) (o j : Nat) (v : Int32) : gI (sI m o j v) o = upd (gI m o) j v := by funext i; simp [gI, sI, u2, upd]
theorem gL_sL_upd (m : Mem) (o j : Nat) (v : Int64) : gL (sL m o j v) o = vp_updL (gL m o) j v := by funext i; simp [gL, sL, u2, vp_updL]
theorem cellE_sI {G : GG} {mr : MR} {m : Mem} {o j : Nat} {v : Int32} {i : Nat} (h : i ≠ o) : cellE G mr (sI m o j v) i = cellE G mr m i := cellE_congr (gI_sI_ne h) rfl rfl rfl
theorem cellE_sL {G : GG} {mr : MR} {m : Mem} {o j : Nat} {v : Int64} {i : Nat} (h : i ≠ o) : cellE G mr (sL m o j v) i = cellE G mr m i := cellE_congr rfl (gL_sL_ne h) rfl rfl
theorem cellE_sZ {G : GG} {mr : MR} {m : Mem} {o j : Nat} {v : Bool} {i : Nat} (h : i ≠ o) : cellE G mr (sZ m o j v) i = cellE G mr m i := cellE_congr rfl rfl (gZ_sZ_ne h) rfl
theorem cellE_obj {G : GG} {mr : MR} {m : Mem} {o ci : Nat} (h : kd o = (0, ci)) : cellE G mr m o = .inr (ci, (List.range (nf ci)).map (fv G.2.1 mr m o ci)) := by simp only [cellE, h]
theorem cellE_ia {G : GG} {mr : MR} {m : Mem} {o n : Nat} (h : kd o = (1, n)) : cellE G mr m o = .inl (G.2.2.1, n, .inl (gI m o)) := by simp only [cellE, h]
theorem cellE_la {G : GG} {mr : MR} {m : Mem} {o n : Nat} (h : kd o = (2, n)) : cellE G mr m o = .inl (G.2.2.2.1, n, .inr (.inl (gL m o))) := by simp only [cellE, h]
theorem cellE_ba {G : GG} {mr : MR} {m : Mem} {o n : Nat} (h : kd o = (3, n)) : cellE G mr m o = .inl (G.2.2.2.2.1, n, .inl (gI m o)) := by simp only [cellE, h]
theorem cellE_ra {G : GG} {mr : MR} {m : Mem} {o n : Nat} (h : kd o = (4, n)) : cellE G mr m o = .inl (G.2.2.2.2.2.1, n, .inr (.inr (.inr (.inr (fun j => (mr o j).map (fun i => G.2.1 + i)))))) := by simp only [cellE, h]
/-! ===== what is known of a state beside the cells ===== -/
theorem sel_priv {C : String} {x0 y0 y : MethodName} {s : State} {args : Array Value} (hy : y.cls ≠ "java/lang/invoke/MethodHandle" ∧ y.cls ≠ "java/lang/invoke/VarHandle")
    (h0 : (Cond.selects C x0 y0).before args s = true) (hc0 : y0.cls = y.cls) (hpriv : (Cond.privateMethod y).before args s = true) (hinst : (Cond.instanceMethod y).before args s = true) :
    (Cond.selects C y y).before args s = true := by
  obtain ⟨mk, methM, hnamed, hmethM, -, -⟩ := Cond.instanceMethod_spec hinst
  have hfound : s.methodFound? y.cls y.name y.desc = some mk := State.methodFound?_of_named hnamed hy
  simp only [Cond.before, Cond.holds, Cond.value] at h0
  cases hc : s.vm.findClass C with
  | none => simp [hc] at h0
  | some c =>
    cases hr : s.methodFound? x0.cls x0.name x0.desc with
    | none => simp [hc, hr] at h0
    | some r =>
      cases hm : s.methodNamed? y0 with
      | none => simp [hc, hr, hm] at h0
      | some m0 =>
        have hcl : m0.cls = mk.cls := Option.some.inj ((findClass_of_methodNamed hm).symm.trans (by rw [hc0]; exact findClass_of_methodNamed hnamed))
        have hany : (s.vm.classes[mk.cls]?).any (fun k => !k.isInterface) = true := by
          simp only [hc, hr, hm] at h0
          rw [← hcl]
          revert h0
          cases selectMethod {} s.vm c r <;> simp
        have hsel : selectMethod {} s.vm c mk = .method mk := selectMethod_private hmethM (Cond.privateMethod_at hpriv mk methM hnamed hmethM)
        simp only [Cond.before, Cond.holds, Cond.value, hc, hfound, hnamed, hsel, hany]
        simp
def selX : List Cond := [Cond.selects "TossGround$GroundText" ⟨"TossGround$Text", "cut", "([II)V"⟩ ⟨"TossGround$Text", "cut", "([II)V"⟩, Cond.selects "TossGround$GroundText" ⟨"TossGround$Text", "addThing", "(III)V"⟩ ⟨"TossGround$Text", "addThing", "(III)V"⟩, Cond.selects "TossGround$GroundText" ⟨"TossGround$Text", "isAt", "(I)Z"⟩ ⟨"TossGround$Text", "isAt", "(I)Z"⟩, Cond.selects "TossGround$GroundText" ⟨"TossGround$Text", "byteAt", "(I)I"⟩ ⟨"TossGround$Text", "byteAt", "(I)I"⟩, Cond.selects "TossGround$LawText" ⟨"TossGround$Text", "cut", "([II)V"⟩ ⟨"TossGround$Text", "cut", "([II)V"⟩, Cond.selects "TossGround$LawText" ⟨"TossGround$Text", "addThing", "(III)V"⟩ ⟨"TossGround$Text", "addThing", "(III)V"⟩, Cond.selects "TossGround$LawText" ⟨"TossGround$Text", "isAt", "(I)Z"⟩ ⟨"TossGround$Text", "isAt", "(I)Z"⟩, Cond.selects "TossGround$LawText" ⟨"TossGround$Text", "byteAt", "(I)I"⟩ ⟨"TossGround$Text", "byteAt", "(I)I"⟩]
def lw_tb2 : List Cond := lw_tbl ++ selX
def lw_gd : List Cond := lw_tb2.filter goodWord
theorem gd {w : Cond} (h : w ∈ lw_tbl) (hg : goodWord w = true) : w ∈ lw_gd := List.mem_filter.mpr ⟨List.mem_append_left _ h, hg⟩
theorem gd2 {w : Cond} (h : w ∈ selX) (hg : goodWord w = true) : w ∈ lw_gd := List.mem_filter.mpr ⟨List.mem_append_right _ h, hg⟩
theorem lw_good : ∀ w ∈ lw_gd, goodWord w = true := fun w h => (List.mem_filter.mp h).2
theorem GoodIn_gd (y : Cond) (z : Cond) (hz : z ∈ lw_gd) : GoodIn (y :: lw_gd) (z :: lw_gd) := fun w hw => by
  have h : w ∈ lw_gd := (List.mem_cons.mp hw).elim (fun e => e ▸ hz) id
  exact ⟨List.mem_cons_of_mem _ h, good_of_word (lw_good w h)⟩
theorem GoodIn_gd0 (z : Cond) (hz : z ∈ lw_gd) : GoodIn lw_gd (z :: lw_gd) := fun w hw => by
  have h : w ∈ lw_gd := (List.mem_cons.mp hw).elim (fun e => e ▸ hz) id
  exact ⟨h, good_of_word (lw_good w h)⟩
def strL : List (String × Nat × String) := [("TossGround$GroundText", 33, "sessions"), ("TossGround$GroundText", 47, "side"), ("TossGround$GroundText", 79, "bat"), ("TossGround$GroundText", 85, "bowl"), ("TossGround$GroundText", 52, "slot"), ("TossGround$GroundText", 87, "runs"), ("TossGround$GroundText", 89, "outs"), ("TossGround$GroundText", 57, "cloud"), ("TossGround$GroundText", 63, "tide"), ("TossGround$GroundText", 65, "rain"), ("TossGround$GroundText", 67, "margin"), ("TossGround$GroundText", 69, "drawworth"), ("TossGround$GroundText", 71, "book"), ("TossGround$LawText", 32, "hard"), ("TossGround$LawText", 42, "if"), ("TossGround$LawText", 65, "not"), ("TossGround$LawText", 74, "cloud"), ("TossGround$LawText", 76, "tide"), ("TossGround$LawText", 85, "session"), ("TossGround$LawText", 87, "day"), ("TossGround$LawText", 89, "innings"), ("TossGround$LawText", 91, "side"), ("TossGround$LawText", 93, "bat"), ("TossGround$LawText", 95, "bowl"), ("TossGround$LawText", 63, "and"), ("TossGround$LawText", 58, "or"), ("TossGround", 111, "the text is wrong"), ("TossGround", 121, "there are 12 texts"), ("TossGround", 417, "there is no such one"), ("TossGround", 184, "no such what"), ("TossGround", 237, "the toss was"), ("TossGround", 420, "ahead of the toss, or over"), ("TossGround", 422, "not innings 3, or over"), ("TossGround", 266, "nobody may declare"), ("TossGround", 271, "nobody may be made to follow on"), ("TossGround", 426, "ahead of the toss"), ("TossGround", 424, "no such lead or out"), ("TossGround", 314, "no such choice"), ("TossGround", 325, "that choice cannot be made"), ("TossGround", 296, "the tape is not a slot for each session left"), ("TossGround", 389, "no mornings, or no such sign or value"), ("TossGround", 401, "no mornings"), ("TossGround", 287, "no such day"), ("TossGroundModel", 126, "sessions"), ("TossGroundModel", 131, "side"), ("TossGroundModel", 110, "bat"), ("TossGroundModel", 116, "bowl"), ("TossGroundModel", 136, "slot"), ("TossGroundModel", 118, "runs"), ("TossGroundModel", 120, "outs"), ("TossGroundModel", 141, "cloud"), ("TossGroundModel", 147, "tide"), ("TossGroundModel", 149, "rain"), ("TossGroundModel", 151, "margin"), ("TossGroundModel", 156, "drawworth"), ("TossGroundModel", 158, "book"), ("TossGroundModel", 206, "hard"), ("TossGroundModel", 208, "if"), ("TossGroundModel", 188, "not"), ("TossGroundModel", 170, "session"), ("TossGroundModel", 172, "day"), ("TossGroundModel", 174, "innings"), ("TossGroundModel", 199, "and"), ("TossGroundModel", 204, "or")]
def nestL : List (String × Nat × MethodName × String) := [("TossGround", 22, ⟨"TossGround$Odds","<init>","()V"⟩, "TossGround"), ("TossGround$Ground", 48, ⟨"TossGround$Law","<init>","()V"⟩, "TossGround"), ("TossGround$Ground", 55, ⟨"TossGround$Book","<init>","()V"⟩, "TossGround"), ("TossGround", 36, ⟨"TossGround$Match","<init>","()V"⟩, "TossGround"), ("TossGround$Past", 22, ⟨"TossGround$Match","<init>","()V"⟩, "TossGround"), ("TossGround", 53, ⟨"TossGround$GroundText","<init>","()V"⟩, "TossGround"), ("TossGround$GroundText", 3, ⟨"TossGround$Text","<init>","()V"⟩, "TossGround"), ("TossGround", 60, ⟨"TossGround$LawText","<init>","()V"⟩, "TossGround"), ("TossGround$LawText", 3, ⟨"TossGround$Text","<init>","()V"⟩, "TossGround"), ("TossGround$LawText", 11, ⟨"TossGround$Law","<init>","()V"⟩, "TossGround"), ("TossGround", 67, ⟨"TossGround$Mornings","<init>","()V"⟩, "TossGround"), ("TossGround$Ground", 70, ⟨"TossGround","bitOf","(II)I"⟩, "TossGround")]
def castL : List (String × String) := [("java/lang/IllegalArgumentException", "java/lang/IllegalArgumentException"), ("java/lang/UnsupportedOperationException", "java/lang/UnsupportedOperationException"), ("java/lang/IndexOutOfBoundsException", "java/lang/IndexOutOfBoundsException"), ("java/util/NoSuchElementException", "java/util/NoSuchElementException"), ("java/lang/IllegalStateException", "java/lang/IllegalStateException"), ("TossGround", "java/lang/Object"), ("TossGround$Odds", "java/lang/Object"), ("TossGround$Ground", "java/lang/Object"), ("TossGround$Law", "java/lang/Object"), ("TossGround$Book", "java/lang/Object"), ("TossGround$Match", "java/lang/Object"), ("TossGround$Past", "java/lang/Object"), ("TossGround$GroundText", "java/lang/Object"), ("TossGround$LawText", "java/lang/Object"), ("TossGround$Mornings", "java/lang/Object"), ("TossGroundModel", "java/lang/Object"), ("java/lang/IllegalArgumentException", "java/lang/Object"), ("java/lang/UnsupportedOperationException", "java/lang/Object"), ("java/lang/IndexOutOfBoundsException", "java/lang/Object"), ("java/util/NoSuchElementException", "java/lang/Object"), ("java/lang/IllegalStateException", "java/lang/Object"), ("java/lang/Throwable", "java/lang/Object"), ("java/lang/String", "java/lang/Object")]
def declL : List MethodName := [⟨"TossGround$Text", "readLine", "()V"⟩, ⟨"java/lang/RuntimeException", "<init>", "(Ljava/lang/String;)V"⟩, ⟨"java/lang/Exception", "<init>", "(Ljava/lang/String;)V"⟩, ⟨"java/lang/Throwable", "<init>", "(Ljava/lang/String;)V"⟩]
def txB (tx : String) (j : Nat) : Int32 := (tx.toList.map (fun c => nI c.toNat)).getD j 0
def SA (a : Nat) (tx : String) (A : Nat → Prop) (U : State) (H : Heap) : Prop :=
  va_O "java/lang/String" a A U H ∧ va_OF "java/lang/String" "coder" "B" (.int 0) a A U H ∧ ∃ v, va_OF "java/lang/String" "value" "[B" (.ref v) a A U H ∧ va_T .byte v tx.length (fun j => .int (txB tx j)) A U H
theorem SA.go {a : Nat} {tx : String} {A : Nat → Prop} {u U : State} {H H1 : Heap} (hvm : u.vm.Alike U.vm) (hq : ∀ a : Nat, a < H.size → ¬ A a → H1[a]? = H[a]?) (h : SA a tx A u H) : SA a tx A U H1 := by
  obtain ⟨h1, h2, v, h3, h4⟩ := h
  exact ⟨(va_O.moved hvm h1).kept hq, (va_OF.moved hvm h2).kept hq, v, (va_OF.moved hvm h3).kept hq, (va_T.moved hvm h4).kept hq⟩
def EX (b : Nat) (sa : String → Nat) (U : State) : Prop :=
  (∀ q ∈ strL, vk_R q.1 q.2.1 q.2.2 (sa q.2.2) U ∧ SA (sa q.2.2) q.2.2 (fun q => b ≤ q) U U.heap) ∧
  vx_Zq Bundle.tN "UNASSIGNED_STACK" Bundle.steD (fun q => b ≤ q) U U.heap ∧ vx_Zq Bundle.tN "SUPPRESSED_SENTINEL" Bundle.listD (fun q => b ≤ q) U U.heap ∧
  (∀ q ∈ nestL, va_Nw (.methodLinkNest q.1 q.2.1 q.2.2.1 q.2.2.2) U) ∧ (∀ q ∈ castL, va_Nw (.castable q.1 q.2) U) ∧ (∀ x ∈ declL, va_Nw (.declares x) U) ∧ va_Z "java/lang/String" "COMPACT_STRINGS" "Z" (.int 1) (fun q => b ≤ q) U U.heap ∧ va_Zq "jdk/internal/util/Preconditions" "SIOOBE_FORMATTER" "Ljava/util/function/BiFunction;" (fun q => b ≤ q) U U.heap
theorem EX.go {b : Nat} {sa : String → Nat} {u U : State} (hvm : u.vm.Alike U.vm) (hR : ∀ (own tx : String) (k a : Nat), vk_R own k tx a u → vk_R own k tx a U) (hN : ∀ (a : String) (i : Nat) (x : MethodName) (h : String), va_Nw (.methodLinkNest a i x h) u → va_Nw (.methodLinkNest a i x h) U)
    (hC : ∀ (a c : String), va_Nw (.castable a c) u → va_Nw (.castable a c) U) (hX : ∀ x : MethodName, va_Nw (.declares x) u → va_Nw (.declares x) U) (hq : ∀ a : Nat, a < u.heap.size → ¬ (b ≤ a) → U.heap[a]? = u.heap[a]?) (h : EX b sa u) : EX b sa U := by
  obtain ⟨h1, h2, h3, h4, h6, h7, h5, h8⟩ := h
  refine ⟨fun q hs => ?_, (vx_Zq.moved hvm h2).kept hq, (vx_Zq.moved hvm h3).kept hq, fun q hs => hN _ _ _ _ (h4 q hs), fun q hs => hC _ _ (h6 q hs), fun x hs => hX _ (h7 x hs), (va_Z.moved hvm h5).kept hq, va_Zq.kept (va_Zq.moved hvm h8) hq⟩
  obtain ⟨e1, e2⟩ := h1 q hs
  exact ⟨hR _ _ _ _ e1, e2.go hvm hq⟩
theorem EX.warm {b : Nat} {sa : String → Nat} {u U : State} (hW : u.WarmedH U.vm) (hq : ∀ a : Nat, a < u.heap.size → ¬ (b ≤ a) → U.heap[a]? = u.heap[a]?) (h : EX b sa u) : EX b sa U :=
  h.go hW.alike (fun _ _ _ _ h => vk_R.warm hW h) (fun _ _ _ _ h => va_Nw.warmM hW h) (fun _ _ h => va_Nw.warmC hW h) (fun _ h => va_Nw.warmD hW h) hq
/-- a state in which the memory m stands -/
def RS (G : GG) (mr : MR) (n : Nat) (m : Mem) (U : State) : Prop := va_P G.1 cls (wsO G mr n m) U.heap ∧ va_K G.1 cls (tysO G) U ∧ G.2.1 ≤ U.heap.size ∧ EX G.2.1 G.2.2.2.2.2.2 U
theorem RS.calling {G : GG} {mr : MR} {n : Nat} {m : Mem} {U : State} (h : RS G mr n m U) (g : JFrame) (mk : MethodId) (a : Array Value) : RS G mr n m (U.calling g mk a) := by
  obtain ⟨h1, h2, h3, h4⟩ := h
  exact ⟨h1, va_K.moved (u := U) (U := U.calling g mk a) (Vm.Alike.refl U.vm) h2, h3, EX.go (u := U) (U := U.calling g mk a) (Vm.Alike.refl U.vm) (fun _ _ _ _ h => vk_R.same (u := U) rfl h) (fun _ _ _ _ h => va_Nw.same (u := U) rfl rfl h) (fun _ _ h => va_Nw.same (u := U) rfl rfl h) (fun _ h => va_Nw.same (u := U) rfl rfl h) (fun _ _ _ => rfl) h4⟩
abbrev jLen : MethodName := ⟨"java/lang/String", "length", "()I"⟩
abbrev jCod : MethodName := ⟨"java/lang/String", "coder", "()B"⟩
abbrev jLat : MethodName := ⟨"java/lang/String", "isLatin1", "()Z"⟩
abbrev jCha : MethodName := ⟨"java/lang/String", "charAt", "(I)C"⟩
abbrev jLch : MethodName := ⟨"java/lang/StringLatin1", "charAt", "([BI)C"⟩
abbrev jChk : MethodName := ⟨"java/lang/String", "checkIndex", "(II)V"⟩
abbrev jPre : MethodName := ⟨"jdk/internal/util/Preconditions", "checkIndex", "(IILjava/util/function/BiFunction;)I"⟩
abbrev jCmp : MethodName := ⟨"java/lang/Long", "compare", "(JJ)I"⟩
end FND
