section CROW
/-! ===== constructors: rows ===== -/
abbrev RL_ : Type := List (Nat × Nat × Nat)
abbrev WL_ : Type := List (Nat × Nat × (Int32 ⊕ Int64 ⊕ Bool))
def mrOf : RL_ → MR
  | [] => fun _ _ => none
  | q :: l => fun o j => if o = q.1 ∧ j = q.2.1 then some q.2.2 else mrOf l o j
def wr_ (q : Nat × Nat × (Int32 ⊕ Int64 ⊕ Bool)) (m : Mem) : Mem := match q.2.2 with
  | .inl x => sI m q.1 q.2.1 x
  | .inr (.inl x) => sL m q.1 q.2.1 x
  | .inr (.inr x) => sZ m q.1 q.2.1 x
def memOf : WL_ → Mem
  | [] => (fun _ _ => 0, fun _ _ => 0, fun _ _ => false)
  | q :: l => wr_ q (memOf l)
def RBq (l : RL_) (n : Nat) : Prop := ∀ q ∈ l, q.1 < n
def WB_ (l : WL_) (n : Nat) : Prop := ∀ q ∈ l, q.1 < n
theorem RBq.up {l : RL_} {n k : Nat} (h : RBq l n) (hk : n ≤ k) : RBq l k := fun q hq => Nat.lt_of_lt_of_le (h q hq) hk
theorem WB_.up {l : WL_} {n k : Nat} (h : WB_ l n) (hk : n ≤ k) : WB_ l k := fun q hq => Nat.lt_of_lt_of_le (h q hq) hk
theorem RBq.cons {l : RL_} {n a b c : Nat} (h : a < n) (h1 : RBq l n) : RBq ((a, b, c) :: l) n := List.forall_mem_cons.mpr ⟨h, h1⟩
theorem WB_.cons {l : WL_} {n a b : Nat} {c : Int32 ⊕ Int64 ⊕ Bool} (h : a < n) (h1 : WB_ l n) : WB_ ((a, b, c) :: l) n := List.forall_mem_cons.mpr ⟨h, h1⟩
theorem RBq.at_ {l : RL_} {n : Nat} (h : RBq l n) : mrOf l n = fun _ => none := by
  induction l with
  | nil => rfl
  | cons q l ih =>
    obtain ⟨h1, h2⟩ := List.forall_mem_cons.mp h
    funext j
    show (if n = q.1 ∧ j = q.2.1 then some q.2.2 else mrOf l n j) = none
    rw [if_neg (fun e => by omega), ih h2]
theorem WB_.zero {l : WL_} {n : Nat} (h : WB_ l n) : gI (memOf l) n = (fun _ => 0) ∧ gL (memOf l) n = (fun _ => 0) ∧ gZ (memOf l) n = (fun _ => false) := by
  induction l with
  | nil => exact ⟨rfl, rfl, rfl⟩
  | cons q l ih =>
    obtain ⟨h1, h2⟩ := List.forall_mem_cons.mp h
    obtain ⟨i1, i2, i3⟩ := ih h2
    obtain ⟨a, b, c⟩ := q
    have hn : n ≠ a := fun e => by omega
    rcases c with x | x | x
    · exact ⟨(gI_sI_ne hn).trans i1, i2, i3⟩
    · exact ⟨i1, (gL_sL_ne hn).trans i2, i3⟩
    · exact ⟨i1, i2, (gZ_sZ_ne hn).trans i3⟩
def dv (t : Nat) : Value := match t with
  | 0 => .int 0
  | 1 => .long 0
  | 2 => .int 0
  | _ => .null
theorem fv_new {b : Nat} {rl : RL_} {wl : WL_} {n ci : Nat} (h : RBq rl n) (hw : WB_ wl n) : (List.range (nf ci)).map (fv b (mrOf rl) (memOf wl) n ci) = (List.range (nf ci)).map (fun j => dv (ft ci j)) := by
  refine List.map_congr_left (fun j _ => ?_)
  obtain ⟨w1, w2, w3⟩ := hw.zero
  have h1 := h.at_
  unfold fv dv
  simp only [w1, w2, w3, h1]
  generalize ft ci j = t
  match t with
  | 0 => rfl
  | 1 => rfl
  | 2 => rfl
  | t + 3 => rfl
variable {G : GG} {mr : MR} {n : Nat} {mem mem' : Mem} {p : Program} {l : Launch} {e : Env} {R : Room} {d : Nat} {s : State} {mid : MethodId} {args : Array Value} {below : List Frame} {meth : Method} {c : Code} {H : Heap} {locs : List Loc} {cells slots : Nat} {Q : State → Prop} {cc : ByteArray} {nL : Nat} {own : String} {pc : Nat} {ls : Array Slot} {rest : List Value} {rl rl' : RL_} {wl wl' : WL_}
theorem W_top {g : JFrame} (k : H.size ≤ s.heap.size + cells → W p l e R s mid args below meth c H locs cells slots Q g) : W p l e R s mid args below meth c H locs cells slots Q g := fun T hT X => by
  have h := X.same.2.2.1
  exact k (by rw [← hT]; exact h) T hT X
theorem wsO_app (G : GG) (mr : MR) (n : Nat) (m : Mem) {x : va_E} (h : cellE G mr m n = x) : wsO G mr n m ++ [(G.2.1 + n, x)] = wsO G mr (n + 1) m := by
  subst h
  simp [wsO, List.range_succ]
theorem new_at {D : va_G} {mr : MR} {q : Nat} {x : va_E} {H1 : Heap} {k : Nat} (hP : va_P G.1 cls (wsO G mr n mem ++ [(q, x)]) H1) (hD : va_D (fun q => G.2.1 ≤ q) (wsO G mr n mem ++ [(q, x)])) (hk : k = G.2.1 + n + 1) (hs : H1.size ≤ k) : q = G.2.1 + n := by
  have hl : (wsO G mr n mem).length = n := by simp [wsO]
  have hat : (wsO G mr n mem ++ [(q, x)])[n]? = some (q, x) := by
    rw [List.getElem?_append_right (by omega), hl, Nat.sub_self]
    rfl
  have h1 : q < H1.size := (hP n _ hat).lt
  have h2 : G.2.1 ≤ q := hD.2 n _ hat
  refine Decidable.byContradiction (fun hn => ?_)
  obtain ⟨i, hi⟩ : ∃ i, q = G.2.1 + i := ⟨q - G.2.1, by omega⟩
  have hin : i < n := by omega
  have hai : (wsO G mr n mem ++ [(q, x)])[i]? = some (G.2.1 + i, cellE G mr mem i) := by
    rw [List.getElem?_append_left (by omega)]
    exact wsO_at G mr mem hin
  have := hD.1 i n _ _ hai hat hi.symm
  omega
theorem r_new {ci N idx : Nat} {Cn : String} {T : u_T} (C : Cx G p l R d s mid args meth c cc nL own) (hR : Rp G (mrOf rl) n (memOf wl) s H locs) (hn : s.heap.size + cells = G.2.1 + n) (hG : G.2.1 ≤ s.heap.size) (hW : WB_ wl n) (hB : RBq rl n) (hk : kd n = (0, ci)) (hc : cls[ci]? = some (Cn, T, N)) (hin : ∀ w ∈ u_ws Cn T N, w ∈ lw_gd) (ty0 : Nat → FieldType) (hty : ∀ k, k < N → parseFieldDescriptor (T k).2.2.1 = some (ty0 k))
    (hdv : ∀ j, j < N → defaultValue (ty0 j) = vp_V ((List.range (nf ci)).map (fun j => dv (ft ci j))) j) (w1 : Cond.classLink own idx Cn ∈ lw_gd) (w2 : Cond.instantiable Cn N ∈ lw_gd) (w3 : Cond.initialized Cn ∈ lw_gd) (hcells : cells + 1 ≤ R.cells) (hslots : slots + N ≤ R.slots) (hdg : decode cc pc = .ok (.new idx, 3))
    (kk : ∀ (H1 : Heap), Rp G (mrOf rl) (n + 1) (memOf wl) s H1 locs → W p l e R s mid args below meth c H1 locs (cells + 1) (slots + N) Q (F0 mid (pc + 3) ls (.ref (G.2.1 + n) :: rest))) : W p l e R s mid args below meth c H locs cells slots Q (F0 mid pc ls rest) := by
  refine va_new (T := T) (fs := (List.range (nf ci)).map (fun j => dv (ft ci j))) C.1.1 C.1.2.1 C.1.2.2.2.2 hin ty0 hty C.1.2.2.2.1 (C.1.2.2.2.2 _ w1) (C.1.2.2.2.2 _ w2) (C.1.2.2.2.2 _ w3) C.2.1 hR.1 (wsO_D G (mrOf rl) n (memOf wl)) hR.2 (fun q hq => Nat.le_trans hG hq) hc hdv hcells hslots hdg (fun q H1 hP1 hD1 hS1 => W_top (fun hs => ?_))
  have hq : q = G.2.1 + n := new_at (D := G.1) hP1 hD1 rfl (by omega)
  subst hq
  rw [wsO_app G (mrOf rl) n (memOf wl) (by rw [cellE_obj hk, fv_new hB hW])] at hP1
  exact kk H1 ⟨hP1, hS1⟩
/-- arrays of numbers -/
theorem r_newa {at_ : ArrayType} {ty : FieldType} {N t0 kn : Nat} {i : Int32} {a0 : vp_A} {cG : ClassId} (C : Cx G p l R d s mid args meth c cc nL own) (hR : Rp G (mrOf rl) n (memOf wl) s H locs) (hn : s.heap.size + cells = G.2.1 + n) (hG : G.2.1 ≤ s.heap.size) (hty : newarray.typeOf at_ = ty) (hA : Cond.arrayClass (newarray.typeOf at_) ∈ lw_gd) (ht0 : (tysO G)[t0]? = some (cG, ty)) (hra : ∀ (cA : ClassId) (U : State), va_RA U cA ty = (U.vm.findClass ("[" ++ ty.toString) = some cA))
    (ha : ∀ cA : ClassId, vp_cell cA a0 = arrV cA N (fun _ => defaultValue ty)) (hce : cellE G (mrOf rl) (memOf wl) n = .inl (cG, a0)) (hi : ¬ i < 0 ∧ i.toNatClampNeg = N) (hbytes : N * componentBytes ty ≤ 536870912) (hcells : cells + 1 ≤ R.cells) (hslots : slots + N ≤ R.slots) (hdg : decode cc pc = .ok (.newarray at_, 2))
    (kk : ∀ (H1 : Heap), Rp G (mrOf rl) (n + 1) (memOf wl) s H1 locs → W p l e R s mid args below meth c H1 locs (cells + 1) (slots + N) Q (F0 mid (pc + 2) ls (.ref (G.2.1 + n) :: rest))) : W p l e R s mid args below meth c H locs cells slots Q (F0 mid pc ls (.int i :: rest)) := by
  refine va_newa (a0 := a0) C.1.1 C.1.2.1 (C.1.2.2.2.2 _ hA) hty C.2.1 hR.1 (wsO_D G (mrOf rl) n (memOf wl)) hR.2 (fun q hq => Nat.le_trans hG hq) ha hi.1 hi.2 hbytes hcells hslots hdg (fun q cA H1 hK1 hP1 hD1 hS1 => W_top (fun hs => ?_))
  have hq : q = G.2.1 + n := new_at (D := G.1) hP1 hD1 rfl (by omega)
  have e1 := (C.2.1.2 t0 _ ht0).2
  have e2 := (hK1.2 (tysO G).length (cA, ty) (by simp)).2
  dsimp only at e1 e2
  rw [hra] at e1 e2
  have hcA : cA = cG := Option.some.inj (e2.symm.trans e1)
  subst hq
  subst hcA
  rw [wsO_app G (mrOf rl) n (memOf wl) hce] at hP1
  exact kk H1 ⟨hP1, hS1⟩
theorem r_newi {N : Nat} {i : Int32} (C : Cx G p l R d s mid args meth c cc nL own) (hR : Rp G (mrOf rl) n (memOf wl) s H locs) (hn : s.heap.size + cells = G.2.1 + n) (hG : G.2.1 ≤ s.heap.size) (hW : WB_ wl n) (hk : kd n = (1, N)) (hA : Cond.arrayClass .int ∈ lw_gd) (hi : ¬ i < 0 ∧ i.toNatClampNeg = N) (hbytes : N * 4 ≤ 536870912) (hcells : cells + 1 ≤ R.cells) (hslots : slots + N ≤ R.slots) (hdg : decode cc pc = .ok (.newarray .int, 2))
    (kk : ∀ (H1 : Heap), Rp G (mrOf rl) (n + 1) (memOf wl) s H1 locs → W p l e R s mid args below meth c H1 locs (cells + 1) (slots + N) Q (F0 mid (pc + 2) ls (.ref (G.2.1 + n) :: rest))) : W p l e R s mid args below meth c H locs cells slots Q (F0 mid pc ls (.int i :: rest)) :=
  r_newa (at_ := .int) (ty := .int) (t0 := 0) (kn := 1) (a0 := (N, .inl (fun _ => 0))) C hR hn hG rfl hA rfl (fun _ _ => rfl) (fun _ => rfl) (by rw [cellE_ia hk, hW.zero.1]) hi hbytes hcells hslots hdg kk
theorem r_newl {N : Nat} {i : Int32} (C : Cx G p l R d s mid args meth c cc nL own) (hR : Rp G (mrOf rl) n (memOf wl) s H locs) (hn : s.heap.size + cells = G.2.1 + n) (hG : G.2.1 ≤ s.heap.size) (hW : WB_ wl n) (hk : kd n = (2, N)) (hA : Cond.arrayClass .long ∈ lw_gd) (hi : ¬ i < 0 ∧ i.toNatClampNeg = N) (hbytes : N * 8 ≤ 536870912) (hcells : cells + 1 ≤ R.cells) (hslots : slots + N ≤ R.slots) (hdg : decode cc pc = .ok (.newarray .long, 2))
    (kk : ∀ (H1 : Heap), Rp G (mrOf rl) (n + 1) (memOf wl) s H1 locs → W p l e R s mid args below meth c H1 locs (cells + 1) (slots + N) Q (F0 mid (pc + 2) ls (.ref (G.2.1 + n) :: rest))) : W p l e R s mid args below meth c H locs cells slots Q (F0 mid pc ls (.int i :: rest)) :=
  r_newa (at_ := .long) (ty := .long) (t0 := 1) (kn := 2) (a0 := (N, .inr (.inl (fun _ => 0)))) C hR hn hG rfl hA rfl (fun _ _ => rfl) (fun _ => rfl) (by rw [cellE_la hk, hW.zero.2.1]) hi hbytes hcells hslots hdg kk
theorem r_newb {N : Nat} {i : Int32} (C : Cx G p l R d s mid args meth c cc nL own) (hR : Rp G (mrOf rl) n (memOf wl) s H locs) (hn : s.heap.size + cells = G.2.1 + n) (hG : G.2.1 ≤ s.heap.size) (hW : WB_ wl n) (hk : kd n = (3, N)) (hA : Cond.arrayClass .byte ∈ lw_gd) (hi : ¬ i < 0 ∧ i.toNatClampNeg = N) (hbytes : N * 1 ≤ 536870912) (hcells : cells + 1 ≤ R.cells) (hslots : slots + N ≤ R.slots) (hdg : decode cc pc = .ok (.newarray .byte, 2))
    (kk : ∀ (H1 : Heap), Rp G (mrOf rl) (n + 1) (memOf wl) s H1 locs → W p l e R s mid args below meth c H1 locs (cells + 1) (slots + N) Q (F0 mid (pc + 2) ls (.ref (G.2.1 + n) :: rest))) : W p l e R s mid args below meth c H locs cells slots Q (F0 mid pc ls (.int i :: rest)) :=
  r_newa (at_ := .byte) (ty := .byte) (t0 := 2) (kn := 3) (a0 := (N, .inl (fun _ => 0))) C hR hn hG rfl hA rfl (fun _ _ => rfl) (fun _ => rfl) (by rw [cellE_ba hk, hW.zero.1]) hi hbytes hcells hslots hdg kk
/-- the ring's array -/
theorem r_newq {N idx : Nat} {i : Int32} (C : Cx G p l R d s mid args meth c cc nL own) (hR : Rp G (mrOf rl) n (memOf wl) s H locs) (hAO : va_AO "TossGround$Match" s) (hn : s.heap.size + cells = G.2.1 + n) (hG : G.2.1 ≤ s.heap.size) (hB : RBq rl n) (hk : kd n = (4, N)) (w1 : Cond.classLink own idx "TossGround$Match" ∈ lw_gd) (hi : ¬ i < 0 ∧ i.toNatClampNeg = N) (hbytes : N * 4 ≤ 536870912) (hcells : cells + 1 ≤ R.cells) (hslots : slots + N ≤ R.slots) (hdg : decode cc pc = .ok (.anewarray idx, 3))
    (kk : ∀ (H1 : Heap), Rp G (mrOf rl) (n + 1) (memOf wl) s H1 locs → W p l e R s mid args below meth c H1 locs (cells + 1) (slots + N) Q (F0 mid (pc + 3) ls (.ref (G.2.1 + n) :: rest))) : W p l e R s mid args below meth c H locs cells slots Q (F0 mid pc ls (.int i :: rest)) := by
  refine va_newq C.1.1 C.1.2.1 C.1.2.2.2.1 (C.1.2.2.2.2 _ w1) hAO C.2.1 hR.1 (wsO_D G (mrOf rl) n (memOf wl)) hR.2 (fun q hq => Nat.le_trans hG hq) hi.1 hi.2 hbytes hcells hslots hdg (fun q cA H1 hK1 hP1 hD1 hS1 => W_top (fun hs => ?_))
  have hq : q = G.2.1 + n := new_at (D := G.1) hP1 hD1 rfl (by omega)
  obtain ⟨k1, c1, a1, a2, a3, e1⟩ := (C.2.1.2 3 _ rfl).2
  obtain ⟨k2, c2, b1, b2, b3, e2⟩ := (hK1.2 (tysO G).length (cA, .object "TossGround$Match") (by simp)).2
  have hcA : cA = G.2.2.2.2.2.1 := Option.some.inj (e2.symm.trans e1)
  subst hq
  subst hcA
  rw [wsO_app G (mrOf rl) n (memOf wl) (by rw [cellE_ra hk, hB.at_]; rfl)] at hP1
  exact kk H1 ⟨hP1, hS1⟩
theorem mrOf_ne {o j k i : Nat} (h : i ≠ o) : mrOf ((o, j, k) :: rl) i = mrOf rl i := by
  funext j'
  show (if i = o ∧ j' = j then some k else mrOf rl i j') = mrOf rl i j'
  rw [if_neg (fun e => h e.1)]
theorem mrOf_eq {o j k : Nat} : mrOf ((o, j, k) :: rl) o j = some k := by
  show (if o = o ∧ j = j then some k else mrOf rl o j) = some k
  rw [if_pos ⟨rfl, rfl⟩]
theorem fv_mr_ne {b o j k ci : Nat} : ∀ i, i ≠ j → fv b (mrOf ((o, j, k) :: rl)) mem o ci i = fv b (mrOf rl) mem o ci i := fun i h => by
  have e : mrOf ((o, j, k) :: rl) o i = mrOf rl o i := by
    show (if o = o ∧ i = j then some k else mrOf rl o i) = mrOf rl o i
    rw [if_neg (fun e => h e.2)]
  simp only [fv, e]
/-- a reference into a final field -/
theorem r_putR {o k ci j : Nat} {Cn : String} {T : u_T} {N idx : Nat} {ref : String} (C : Cx G p l R d s mid args meth c cc nL own) (hnm2 : meth.name = "<init>") (hR : Rp G (mrOf rl) n mem s H locs) (hob : o < n ∧ kd o = (0, ci)) (hc : cls[ci]? = some (Cn, T, N)) (hin : ∀ w ∈ u_ws Cn T N, w ∈ lw_gd) (ty0 : Nat → FieldType) (hty : ∀ k, k < N → parseFieldDescriptor (T k).2.2.1 = some (ty0 k)) (hnm : ∀ a, a < N → ∀ b, b < N → a ≠ b → (T a).2.1 ≠ (T b).2.1)
    (hj : j < nf ci) (hN : j < N) (h3 : ft ci j = 3) (hlink : Cond.fieldLink own idx ref (T j).2.1 (T j).2.2.1 ∈ lw_gd) (hsame : ∀ x, s.fieldFound? (T j).1 (T j).2.1 (T j).2.2.1 = some x → s.fieldFound? ref (T j).2.1 (T j).2.2.1 = some x) (hfin : (T j).2.2.2 = true) (hdecl : (T j).1 = own) {ty : FieldType} (hd : parseFieldDescriptor (T j).2.2.1 = some ty) (hn : narrow ty (.ref (G.2.1 + k)) = .ref (G.2.1 + k)) (hfit : fits ty (.ref (G.2.1 + k)) = true) (hdg : decode cc pc = .ok (.putfield idx, 3))
    (kk : ∀ (H : Heap) (locs : List Loc), Rp G (mrOf ((o, j, k) :: rl)) n mem s H locs → W p l e R s mid args below meth c H locs cells slots Q (F0 mid (pc + 3) ls rest)) : W p l e R s mid args below meth c H locs cells slots Q (F0 mid pc ls (.ref (G.2.1 + k) :: .ref (G.2.1 + o) :: rest)) := by
  refine va_putF (D := G.1) (ci := ci) (v := .ref (G.2.1 + k)) (ty := ty) (C := Cn) (T := T) (N := N) C.1.1 C.1.2.1 C.1.2.2.2.2 hin ty0 hty hnm C.1.2.2.2.1 C.2.1 hR.1 (wsO_D G (mrOf rl) n mem) hR.2 o (by rw [wsO_at G (mrOf rl) mem hob.1, cellE_obj hob.2]) hc j hN (C.1.2.2.2.2 _ hlink) hsame hfin hnm2 hdecl hd hn hfit (by simpa using hj) hdg (fun H1 locs1 hP1 _ hS1 => ?_)
  have hm2 : ∀ i, i ≠ j → fv G.2.1 (mrOf ((o, j, k) :: rl)) mem o ci i = fv G.2.1 (mrOf rl) mem o ci i := fv_mr_ne
  have hm3 : fv G.2.1 (mrOf ((o, j, k) :: rl)) mem o ci j = .ref (G.2.1 + k) := fv_R h3 mrOf_eq
  rw [wsO_set (mr' := mrOf ((o, j, k) :: rl)) (m' := mem) hob.1 (fun i hi => cellE_congr rfl rfl rfl (mrOf_ne hi)) (by rw [cellE_obj hob.2, map_set hj hm2 hm3])] at hP1
  exact kk H1 locs1 ⟨hP1, hS1⟩
/-- a reference into the ring -/
theorem r_aastR {o k N : Nat} {i : Int32} {j : Nat} (C : Cx G p l R d s mid args meth c cc nL own) (hR : Rp G (mrOf rl) n mem s H locs) (hob : o < n ∧ kd o = (4, N)) (hok : k < n ∧ kd k = (0, 5)) (hi : inb i N = true) (hij : i.toNatClampNeg = j) (hdg : decode cc pc = .ok (.aastore, 1))
    (kk : ∀ (H : Heap) (locs : List Loc), Rp G (mrOf ((o, j, k) :: rl)) n mem s H locs → W p l e R s mid args below meth c H locs cells slots Q (F0 mid (pc + 1) ls rest)) : W p l e R s mid args below meth c H locs cells slots Q (F0 mid pc ls (.ref (G.2.1 + k) :: .int i :: .ref (G.2.1 + o) :: rest)) := by
  refine va_astq (r := (RX5, TX5, 11)) C.1.1 C.1.2.1 C.2.1 hR.1 (wsO_D G (mrOf rl) n mem) hR.2 o 3 k 5 (by rw [wsO_at G (mrOf rl) mem hob.1, cellE_ra hob.2]) rfl (by rw [wsO_at G (mrOf rl) mem hok.1, cellE_obj hok.2]) rfl (inb_in hi) hdg (fun H1 locs1 hP1 _ hS1 => ?_)
  rw [hij] at hP1
  rw [wsO_set (mr' := mrOf ((o, j, k) :: rl)) (m' := mem) hob.1 (fun i hi => cellE_congr rfl rfl rfl (mrOf_ne hi)) (by
    rw [cellE_ra hob.2]
    congr 7
    funext q
    by_cases hq : q = j
    · subst hq
      rw [mrOf_eq]
      simp [va_up]
    · have e : mrOf ((o, j, k) :: rl) o q = mrOf rl o q := by
        show (if o = o ∧ q = j then some k else mrOf rl o q) = mrOf rl o q
        rw [if_neg (fun e => hq e.2)]
      rw [e]
      simp [va_up, hq])] at hP1
  exact kk H1 locs1 ⟨hP1, hS1⟩
/-- the contract of a constructor -/
def Kc (l : Launch) (G : GG) (y : MethodName) (bytes : ByteArray) (maxL d nc ns o n : Nat) (rl : RL_) (wl : WL_) (rl' : RL_) (wl' : WL_) : Prop :=
  Met l y (Cond.code y bytes maxL none :: lw_gd) ({ frames := d, cells := nc, slots := ns, locals := 40 * d } : Room) (va_Pc [.ref (G.2.1 + o)] (fun U => RS G (mrOf rl) n (memOf wl) U ∧ U.heap.size = G.2.1 + n ∧ va_AO "TossGround$Match" U)) (QR G (mrOf rl') (n + nc) none (memOf wl')) nc ns (fun q => G.2.1 ≤ q)
theorem Kc_of {y : MethodName} {bytes : ByteArray} {maxL nc ns o : Nat} (hl : l.stackTraces = false) (hy : plainName y.cls = true) (hlen : 1 ≤ maxL) (hyn : y.name = "<init>")
    (body : ∀ (p : Program) (e : Env) (s : State) (mid : MethodId) (args : Array Value) (below : List Frame) (meth : Method) (c : Code) (ls : Array Slot), Cx G p l ({ frames := d, cells := nc, slots := ns, locals := 40 * d } : Room) d s mid args meth c bytes maxL y.cls → meth.name = "<init>" → s.heap.size = G.2.1 + n → G.2.1 ≤ s.heap.size → va_AO "TossGround$Match" s → meth.sig.returnType = none → lv_has ls maxL [(0, .ref (G.2.1 + o))] → Rp G (mrOf rl) n (memOf wl) s s.heap [] → W p l e ({ frames := d, cells := nc, slots := ns, locals := 40 * d } : Room) s mid args below meth c s.heap [] 0 0 (MQ below (QR G (mrOf rl') (n + nc) none (memOf wl')) args s nc ns (fun q => G.2.1 ≤ q)) (F0 mid 0 ls [])) :
    Kc l G y bytes maxL d nc ns o n rl wl rl' wl' := by
  refine Met.ofW (cc := bytes) (maxL := maxL) (ret := none) hy rfl ?_
  intro p e s m args below meth c s₁ B hml hv
  obtain ⟨rfl, ⟨hP, hK, hb, hE⟩, hz, hao⟩ := hv
  have hts := atoms_spec (ws := Cond.code y bytes maxL none :: lw_gd) B.pre
  rw [lg_entry_eq]
  exact body p e s m _ below meth c _ ⟨⟨B.exec, B.bytes, hml, findClass_of_methodNamed B.named, fun w hw => hts w (List.mem_cons_of_mem _ hw)⟩, hK, hb, hE, B.notSynchronized, ⟨Nat.le_refl _, Nat.le_refl _⟩, hl⟩ ((name_of_methodNamed B.named B.method).1.trans hyn) hz hb hao B.returns (lv_entry [.ref (G.2.1 + o)] hlen) ⟨hP, va_S.rf⟩
theorem k_ret (C : Cx G p l R d s mid args meth c cc nL own) (hr : meth.sig.returnType = none) (hR : Rp G mr n mem s H locs) (hdg : decode cc pc = .ok (.return_, 1)) : W p l e R s mid args below meth c H locs cells slots (MQ below (QR G mr n none mem) args s cells slots (fun q => G.2.1 ≤ q)) (F0 mid pc ls []) := r_vret C hr hR hdg
/-- behind the call of a constructor -/
theorem k_after {nc ns n' : Nat} {mr' : MR} {mem2 : Mem} {a : Array Value} {st0 : List Value} (hR : Rp G mr n mem s H locs) (hr : va_Run p l e R s mid args below meth c H locs cells slots nc ns (F0 mid pc ls st0) rest (QR G mr' n' none mem2 a) (fun q => G.2.1 ≤ q))
    (kk : ∀ (H : Heap) (locs : List Loc), Rp G mr' n' mem2 s H locs → W p l e R s mid args below meth c H locs (cells + nc) (slots + ns) Q (F0 mid (pc + 3) ls rest)) : W p l e R s mid args below meth c H locs cells slots Q (F0 mid pc ls st0) := by
  intro T hT X
  obtain ⟨v, st₀, t, T', L, h0, X', hL, e1, e2, ⟨hv, hP, hF⟩, st⟩ := hr T hT X
  cases hv
  obtain ⟨t2, a1, b1⟩ := kk T'.heap (locs ++ L) ⟨by rw [e1]; exact hP, (vx_keep h0 e1 hR.2 (fun _ _ h => h) (fun _ h => h) hL hF).2.2⟩ T' rfl X'
  exact ⟨t2, st t2 a1, b1⟩
theorem k_room {dz nc ns maxL : Nat} (C : Cx G p l R d s mid args meth c cc nL own) (hd : dz + 1 ≤ d) (hmx : maxL ≤ 21) : ({ frames := dz, cells := nc, slots := ns, locals := 40 * dz } : Room).frames + 1 ≤ R.frames ∧ 8 + (maxL + 11) + ({ frames := dz, cells := nc, slots := ns, locals := 40 * dz } : Room).locals ≤ R.locals := room_of C hd hmx
theorem k_size {n o : Nat} (hR : Rp G mr n mem s H locs) (ho : o < n) (hs : H.size ≤ G.2.1 + n) : H.size = G.2.1 + n := by
  have h1 : G.2.1 + (n - 1) < H.size := (hR.1 (n - 1) _ (wsO_at G mr mem (show n - 1 < n by omega))).lt
  omega
def WK (own : String) (idx : Nat) (y : MethodName) (bytes : ByteArray) (maxL : Nat) : Prop := WB own idx y bytes maxL none 0 ∧ y.name = "<init>" ∧ Cond.instanceMethod y ∈ lw_gd
def WKN (own : String) (idx : Nat) (y : MethodName) (bytes : ByteArray) (maxL : Nat) : Prop := (own, idx, y, "TossGround") ∈ nestL ∧ Cond.initialized y.cls ∈ lw_gd ∧ Cond.code y bytes maxL none ∈ lw_gd ∧ y.cls ≠ "java/lang/invoke/MethodHandle" ∧ y.cls ≠ "java/lang/invoke/VarHandle" ∧ (parseMethodDescriptor y.desc).map (fun d => d.parameters.length) = some 0 ∧ y.name = "<init>" ∧ Cond.instanceMethod y ∈ lw_gd
theorem r_callK {idx maxL dz nc ns o : Nat} {y : MethodName} {bytes : ByteArray} (C : Cx G p l R d s mid args meth c cc nL own) (hAO : va_AO "TossGround$Match" s) (hR : Rp G (mrOf rl) n (memOf wl) s H locs) (hn : s.heap.size + cells = G.2.1 + n) (hM : Kc l G y bytes maxL dz nc ns o n rl wl rl' wl') (ho : o < n) (hd : dz + 1 ≤ d) (hmx : maxL ≤ 21) (w : WK own idx y bytes maxL) (hcat : (rest.map fun v => v.category).sum ≤ 8) (hsz : ls.size = nL) (hcs : cells + nc ≤ R.cells ∧ slots + ns ≤ R.slots) (hdg : decode cc pc = .ok (.invokespecial idx, 3))
    (kk : ∀ (H : Heap) (locs : List Loc), Rp G (mrOf rl') (n + nc) (memOf wl') s H locs → W p l e R s mid args below meth c H locs (cells + nc) (slots + ns) Q (F0 mid (pc + 3) ls rest)) : W p l e R s mid args below meth c H locs cells slots Q (F0 mid pc ls (.ref (G.2.1 + o) :: rest)) :=
  W_top (fun hs => k_after hR (va_runI (As := []) (rest := rest) C.1 hM (cwI 0 C.1.2.2.2.2 (GoodIn_gd0 _ w.1.2.2.1) rfl rfl rfl (C.1.2.2.2.2 _ w.1.2.1) (C.1.2.2.2.2 _ w.1.1) (C.1.2.2.2.2 _ w.2.2) w.2.1 ⟨w.1.2.2.2.1, w.1.2.2.2.2.1, w.1.2.2.2.2.2⟩ (k_room C hd hmx)) ⟨fun a U g mk q => ⟨q.1, q.2.1.calling g mk a, q.2.2.1, va_AO.moved (u := U) (U := U.calling g mk a) (Vm.Alike.refl U.vm) q.2.2.2⟩, fun U hU hW => ⟨rfl, PreRS C hR U hU hW, by rw [hU]; exact k_size hR ho (by omega), va_AO.moved hW.alike hAO⟩⟩ rfl rfl hsz rfl (lv_room hcat) hdg hcs) kk)
theorem r_callKN {idx maxL dz nc ns o : Nat} {y : MethodName} {bytes : ByteArray} (C : Cx G p l R d s mid args meth c cc nL own) (hAO : va_AO "TossGround$Match" s) (hR : Rp G (mrOf rl) n (memOf wl) s H locs) (hn : s.heap.size + cells = G.2.1 + n) (hM : Kc l G y bytes maxL dz nc ns o n rl wl rl' wl') (ho : o < n) (hd : dz + 1 ≤ d) (hmx : maxL ≤ 21) (w : WKN own idx y bytes maxL) (hcat : (rest.map fun v => v.category).sum ≤ 8) (hsz : ls.size = nL) (hcs : cells + nc ≤ R.cells ∧ slots + ns ≤ R.slots) (hdg : decode cc pc = .ok (.invokespecial idx, 3))
    (kk : ∀ (H : Heap) (locs : List Loc), Rp G (mrOf rl') (n + nc) (memOf wl') s H locs → W p l e R s mid args below meth c H locs (cells + nc) (slots + ns) Q (F0 mid (pc + 3) ls rest)) : W p l e R s mid args below meth c H locs cells slots Q (F0 mid pc ls (.ref (G.2.1 + o) :: rest)) :=
  W_top (fun hs => k_after hR (va_runIN (As := []) (rest := rest) C.1 hM ⟨va_cnB 0 C.1.2.2.2.2 (GoodIn_gd0 _ w.2.2.1) rfl rfl rfl (C.2.2.2.1.2.2.2.1 _ w.1) (C.1.2.2.2.2 _ w.2.1) ⟨w.2.2.2.1, w.2.2.2.2.1, w.2.2.2.2.2.1⟩ (k_room C hd hmx), w.2.2.2.2.2.2.1, C.1.2.2.2.2 _ w.2.2.2.2.2.2.2⟩ ⟨fun a U g mk q => ⟨q.1, q.2.1.calling g mk a, q.2.2.1, va_AO.moved (u := U) (U := U.calling g mk a) (Vm.Alike.refl U.vm) q.2.2.2⟩, fun U hU hW => ⟨rfl, PreRS C hR U hU hW, by rw [hU]; exact k_size hR ho (by omega), va_AO.moved hW.alike hAO⟩⟩ rfl rfl hsz rfl (lv_room hcat) hdg hcs) kk)
theorem k_I {o j : Nat} {x : Int32} (hR : Rp G mr n (sI (memOf wl) o j x) s H locs) : Rp G mr n (memOf ((o, j, .inl x) :: wl)) s H locs := hR
theorem k_L {o j : Nat} {x : Int64} (hR : Rp G mr n (sL (memOf wl) o j x) s H locs) : Rp G mr n (memOf ((o, j, .inr (.inl x)) :: wl)) s H locs := hR
theorem k_Z {o j : Nat} {x : Bool} (hR : Rp G mr n (sZ (memOf wl) o j x) s H locs) : Rp G mr n (memOf ((o, j, .inr (.inr x)) :: wl)) s H locs := hR
theorem k_at {n' : Nat} (hR : Rp G mr n mem s H locs) (h : n = n') : Rp G mr n' mem s H locs := by subst h; exact hR
theorem k_top {x v : Int32} (h : v = x) (k : W p l e R s mid args below meth c H locs cells slots Q (F0 mid pc ls (.int x :: rest))) : W p l e R s mid args below meth c H locs cells slots Q (F0 mid pc ls (.int v :: rest)) := by subst h; exact k
theorem k_iast {o N j : Nat} {i x : Int32} (C : Cx G p l R d s mid args meth c cc nL own) (hR : Rp G mr n (memOf wl) s H locs) (hob : o < n ∧ kd o = (1, N)) (hi : inb i N = true) (hij : i.toNatClampNeg = j) (hdg : decode cc pc = .ok (.iastore, 1))
    (kk : ∀ (H : Heap) (locs : List Loc), Rp G mr n (memOf ((o, j, .inl x) :: wl)) s H locs → W p l e R s mid args below meth c H locs cells slots Q (F0 mid (pc + 1) ls rest)) : W p l e R s mid args below meth c H locs cells slots Q (F0 mid pc ls (.int x :: .int i :: .ref (G.2.1 + o) :: rest)) := by
  subst hij
  exact r_iast C hR hob hi hdg kk
theorem k_cells {k n' : Nat} {g : JFrame} (h1 : cells = k) (h2 : slots = n') (kk : W p l e R s mid args below meth c H locs k n' Q g) : W p l e R s mid args below meth c H locs cells slots Q g := by subst h1; subst h2; exact kk
theorem k_obj {o idx : Nat} (C : Cx G p l R d s mid args meth c cc nL own) (w1 : Cond.methodLink own idx Lib.objectInit ∈ lw_gd) (w2 : Cond.instanceMethod Lib.objectInit ∈ lw_gd) (w3 : Cond.code Lib.objectInit ⟨#[0xb1]⟩ 1 none ∈ lw_gd) (hd : 1 ≤ d) (hsz : ls.size = nL) (hdg : decode cc pc = .ok (.invokespecial idx, 3)) (kk : W p l e R s mid args below meth c H locs cells slots Q (F0 mid (pc + 3) ls [])) : W p l e R s mid args below meth c H locs cells slots Q (F0 mid pc ls [.ref (G.2.1 + o)]) :=
  W.objInit (rest := []) C.1.1 C.1.2.1 C.1.2.2.2.1 (C.1.2.2.2.2 _ w1) (C.1.2.2.2.2 _ w2) (C.1.2.2.2.2 _ w3) rfl (hsz.trans C.1.2.2.1.symm) rfl hdg (Nat.le_trans hd C.2.2.2.2.2.1.1) (by
    have := C.2.2.2.2.2.1.2
    show 2 * 0 + 0 + 12 ≤ R.locals
    omega) kk
end CROW
