section ROWS
/-! ===== rows over the memory ===== -/
def rmD (d : Nat) : Room := { frames := d, cells := 0, slots := 0, locals := 40 * d }
/-- what is fixed while a method runs -/
def Cx (G : GG) (p : Program) (l : Launch) (R : Room) (d : Nat) (s : State) (mid : MethodId) (args : Array Value) (meth : Method) (c : Code) (cc : ByteArray) (nL : Nat) (own : String) : Prop :=
  CallFix p mid c cc nL s args lw_gd own ∧ va_K G.1 cls (tysO G) s ∧ G.2.1 ≤ s.heap.size ∧ EX G.2.1 G.2.2.2.2.2.2 s ∧ meth.locks = false ∧ (d ≤ R.frames ∧ 40 * d ≤ R.locals) ∧ l.stackTraces = false
/-- the memory now -/
def Rp (G : GG) (mr : MR) (n : Nat) (mem : Mem) (s : State) (H : Heap) (locs : List Loc) : Prop := va_P G.1 cls (wsO G mr n mem) H ∧ va_S (fun q => G.2.1 ≤ q) s.heap H locs
def QR (G : GG) (mr : MR) (n : Nat) (r : Option Value) (mem : Mem) : Array Value → State → Outcome → State → Prop := fun _ st o t => o = .returned r ∧ va_P G.1 cls (wsO G mr n mem) t.heap ∧ va_F (fun q => G.2.1 ≤ q) st t
/-- A CONTRACT: called with av where mem stands, it answers r, and mem' stands -/
def Ct (l : Launch) (G : GG) (mr : MR) (n : Nat) (y : MethodName) (bytes : ByteArray) (maxL : Nat) (ret : Option FieldType) (d : Nat) (av : List Value) (mem : Mem) (r : Option Value) (mem' : Mem) : Prop :=
  Met l y (Cond.code y bytes maxL ret :: lw_gd) (rmD d) (va_Pc av (RS G mr n mem)) (QR G mr n r mem') 0 0 (fun q => G.2.1 ≤ q)
variable {G : GG} {mr : MR} {n : Nat} {mem mem' : Mem} {p : Program} {l : Launch} {e : Env} {R : Room} {d : Nat} {s : State} {mid : MethodId} {args : Array Value} {below : List Frame} {meth : Method} {c : Code} {H : Heap} {locs : List Loc} {cells slots : Nat} {Q : State → Prop} {cc : ByteArray} {nL : Nat} {own : String} {pc : Nat} {ls : Array Slot} {rest : List Value}
theorem Ct_of {y : MethodName} {bytes : ByteArray} {maxL : Nat} {ret : Option FieldType} {av : List Value} {r : Option Value} (hl : l.stackTraces = false) (hy : plainName y.cls = true) (hlen : (lg_sl av).length ≤ maxL)
    (body : ∀ (p : Program) (e : Env) (s : State) (mid : MethodId) (args : Array Value) (below : List Frame) (meth : Method) (c : Code) (ls : Array Slot), Cx G p l (rmD d) d s mid args meth c bytes maxL y.cls → meth.sig.returnType = ret → lv_has ls maxL (lv_args 0 av) → Rp G mr n mem s s.heap [] → W p l e (rmD d) s mid args below meth c s.heap [] 0 0 (MQ below (QR G mr n r mem') args s 0 0 (fun q => G.2.1 ≤ q)) (F0 mid 0 ls [])) :
    Ct l G mr n y bytes maxL ret d av mem r mem' := by
  refine Met.ofW (cc := bytes) (maxL := maxL) (ret := ret) hy rfl ?_
  intro p e s m args below meth c s₁ B hml hv
  obtain ⟨rfl, hP, hK, hb, hE⟩ := hv
  have hts := atoms_spec (ws := Cond.code y bytes maxL ret :: lw_gd) B.pre
  rw [lg_entry_eq]
  exact body p e s m _ below meth c _ ⟨⟨B.exec, B.bytes, hml, findClass_of_methodNamed B.named, fun w hw => hts w (List.mem_cons_of_mem _ hw)⟩, hK, hb, hE, B.notSynchronized, ⟨Nat.le_refl _, Nat.le_refl _⟩, hl⟩ B.returns (lv_entry av hlen) ⟨hP, va_S.rf⟩
theorem PreRS (C : Cx G p l R d s mid args meth c cc nL own) (hR : Rp G mr n mem s H locs) : ∀ U : State, U.heap = H → s.WarmedH U.vm → RS G mr n mem U := fun U hU hW =>
  ⟨by rw [hU]; exact hR.1, va_K.moved hW.alike C.2.1, by rw [hU]; exact Nat.le_trans C.2.2.1 hR.2.1, C.2.2.2.1.warm hW (fun a h1 h2 => by rw [hU]; exact hR.2.2.1 a h1 h2)⟩
/-! fields -/
theorem r_get {o ci j : Nat} {Cn : String} {T : u_T} {N idx : Nat} {ref : String} (C : Cx G p l R d s mid args meth c cc nL own) (hR : Rp G mr n mem s H locs) (hob : o < n ∧ kd o = (0, ci)) (hc : cls[ci]? = some (Cn, T, N)) (hin : ∀ w ∈ u_ws Cn T N, w ∈ lw_gd) (hj : j < nf ci) (hN : j < N)
    (hlink : Cond.fieldLink own idx ref (T j).2.1 (T j).2.2.1 ∈ lw_gd) (hsame : ∀ x, s.fieldFound? (T j).1 (T j).2.1 (T j).2.2.1 = some x → s.fieldFound? ref (T j).2.1 (T j).2.2.1 = some x) {v : Value} (hv : fv G.2.1 mr mem o ci j = v) (hdg : decode cc pc = .ok (.getfield idx, 3))
    (kk : W p l e R s mid args below meth c H locs cells slots Q (F0 mid (pc + 3) ls (v :: rest))) : W p l e R s mid args below meth c H locs cells slots Q (F0 mid pc ls (.ref (G.2.1 + o) :: rest)) :=
  va_get (D := G.1) (ci := ci) (C := Cn) (T := T) (N := N) C.1.1 C.1.2.1 C.1.2.2.2.2 hin C.1.2.2.2.1 C.2.1 hR.1 o (by rw [wsO_at G mr mem hob.1, cellE_obj hob.2]) hc j hN (C.1.2.2.2.2 _ hlink) hsame (by rw [List.getElem?_map, List.getElem?_range hj]; simp only [Option.map_some, hv]) hdg kk
theorem r_put {o ci j : Nat} {Cn : String} {T : u_T} {N idx : Nat} {ref : String} (C : Cx G p l R d s mid args meth c cc nL own) (hR : Rp G mr n mem s H locs) (hob : o < n ∧ kd o = (0, ci)) (hc : cls[ci]? = some (Cn, T, N)) (hin : ∀ w ∈ u_ws Cn T N, w ∈ lw_gd) (ty0 : Nat → FieldType) (hty : ∀ k, k < N → parseFieldDescriptor (T k).2.2.1 = some (ty0 k)) (hnm : ∀ a, a < N → ∀ b, b < N → a ≠ b → (T a).2.1 ≠ (T b).2.1)
    (hj : j < nf ci) (hN : j < N) (hlink : Cond.fieldLink own idx ref (T j).2.1 (T j).2.2.1 ∈ lw_gd) (hsame : ∀ x, s.fieldFound? (T j).1 (T j).2.1 (T j).2.2.1 = some x → s.fieldFound? ref (T j).2.1 (T j).2.2.1 = some x) (hfin : (T j).2.2.2 = false) {ty : FieldType} {v : Value} (hd : parseFieldDescriptor (T j).2.2.1 = some ty) (hn : narrow ty v = v) (hfit : fits ty v = true)
    (hm : ∀ i, i ≠ o → cellE G mr mem' i = cellE G mr mem i) (hm2 : ∀ i, i ≠ j → fv G.2.1 mr mem' o ci i = fv G.2.1 mr mem o ci i) (hm3 : fv G.2.1 mr mem' o ci j = v) (hdg : decode cc pc = .ok (.putfield idx, 3))
    (kk : ∀ (H : Heap) (locs : List Loc), Rp G mr n mem' s H locs → W p l e R s mid args below meth c H locs cells slots Q (F0 mid (pc + 3) ls rest)) : W p l e R s mid args below meth c H locs cells slots Q (F0 mid pc ls (v :: .ref (G.2.1 + o) :: rest)) := by
  refine va_put (D := G.1) (ci := ci) (v := v) (ty := ty) (C := Cn) (T := T) (N := N) C.1.1 C.1.2.1 C.1.2.2.2.2 hin ty0 hty hnm C.1.2.2.2.1 C.2.1 hR.1 (wsO_D G mr n mem) hR.2 o (by rw [wsO_at G mr mem hob.1, cellE_obj hob.2]) hc j hN (C.1.2.2.2.2 _ hlink) hsame hfin hd hn hfit (by simpa using hj) hdg (fun H1 locs1 hP1 _ hS1 => ?_)
  rw [wsO_set hob.1 hm (by rw [cellE_obj hob.2, map_set hj hm2 hm3])] at hP1
  exact kk H1 locs1 ⟨hP1, hS1⟩
theorem fv_sI_ne {b : Nat} {o ci j : Nat} {x : Int32} : ∀ i, i ≠ j → fv b mr (sI mem o j x) o ci i = fv b mr mem o ci i := fun i h => by
  have e : gI (sI mem o j x) o i = gI mem o i := by simp [gI, sI, u2, h]
  simp only [fv, e]; rfl
theorem fv_sL_ne {b : Nat} {o ci j : Nat} {x : Int64} : ∀ i, i ≠ j → fv b mr (sL mem o j x) o ci i = fv b mr mem o ci i := fun i h => by
  have e : gL (sL mem o j x) o i = gL mem o i := by simp [gL, sL, u2, h]
  simp only [fv, e]; rfl
theorem fv_sZ_ne {b : Nat} {o ci j : Nat} {x : Bool} : ∀ i, i ≠ j → fv b mr (sZ mem o j x) o ci i = fv b mr mem o ci i := fun i h => by
  have e : gZ (sZ mem o j x) o i = gZ mem o i := by simp [gZ, sZ, u2, h]
  simp only [fv, e]; rfl
theorem fv_sI {b : Nat} {o ci j : Nat} {x : Int32} (h : ft ci j = 0) : fv b mr (sI mem o j x) o ci j = .int x := by simp [fv, h, gI, sI, u2]
theorem fv_sL {b : Nat} {o ci j : Nat} {x : Int64} (h : ft ci j = 1) : fv b mr (sL mem o j x) o ci j = .long x := by simp [fv, h, gL, sL, u2]
theorem fv_sZ {b : Nat} {o ci j : Nat} {x : Bool} (h : ft ci j = 2) : fv b mr (sZ mem o j x) o ci j = .int (b2i x) := by simp [fv, h, gZ, sZ, u2]
theorem fv_I {b : Nat} {o ci j : Nat} (h : ft ci j = 0) : fv b mr mem o ci j = .int (gI mem o j) := by simp [fv, h]
theorem fv_L {b : Nat} {o ci j : Nat} (h : ft ci j = 1) : fv b mr mem o ci j = .long (gL mem o j) := by simp [fv, h]
theorem fv_Z {b : Nat} {o ci j : Nat} (h : ft ci j = 2) : fv b mr mem o ci j = .int (b2i (gZ mem o j)) := by simp [fv, h]
theorem fv_R {b : Nat} {o ci j k : Nat} (h : ft ci j = 3) (hk : mr o j = some k) : fv b mr mem o ci j = .ref (b + k) := by simp [fv, h, hk, rfv, va_rf]
theorem nar_Z (z : Bool) : narrow .boolean (.int (b2i z)) = .int (b2i z) := by cases z <;> rfl
theorem fit_Z (z : Bool) : fits .boolean (.int (b2i z)) = true := by cases z <;> rfl
/-! arrays -/
theorem r_iald {o N : Nat} {i : Int32} (C : Cx G p l R d s mid args meth c cc nL own) (hR : Rp G mr n mem s H locs) (hob : o < n ∧ kd o = (1, N)) (hi : inb i N = true) (hdg : decode cc pc = .ok (.iaload, 1))
    (kk : W p l e R s mid args below meth c H locs cells slots Q (F0 mid (pc + 1) ls (.int (gI mem o i.toNatClampNeg) :: rest))) : W p l e R s mid args below meth c H locs cells slots Q (F0 mid pc ls (.int i :: .ref (G.2.1 + o) :: rest)) :=
  va_iald C.1.1 C.1.2.1 C.2.1 hR.1 o 0 (by rw [wsO_at G mr mem hob.1, cellE_ia hob.2]) rfl (inb_in hi) hdg kk
theorem r_lald {o N : Nat} {i : Int32} (C : Cx G p l R d s mid args meth c cc nL own) (hR : Rp G mr n mem s H locs) (hob : o < n ∧ kd o = (2, N)) (hi : inb i N = true) (hdg : decode cc pc = .ok (.laload, 1))
    (kk : W p l e R s mid args below meth c H locs cells slots Q (F0 mid (pc + 1) ls (.long (gL mem o i.toNatClampNeg) :: rest))) : W p l e R s mid args below meth c H locs cells slots Q (F0 mid pc ls (.int i :: .ref (G.2.1 + o) :: rest)) :=
  va_lald C.1.1 C.1.2.1 C.2.1 hR.1 o 1 (by rw [wsO_at G mr mem hob.1, cellE_la hob.2]) rfl (inb_in hi) hdg kk
theorem r_bald {o N : Nat} {i : Int32} (C : Cx G p l R d s mid args meth c cc nL own) (hR : Rp G mr n mem s H locs) (hob : o < n ∧ kd o = (3, N)) (hi : inb i N = true) (hdg : decode cc pc = .ok (.baload, 1))
    (kk : W p l e R s mid args below meth c H locs cells slots Q (F0 mid (pc + 1) ls (.int (gI mem o i.toNatClampNeg) :: rest))) : W p l e R s mid args below meth c H locs cells slots Q (F0 mid pc ls (.int i :: .ref (G.2.1 + o) :: rest)) :=
  va_bald C.1.1 C.1.2.1 C.2.1 hR.1 o 2 (by rw [wsO_at G mr mem hob.1, cellE_ba hob.2]) rfl (inb_in hi) hdg kk
theorem r_iast {o N : Nat} {i x : Int32} (C : Cx G p l R d s mid args meth c cc nL own) (hR : Rp G mr n mem s H locs) (hob : o < n ∧ kd o = (1, N)) (hi : inb i N = true) (hdg : decode cc pc = .ok (.iastore, 1))
    (kk : ∀ (H : Heap) (locs : List Loc), Rp G mr n (sI mem o i.toNatClampNeg x) s H locs → W p l e R s mid args below meth c H locs cells slots Q (F0 mid (pc + 1) ls rest)) : W p l e R s mid args below meth c H locs cells slots Q (F0 mid pc ls (.int x :: .int i :: .ref (G.2.1 + o) :: rest)) := by
  refine va_iast C.1.1 C.1.2.1 C.2.1 hR.1 (wsO_D G mr n mem) hR.2 o 0 (by rw [wsO_at G mr mem hob.1, cellE_ia hob.2]) rfl (inb_in hi) hdg (fun H1 locs1 hP1 _ hS1 => ?_)
  rw [wsO_set hob.1 (fun i h => cellE_sI h) (by rw [cellE_ia hob.2, gI_sI_upd])] at hP1
  exact kk H1 locs1 ⟨hP1, hS1⟩
theorem r_bast {o N : Nat} {i x : Int32} (C : Cx G p l R d s mid args meth c cc nL own) (hR : Rp G mr n mem s H locs) (hob : o < n ∧ kd o = (3, N)) (hi : inb i N = true) (hdg : decode cc pc = .ok (.bastore, 1))
    (kk : ∀ (H : Heap) (locs : List Loc), Rp G mr n (sI mem o i.toNatClampNeg x.toInt8.toInt32) s H locs → W p l e R s mid args below meth c H locs cells slots Q (F0 mid (pc + 1) ls rest)) : W p l e R s mid args below meth c H locs cells slots Q (F0 mid pc ls (.int x :: .int i :: .ref (G.2.1 + o) :: rest)) := by
  refine va_bast C.1.1 C.1.2.1 C.2.1 hR.1 (wsO_D G mr n mem) hR.2 o 2 (by rw [wsO_at G mr mem hob.1, cellE_ba hob.2]) rfl (inb_in hi) hdg (fun H1 locs1 hP1 _ hS1 => ?_)
  rw [wsO_set (m' := sI mem o i.toNatClampNeg x.toInt8.toInt32) (mr' := mr) hob.1 (fun i h => cellE_sI h) (by rw [cellE_ba hob.2, gI_sI_upd, vp_nar_byte])] at hP1
  exact kk H1 locs1 ⟨hP1, hS1⟩
theorem r_last {o N : Nat} {i : Int32} {x : Int64} (C : Cx G p l R d s mid args meth c cc nL own) (hR : Rp G mr n mem s H locs) (hob : o < n ∧ kd o = (2, N)) (hi : inb i N = true) (hdg : decode cc pc = .ok (.lastore, 1))
    (kk : ∀ (H : Heap) (locs : List Loc), Rp G mr n (sL mem o i.toNatClampNeg x) s H locs → W p l e R s mid args below meth c H locs cells slots Q (F0 mid (pc + 1) ls rest)) : W p l e R s mid args below meth c H locs cells slots Q (F0 mid pc ls (.long x :: .int i :: .ref (G.2.1 + o) :: rest)) := by
  refine va_last C.1.1 C.1.2.1 C.2.1 hR.1 (wsO_D G mr n mem) hR.2 o 1 (by rw [wsO_at G mr mem hob.1, cellE_la hob.2]) rfl (inb_in hi) hdg (fun H1 locs1 hP1 _ hS1 => ?_)
  rw [wsO_set hob.1 (fun i h => cellE_sL h) (by rw [cellE_la hob.2, gL_sL_upd])] at hP1
  exact kk H1 locs1 ⟨hP1, hS1⟩
theorem r_aleni {o N : Nat} {v : Int32} (C : Cx G p l R d s mid args meth c cc nL own) (hR : Rp G mr n mem s H locs) (hob : o < n ∧ kd o = (1, N)) (hv : Int32.ofNat N = v) (hdg : decode cc pc = .ok (.arraylength, 1))
    (kk : W p l e R s mid args below meth c H locs cells slots Q (F0 mid (pc + 1) ls (.int v :: rest))) : W p l e R s mid args below meth c H locs cells slots Q (F0 mid pc ls (.ref (G.2.1 + o) :: rest)) :=
  va_alen C.1.1 C.1.2.1 C.2.1 hR.1 o 0 (by rw [wsO_at G mr mem hob.1, cellE_ia hob.2]) rfl hv hdg kk
theorem r_alenl {o N : Nat} {v : Int32} (C : Cx G p l R d s mid args meth c cc nL own) (hR : Rp G mr n mem s H locs) (hob : o < n ∧ kd o = (2, N)) (hv : Int32.ofNat N = v) (hdg : decode cc pc = .ok (.arraylength, 1))
    (kk : W p l e R s mid args below meth c H locs cells slots Q (F0 mid (pc + 1) ls (.int v :: rest))) : W p l e R s mid args below meth c H locs cells slots Q (F0 mid pc ls (.ref (G.2.1 + o) :: rest)) :=
  va_alen C.1.1 C.1.2.1 C.2.1 hR.1 o 1 (by rw [wsO_at G mr mem hob.1, cellE_la hob.2]) rfl hv hdg kk
/-! returns -/
theorem r_iret {v : Int32} (C : Cx G p l R d s mid args meth c cc nL own) (hr : meth.sig.returnType = some .int) (hR : Rp G mr n mem s H locs) (hdg : decode cc pc = .ok (.ireturn, 1)) : W p l e R s mid args below meth c H locs cells slots (MQ below (QR G mr n (some (.int v)) mem) args s cells slots (fun q => G.2.1 ≤ q)) (F0 mid pc ls [.int v]) :=
  W.iret C.1.1 C.1.2.1 hr (fun t ht _ => ⟨rfl, by rw [ht]; exact hR.1, hR.2.F ht⟩) (fun q hq => hR.2.2.2 q hq) hdg C.2.2.2.2.1
theorem r_zret {v : Bool} (C : Cx G p l R d s mid args meth c cc nL own) (hr : meth.sig.returnType = some .boolean) (hR : Rp G mr n mem s H locs) (hdg : decode cc pc = .ok (.ireturn, 1)) : W p l e R s mid args below meth c H locs cells slots (MQ below (QR G mr n (some (.int (b2i v))) mem) args s cells slots (fun q => G.2.1 ≤ q)) (F0 mid pc ls [.int (b2i v)]) :=
  W.zret C.1.1 C.1.2.1 hr (nar_Z v) (fun t ht _ => ⟨rfl, by rw [ht]; exact hR.1, hR.2.F ht⟩) (fun q hq => hR.2.2.2 q hq) hdg C.2.2.2.2.1
theorem r_lret {v : Int64} (C : Cx G p l R d s mid args meth c cc nL own) (hr : meth.sig.returnType = some .long) (hR : Rp G mr n mem s H locs) (hdg : decode cc pc = .ok (.lreturn, 1)) : W p l e R s mid args below meth c H locs cells slots (MQ below (QR G mr n (some (.long v)) mem) args s cells slots (fun q => G.2.1 ≤ q)) (F0 mid pc ls [.long v]) :=
  W.lret C.1.1 C.1.2.1 hr (fun t ht _ => ⟨rfl, by rw [ht]; exact hR.1, hR.2.F ht⟩) (fun q hq => hR.2.2.2 q hq) hdg C.2.2.2.2.1
theorem r_vret (C : Cx G p l R d s mid args meth c cc nL own) (hr : meth.sig.returnType = none) (hR : Rp G mr n mem s H locs) (hdg : decode cc pc = .ok (.return_, 1)) : W p l e R s mid args below meth c H locs cells slots (MQ below (QR G mr n none mem) args s cells slots (fun q => G.2.1 ≤ q)) (F0 mid pc ls []) :=
  W.vret C.1.1 C.1.2.1 hr (fun t ht _ => ⟨rfl, by rw [ht]; exact hR.1, hR.2.F ht⟩) (fun q hq => hR.2.2.2 q hq) hdg C.2.2.2.2.1
/-! calls -/
theorem Rp.step {H1 : Heap} {locs L : List Loc} {st t : State} (hR : Rp G mr n mem s H locs) (h0 : st.heap = H) (e1 : H1 = t.heap) (hP : va_P G.1 cls (wsO G mr n mem') t.heap) (hF : va_F (fun q => G.2.1 ≤ q) st t) (hL : ∀ q ∈ L, G.2.1 ≤ q.base) : Rp G mr n mem' s H1 (locs ++ L) := by
  subst h0
  subst e1
  refine ⟨hP, Nat.le_trans hR.2.1 hF.1, fun q h1 h2 => (hF.2 q (Nat.lt_of_lt_of_le h1 hR.2.1) h2).trans (hR.2.2.1 q h1 h2), fun q hq => ?_⟩
  rcases List.mem_append.mp hq with h | h
  · exact hR.2.2.2 q h
  · exact hL q h
theorem r_after {r : Option Value} {a : Array Value} {st0 : List Value} (hR : Rp G mr n mem s H locs) (hr : va_Run p l e R s mid args below meth c H locs cells slots 0 0 (F0 mid pc ls st0) rest (QR G mr n r mem' a) (fun q => G.2.1 ≤ q))
    (kk : ∀ (H : Heap) (locs : List Loc), Rp G mr n mem' s H locs → W p l e R s mid args below meth c H locs cells slots Q (F0 mid (pc + 3) ls (r.toList ++ rest))) : W p l e R s mid args below meth c H locs cells slots Q (F0 mid pc ls st0) := by
  intro T hT X
  obtain ⟨v, st₀, t, T', L, h0, X', hL, e1, e2, ⟨hv, hP, hF⟩, st⟩ := hr T hT X
  cases hv
  obtain ⟨t2, a1, b1⟩ := kk T'.heap (locs ++ L) (hR.step h0 e1 hP hF hL) T' rfl X'
  exact ⟨t2, st t2 a1, b1⟩
def WB (own : String) (idx : Nat) (y : MethodName) (bytes : ByteArray) (maxL : Nat) (ret : Option FieldType) (na : Nat) : Prop :=
  Cond.methodLink own idx y ∈ lw_gd ∧ Cond.initialized y.cls ∈ lw_gd ∧ Cond.code y bytes maxL ret ∈ lw_gd ∧ y.cls ≠ "java/lang/invoke/MethodHandle" ∧ y.cls ≠ "java/lang/invoke/VarHandle" ∧ (parseMethodDescriptor y.desc).map (fun d => d.parameters.length) = some na
def WV (own : String) (idx : Nat) (Cn : String) (y : MethodName) (bytes : ByteArray) (maxL : Nat) (ret : Option FieldType) (na : Nat) : Prop := WB own idx y bytes maxL ret na ∧ Cond.instanceMethod y ∈ lw_gd ∧ Cond.selects Cn y y ∈ lw_gd
def WS (own : String) (idx : Nat) (y : MethodName) (bytes : ByteArray) (maxL : Nat) (ret : Option FieldType) (na : Nat) : Prop := WB own idx y bytes maxL ret na ∧ Cond.static y ∈ lw_gd
def WU (own : String) (idx : Nat) (Cn owner : String) (x y : MethodName) (bytes : ByteArray) (maxL : Nat) (ret : Option FieldType) (na : Nat) : Prop :=
  Cond.methodLink own idx x ∈ lw_gd ∧ Cond.sameMethod x.cls owner x.name x.desc ∈ lw_gd ∧ Cond.selects Cn x y ∈ lw_gd ∧ Cond.instanceMethod y ∈ lw_gd ∧ Cond.initialized y.cls ∈ lw_gd ∧ Cond.code y bytes maxL ret ∈ lw_gd ∧ y = ⟨owner, x.name, x.desc⟩ ∧ owner ≠ "java/lang/invoke/MethodHandle" ∧ owner ≠ "java/lang/invoke/VarHandle" ∧ (parseMethodDescriptor x.desc).map (fun d => d.parameters.length) = some na
theorem room_of {dz maxL : Nat} (C : Cx G p l R d s mid args meth c cc nL own) (hd : dz + 1 ≤ d) (hmx : maxL ≤ 21) : (rmD dz).frames + 1 ≤ R.frames ∧ 8 + (maxL + 11) + (rmD dz).locals ≤ R.locals := by
  obtain ⟨h1, h2⟩ := C.2.2.2.2.2.1
  refine ⟨Nat.le_trans (show dz + 1 ≤ d from hd) h1, Nat.le_trans ?_ h2⟩
  show 8 + (maxL + 11) + 40 * dz ≤ 40 * d
  omega
theorem callB_g {idx maxL na dz : Nat} {y : MethodName} {bytes : ByteArray} {ret : Option FieldType} (C : Cx G p l R d s mid args meth c cc nL own) (w : WB own idx y bytes maxL ret na) (hd : dz + 1 ≤ d) (hmx : maxL ≤ 21) : CallB R s args own idx y bytes maxL ret (Cond.code y bytes maxL ret :: lw_gd) (rmD dz) 0 0 na :=
  callB_of na C.1.2.2.2.2 (GoodIn_gd0 _ w.2.2.1) rfl rfl rfl (C.1.2.2.2.2 _ w.2.1) (C.1.2.2.2.2 _ w.1) ⟨w.2.2.2.1, w.2.2.2.2.1, w.2.2.2.2.2⟩ (room_of C hd hmx)
theorem recv_g {o ci : Nat} {Cn : String} {T : u_T} {N : Nat} (C : Cx G p l R d s mid args meth c cc nL own) (hR : Rp G mr n mem s H locs) (hob : o < n ∧ kd o = (0, ci)) (hc : cls[ci]? = some (Cn, T, N)) : ∃ cell : Cell, H[G.2.1 + o]? = some cell ∧ cell.vm.isStatics = false ∧ s.vm.findClass Cn = some cell.cls :=
  va_recv C.2.1 hR.1 hc (q0 := o) (by rw [wsO_at G mr mem hob.1, cellE_obj hob.2])
theorem r_callV {o ci idx maxL na dz : Nat} {Cn : String} {T : u_T} {N : Nat} {y : MethodName} {bytes : ByteArray} {ret : Option FieldType} {As st0 : List Value} {r : Option Value} (C : Cx G p l R d s mid args meth c cc nL own) (hR : Rp G mr n mem s H locs)
    (hM : Ct l G mr n y bytes maxL ret dz (.ref (G.2.1 + o) :: As) mem r mem') (hd : dz + 1 ≤ d) (hmx : maxL ≤ 21) (hob : o < n ∧ kd o = (0, ci)) (hc : cls[ci]? = some (Cn, T, N)) (w : WV own idx Cn y bytes maxL ret na) (hn : As.length = na) (hst : st0 = As.reverse ++ .ref (G.2.1 + o) :: rest) (hcat : (rest.map fun v => v.category).sum ≤ 8) (hsz : ls.size = nL) (hcs : cells ≤ R.cells ∧ slots ≤ R.slots) (hdg : decode cc pc = .ok (.invokevirtual idx, 3))
    (kk : ∀ (H : Heap) (locs : List Loc), Rp G mr n mem' s H locs → W p l e R s mid args below meth c H locs cells slots Q (F0 mid (pc + 3) ls (r.toList ++ rest))) : W p l e R s mid args below meth c H locs cells slots Q (F0 mid pc ls st0) :=
  r_after hR (va_runV (As := As) (rest := rest) C.1 hM ⟨callB_g C w.1 hd hmx, C.1.2.2.2.2 _ w.2.1, C.1.2.2.2.2 _ w.2.2⟩ ⟨fun a U g mk q => ⟨q.1, q.2.calling g mk a⟩, recv_g C hR hob hc, fun U hU hW => ⟨rfl, PreRS C hR U hU hW⟩⟩ rfl hn hsz hst (lv_room hcat) hdg hcs) kk
theorem r_callU {o ci idx maxL na dz : Nat} {Cn owner : String} {T : u_T} {N : Nat} {x y : MethodName} {bytes : ByteArray} {ret : Option FieldType} {As st0 : List Value} {r : Option Value} (C : Cx G p l R d s mid args meth c cc nL own) (hR : Rp G mr n mem s H locs)
    (hM : Ct l G mr n y bytes maxL ret dz (.ref (G.2.1 + o) :: As) mem r mem') (hd : dz + 1 ≤ d) (hmx : maxL ≤ 21) (hob : o < n ∧ kd o = (0, ci)) (hc : cls[ci]? = some (Cn, T, N)) (w : WU own idx Cn owner x y bytes maxL ret na) (hn : As.length = na) (hst : st0 = As.reverse ++ .ref (G.2.1 + o) :: rest) (hcat : (rest.map fun v => v.category).sum ≤ 8) (hsz : ls.size = nL) (hcs : cells ≤ R.cells ∧ slots ≤ R.slots) (hdg : decode cc pc = .ok (.invokevirtual idx, 3))
    (kk : ∀ (H : Heap) (locs : List Loc), Rp G mr n mem' s H locs → W p l e R s mid args below meth c H locs cells slots Q (F0 mid (pc + 3) ls (r.toList ++ rest))) : W p l e R s mid args below meth c H locs cells slots Q (F0 mid pc ls st0) :=
  r_after hR (va_runU (As := As) (rest := rest) C.1 hM (va_cwU (Ts := lw_gd) (ws := Cond.code y bytes maxL ret :: lw_gd) na C.1.2.2.2.2 (fun w1 hw => by
      have h : w1 ∈ lw_gd := by
        rcases List.mem_append.mp hw with h | h
        · rcases List.mem_cons.mp h with e | h
          · rw [e]; exact w.1
          rcases List.mem_cons.mp h with e | h
          · rw [e]; exact w.2.1
          rcases List.mem_cons.mp h with e | h
          · rw [e]; exact w.2.2.1
          rcases List.mem_cons.mp h with e | h
          · rw [e]; exact w.2.2.2.1
          rcases List.mem_cons.mp h with e | h
          · rw [e]; exact w.2.2.2.2.1
          · cases h
        · rcases List.mem_cons.mp h with e | h
          · rw [e]; exact w.2.2.2.2.2.1
          · exact h
      exact ⟨h, good_of_word (lw_good w1 h)⟩) rfl rfl rfl w.2.2.2.2.2.2.1 w.2.2.2.2.2.2.2 (room_of C hd hmx)) ⟨fun a U g mk q => ⟨q.1, q.2.calling g mk a⟩, recv_g C hR hob hc, fun U hU hW => ⟨rfl, PreRS C hR U hU hW⟩⟩ rfl hn hsz hst (lv_room hcat) hdg hcs) kk
theorem r_callS {idx maxL na dz : Nat} {y : MethodName} {bytes : ByteArray} {ret : Option FieldType} {As st0 : List Value} {r : Option Value} (C : Cx G p l R d s mid args meth c cc nL own) (hR : Rp G mr n mem s H locs)
    (hM : Ct l G mr n y bytes maxL ret dz As mem r mem') (hd : dz + 1 ≤ d) (hmx : maxL ≤ 21) (w : WS own idx y bytes maxL ret na) (hn : As.length = na) (hst : st0 = As.reverse ++ rest) (hcat : (rest.map fun v => v.category).sum ≤ 8) (hsz : ls.size = nL) (hcs : cells ≤ R.cells ∧ slots ≤ R.slots) (hdg : decode cc pc = .ok (.invokestatic idx, 3))
    (kk : ∀ (H : Heap) (locs : List Loc), Rp G mr n mem' s H locs → W p l e R s mid args below meth c H locs cells slots Q (F0 mid (pc + 3) ls (r.toList ++ rest))) : W p l e R s mid args below meth c H locs cells slots Q (F0 mid pc ls st0) :=
  r_after hR (va_runS (As := As) (rest := rest) C.1 hM ⟨callB_g C w.1 hd hmx, C.1.2.2.2.2 _ w.2⟩ ⟨fun a U g mk q => ⟨q.1, q.2.calling g mk a⟩, fun U hU hW => ⟨rfl, PreRS C hR U hU hW⟩⟩ rfl hn hsz hst (lv_room hcat) hdg hcs) kk
/-! names for values; branches on booleans and longs; calls by what they answer -/
theorem Rp_at {m1 : Mem} (h : m1 = mem) (hR : Rp G mr n mem s H locs) : Rp G mr n m1 s H locs := by subst h; exact hR
theorem lv_topz {x : Bool} (k : ∀ y : Bool, y = x → W p l e R s mid args below meth c H locs cells slots Q (F0 mid pc ls (.int (b2i y) :: rest))) : W p l e R s mid args below meth c H locs cells slots Q (F0 mid pc ls (.int (b2i x) :: rest)) := k x rfl
theorem b2i_0 {z : Bool} : b2i z = 0 ↔ ¬ z = true := by cases z <;> decide
theorem z_ifeq {z : Bool} {off : Int} {tgt : Nat} (hx : p.tables.exec = Jvm.exec) (hb : c.code = cc) (hdg : decode cc pc = .ok (.ifCond .eq off, 3)) (ht : (pc : Int) + off = (tgt : Int))
    (kt : ¬ z = true → W p l e R s mid args below meth c H locs cells slots Q (F0 mid tgt ls rest)) (kf : z = true → W p l e R s mid args below meth c H locs cells slots Q (F0 mid (pc + 3) ls rest)) : W p l e R s mid args below meth c H locs cells slots Q (F0 mid pc ls (.int (b2i z) :: rest)) :=
  lv_if_eq hx hb hdg ht (fun h => kt (b2i_0.mp h)) (fun h => kf (by cases z with | true => rfl | false => exact absurd rfl h))
theorem z_ifne {z : Bool} {off : Int} {tgt : Nat} (hx : p.tables.exec = Jvm.exec) (hb : c.code = cc) (hdg : decode cc pc = .ok (.ifCond .ne off, 3)) (ht : (pc : Int) + off = (tgt : Int))
    (kt : z = true → W p l e R s mid args below meth c H locs cells slots Q (F0 mid tgt ls rest)) (kf : ¬ z = true → W p l e R s mid args below meth c H locs cells slots Q (F0 mid (pc + 3) ls rest)) : W p l e R s mid args below meth c H locs cells slots Q (F0 mid pc ls (.int (b2i z) :: rest)) :=
  lv_if_ne hx hb hdg ht (fun h => kt (by cases z with | true => rfl | false => exact absurd rfl h)) (fun h => kf (b2i_0.mp h))
theorem l_ifeq {x y : Int64} {off : Int} {tgt : Nat} (hx : p.tables.exec = Jvm.exec) (hb : c.code = cc) (h1 : decode cc pc = .ok (.lcmp, 1)) (h2 : decode cc (pc + 1) = .ok (.ifCond .eq off, 3)) (ht : ((pc + 1 : Nat) : Int) + off = (tgt : Int)) (kt : x = y → W p l e R s mid args below meth c H locs cells slots Q (F0 mid tgt ls rest)) (kf : ¬ x = y → W p l e R s mid args below meth c H locs cells slots Q (F0 mid (pc + 4) ls rest)) : W p l e R s mid args below meth c H locs cells slots Q (F0 mid pc ls (.long y :: .long x :: rest)) := W.lcmp hx hb h1 (lv_if_eq hx hb h2 ht (fun h => kt ((lg_cmp_eq x y).mp h)) (fun h => kf (fun e => h ((lg_cmp_eq x y).mpr e))))
theorem l_ifne {x y : Int64} {off : Int} {tgt : Nat} (hx : p.tables.exec = Jvm.exec) (hb : c.code = cc) (h1 : decode cc pc = .ok (.lcmp, 1)) (h2 : decode cc (pc + 1) = .ok (.ifCond .ne off, 3)) (ht : ((pc + 1 : Nat) : Int) + off = (tgt : Int)) (kt : ¬ x = y → W p l e R s mid args below meth c H locs cells slots Q (F0 mid tgt ls rest)) (kf : x = y → W p l e R s mid args below meth c H locs cells slots Q (F0 mid (pc + 4) ls rest)) : W p l e R s mid args below meth c H locs cells slots Q (F0 mid pc ls (.long y :: .long x :: rest)) := W.lcmp hx hb h1 (lv_if_ne hx hb h2 ht (fun h => kt (fun e => h ((lg_cmp_eq x y).mpr e))) (fun h => kf ((lg_cmp_eq x y).mp h)))
theorem l_iflt {x y : Int64} {off : Int} {tgt : Nat} (hx : p.tables.exec = Jvm.exec) (hb : c.code = cc) (h1 : decode cc pc = .ok (.lcmp, 1)) (h2 : decode cc (pc + 1) = .ok (.ifCond .lt off, 3)) (ht : ((pc + 1 : Nat) : Int) + off = (tgt : Int)) (kt : x < y → W p l e R s mid args below meth c H locs cells slots Q (F0 mid tgt ls rest)) (kf : ¬ x < y → W p l e R s mid args below meth c H locs cells slots Q (F0 mid (pc + 4) ls rest)) : W p l e R s mid args below meth c H locs cells slots Q (F0 mid pc ls (.long y :: .long x :: rest)) := W.lcmp hx hb h1 (lv_if_lt hx hb h2 ht (fun h => kt ((lg_cmp_lt x y).mp h)) (fun h => kf (fun e => h ((lg_cmp_lt x y).mpr e))))
theorem l_ifge {x y : Int64} {off : Int} {tgt : Nat} (hx : p.tables.exec = Jvm.exec) (hb : c.code = cc) (h1 : decode cc pc = .ok (.lcmp, 1)) (h2 : decode cc (pc + 1) = .ok (.ifCond .ge off, 3)) (ht : ((pc + 1 : Nat) : Int) + off = (tgt : Int)) (kt : y ≤ x → W p l e R s mid args below meth c H locs cells slots Q (F0 mid tgt ls rest)) (kf : ¬ y ≤ x → W p l e R s mid args below meth c H locs cells slots Q (F0 mid (pc + 4) ls rest)) : W p l e R s mid args below meth c H locs cells slots Q (F0 mid pc ls (.long y :: .long x :: rest)) := W.lcmp hx hb h1 (lv_if_ge hx hb h2 ht (fun h => kt ((lg_cmp_ge x y).mp h)) (fun h => kf (fun e => h ((lg_cmp_ge x y).mpr e))))
theorem l_ifgt {x y : Int64} {off : Int} {tgt : Nat} (hx : p.tables.exec = Jvm.exec) (hb : c.code = cc) (h1 : decode cc pc = .ok (.lcmp, 1)) (h2 : decode cc (pc + 1) = .ok (.ifCond .gt off, 3)) (ht : ((pc + 1 : Nat) : Int) + off = (tgt : Int)) (kt : y < x → W p l e R s mid args below meth c H locs cells slots Q (F0 mid tgt ls rest)) (kf : ¬ y < x → W p l e R s mid args below meth c H locs cells slots Q (F0 mid (pc + 4) ls rest)) : W p l e R s mid args below meth c H locs cells slots Q (F0 mid pc ls (.long y :: .long x :: rest)) := W.lcmp hx hb h1 (lv_if_gt hx hb h2 ht (fun h => kt ((lg_cmp_gt x y).mp h)) (fun h => kf (fun e => h ((lg_cmp_gt x y).mpr e))))
theorem l_ifle {x y : Int64} {off : Int} {tgt : Nat} (hx : p.tables.exec = Jvm.exec) (hb : c.code = cc) (h1 : decode cc pc = .ok (.lcmp, 1)) (h2 : decode cc (pc + 1) = .ok (.ifCond .le off, 3)) (ht : ((pc + 1 : Nat) : Int) + off = (tgt : Int)) (kt : x ≤ y → W p l e R s mid args below meth c H locs cells slots Q (F0 mid tgt ls rest)) (kf : ¬ x ≤ y → W p l e R s mid args below meth c H locs cells slots Q (F0 mid (pc + 4) ls rest)) : W p l e R s mid args below meth c H locs cells slots Q (F0 mid pc ls (.long y :: .long x :: rest)) := W.lcmp hx hb h1 (lv_if_le hx hb h2 ht (fun h => kt ((lg_cmp_le x y).mp h)) (fun h => kf (fun e => h ((lg_cmp_le x y).mpr e))))
theorem r_callVi {o ci idx maxL na dz : Nat} {Cn : String} {T : u_T} {N : Nat} {y : MethodName} {bytes : ByteArray} {ret : Option FieldType} {As st0 : List Value} {v : Int32} (C : Cx G p l R d s mid args meth c cc nL own) (hR : Rp G mr n mem s H locs)
    (hM : Ct l G mr n y bytes maxL ret dz (.ref (G.2.1 + o) :: As) mem (some (.int v)) mem') (hd : dz + 1 ≤ d) (hmx : maxL ≤ 21) (hob : o < n ∧ kd o = (0, ci)) (hc : cls[ci]? = some (Cn, T, N)) (w : WV own idx Cn y bytes maxL ret na) (hn : As.length = na) (hst : st0 = As.reverse ++ .ref (G.2.1 + o) :: rest) (hcat : (rest.map fun v => v.category).sum ≤ 8) (hsz : ls.size = nL) (hcs : cells ≤ R.cells ∧ slots ≤ R.slots) (hdg : decode cc pc = .ok (.invokevirtual idx, 3))
    (kk : ∀ (H : Heap) (locs : List Loc), Rp G mr n mem' s H locs → W p l e R s mid args below meth c H locs cells slots Q (F0 mid (pc + 3) ls (.int v :: rest))) : W p l e R s mid args below meth c H locs cells slots Q (F0 mid pc ls st0) := r_callV C hR hM hd hmx hob hc w hn hst hcat hsz hcs hdg kk
theorem r_callVl {o ci idx maxL na dz : Nat} {Cn : String} {T : u_T} {N : Nat} {y : MethodName} {bytes : ByteArray} {ret : Option FieldType} {As st0 : List Value} {v : Int64} (C : Cx G p l R d s mid args meth c cc nL own) (hR : Rp G mr n mem s H locs)
    (hM : Ct l G mr n y bytes maxL ret dz (.ref (G.2.1 + o) :: As) mem (some (.long v)) mem') (hd : dz + 1 ≤ d) (hmx : maxL ≤ 21) (hob : o < n ∧ kd o = (0, ci)) (hc : cls[ci]? = some (Cn, T, N)) (w : WV own idx Cn y bytes maxL ret na) (hn : As.length = na) (hst : st0 = As.reverse ++ .ref (G.2.1 + o) :: rest) (hcat : (rest.map fun v => v.category).sum ≤ 8) (hsz : ls.size = nL) (hcs : cells ≤ R.cells ∧ slots ≤ R.slots) (hdg : decode cc pc = .ok (.invokevirtual idx, 3))
    (kk : ∀ (H : Heap) (locs : List Loc), Rp G mr n mem' s H locs → W p l e R s mid args below meth c H locs cells slots Q (F0 mid (pc + 3) ls (.long v :: rest))) : W p l e R s mid args below meth c H locs cells slots Q (F0 mid pc ls st0) := r_callV C hR hM hd hmx hob hc w hn hst hcat hsz hcs hdg kk
theorem r_callVv {o ci idx maxL na dz : Nat} {Cn : String} {T : u_T} {N : Nat} {y : MethodName} {bytes : ByteArray} {ret : Option FieldType} {As st0 : List Value}  (C : Cx G p l R d s mid args meth c cc nL own) (hR : Rp G mr n mem s H locs)
    (hM : Ct l G mr n y bytes maxL ret dz (.ref (G.2.1 + o) :: As) mem none mem') (hd : dz + 1 ≤ d) (hmx : maxL ≤ 21) (hob : o < n ∧ kd o = (0, ci)) (hc : cls[ci]? = some (Cn, T, N)) (w : WV own idx Cn y bytes maxL ret na) (hn : As.length = na) (hst : st0 = As.reverse ++ .ref (G.2.1 + o) :: rest) (hcat : (rest.map fun v => v.category).sum ≤ 8) (hsz : ls.size = nL) (hcs : cells ≤ R.cells ∧ slots ≤ R.slots) (hdg : decode cc pc = .ok (.invokevirtual idx, 3))
    (kk : ∀ (H : Heap) (locs : List Loc), Rp G mr n mem' s H locs → W p l e R s mid args below meth c H locs cells slots Q (F0 mid (pc + 3) ls (rest))) : W p l e R s mid args below meth c H locs cells slots Q (F0 mid pc ls st0) := r_callV C hR hM hd hmx hob hc w hn hst hcat hsz hcs hdg kk
theorem r_callVr {o ci idx maxL na dz : Nat} {Cn : String} {T : u_T} {N : Nat} {y : MethodName} {bytes : ByteArray} {ret : Option FieldType} {As st0 : List Value} {rr : Option Nat} (C : Cx G p l R d s mid args meth c cc nL own) (hR : Rp G mr n mem s H locs)
    (hM : Ct l G mr n y bytes maxL ret dz (.ref (G.2.1 + o) :: As) mem (some (rfv G.2.1 rr)) mem') (hd : dz + 1 ≤ d) (hmx : maxL ≤ 21) (hob : o < n ∧ kd o = (0, ci)) (hc : cls[ci]? = some (Cn, T, N)) (w : WV own idx Cn y bytes maxL ret na) (hn : As.length = na) (hst : st0 = As.reverse ++ .ref (G.2.1 + o) :: rest) (hcat : (rest.map fun v => v.category).sum ≤ 8) (hsz : ls.size = nL) (hcs : cells ≤ R.cells ∧ slots ≤ R.slots) (hdg : decode cc pc = .ok (.invokevirtual idx, 3))
    (kk : ∀ (H : Heap) (locs : List Loc), Rp G mr n mem' s H locs → W p l e R s mid args below meth c H locs cells slots Q (F0 mid (pc + 3) ls (rfv G.2.1 rr :: rest))) : W p l e R s mid args below meth c H locs cells slots Q (F0 mid pc ls st0) := r_callV C hR hM hd hmx hob hc w hn hst hcat hsz hcs hdg kk
theorem r_callUi {o ci idx maxL na dz : Nat} {Cn owner : String} {T : u_T} {N : Nat} {x y : MethodName} {bytes : ByteArray} {ret : Option FieldType} {As st0 : List Value} {v : Int32} (C : Cx G p l R d s mid args meth c cc nL own) (hR : Rp G mr n mem s H locs)
    (hM : Ct l G mr n y bytes maxL ret dz (.ref (G.2.1 + o) :: As) mem (some (.int v)) mem') (hd : dz + 1 ≤ d) (hmx : maxL ≤ 21) (hob : o < n ∧ kd o = (0, ci)) (hc : cls[ci]? = some (Cn, T, N)) (w : WU own idx Cn owner x y bytes maxL ret na) (hn : As.length = na) (hst : st0 = As.reverse ++ .ref (G.2.1 + o) :: rest) (hcat : (rest.map fun v => v.category).sum ≤ 8) (hsz : ls.size = nL) (hcs : cells ≤ R.cells ∧ slots ≤ R.slots) (hdg : decode cc pc = .ok (.invokevirtual idx, 3))
    (kk : ∀ (H : Heap) (locs : List Loc), Rp G mr n mem' s H locs → W p l e R s mid args below meth c H locs cells slots Q (F0 mid (pc + 3) ls (.int v :: rest))) : W p l e R s mid args below meth c H locs cells slots Q (F0 mid pc ls st0) := r_callU C hR hM hd hmx hob hc w hn hst hcat hsz hcs hdg kk
theorem r_callUl {o ci idx maxL na dz : Nat} {Cn owner : String} {T : u_T} {N : Nat} {x y : MethodName} {bytes : ByteArray} {ret : Option FieldType} {As st0 : List Value} {v : Int64} (C : Cx G p l R d s mid args meth c cc nL own) (hR : Rp G mr n mem s H locs)
    (hM : Ct l G mr n y bytes maxL ret dz (.ref (G.2.1 + o) :: As) mem (some (.long v)) mem') (hd : dz + 1 ≤ d) (hmx : maxL ≤ 21) (hob : o < n ∧ kd o = (0, ci)) (hc : cls[ci]? = some (Cn, T, N)) (w : WU own idx Cn owner x y bytes maxL ret na) (hn : As.length = na) (hst : st0 = As.reverse ++ .ref (G.2.1 + o) :: rest) (hcat : (rest.map fun v => v.category).sum ≤ 8) (hsz : ls.size = nL) (hcs : cells ≤ R.cells ∧ slots ≤ R.slots) (hdg : decode cc pc = .ok (.invokevirtual idx, 3))
    (kk : ∀ (H : Heap) (locs : List Loc), Rp G mr n mem' s H locs → W p l e R s mid args below meth c H locs cells slots Q (F0 mid (pc + 3) ls (.long v :: rest))) : W p l e R s mid args below meth c H locs cells slots Q (F0 mid pc ls st0) := r_callU C hR hM hd hmx hob hc w hn hst hcat hsz hcs hdg kk
theorem r_callUv {o ci idx maxL na dz : Nat} {Cn owner : String} {T : u_T} {N : Nat} {x y : MethodName} {bytes : ByteArray} {ret : Option FieldType} {As st0 : List Value}  (C : Cx G p l R d s mid args meth c cc nL own) (hR : Rp G mr n mem s H locs)
    (hM : Ct l G mr n y bytes maxL ret dz (.ref (G.2.1 + o) :: As) mem none mem') (hd : dz + 1 ≤ d) (hmx : maxL ≤ 21) (hob : o < n ∧ kd o = (0, ci)) (hc : cls[ci]? = some (Cn, T, N)) (w : WU own idx Cn owner x y bytes maxL ret na) (hn : As.length = na) (hst : st0 = As.reverse ++ .ref (G.2.1 + o) :: rest) (hcat : (rest.map fun v => v.category).sum ≤ 8) (hsz : ls.size = nL) (hcs : cells ≤ R.cells ∧ slots ≤ R.slots) (hdg : decode cc pc = .ok (.invokevirtual idx, 3))
    (kk : ∀ (H : Heap) (locs : List Loc), Rp G mr n mem' s H locs → W p l e R s mid args below meth c H locs cells slots Q (F0 mid (pc + 3) ls (rest))) : W p l e R s mid args below meth c H locs cells slots Q (F0 mid pc ls st0) := r_callU C hR hM hd hmx hob hc w hn hst hcat hsz hcs hdg kk
theorem r_callUr {o ci idx maxL na dz : Nat} {Cn owner : String} {T : u_T} {N : Nat} {x y : MethodName} {bytes : ByteArray} {ret : Option FieldType} {As st0 : List Value} {rr : Option Nat} (C : Cx G p l R d s mid args meth c cc nL own) (hR : Rp G mr n mem s H locs)
    (hM : Ct l G mr n y bytes maxL ret dz (.ref (G.2.1 + o) :: As) mem (some (rfv G.2.1 rr)) mem') (hd : dz + 1 ≤ d) (hmx : maxL ≤ 21) (hob : o < n ∧ kd o = (0, ci)) (hc : cls[ci]? = some (Cn, T, N)) (w : WU own idx Cn owner x y bytes maxL ret na) (hn : As.length = na) (hst : st0 = As.reverse ++ .ref (G.2.1 + o) :: rest) (hcat : (rest.map fun v => v.category).sum ≤ 8) (hsz : ls.size = nL) (hcs : cells ≤ R.cells ∧ slots ≤ R.slots) (hdg : decode cc pc = .ok (.invokevirtual idx, 3))
    (kk : ∀ (H : Heap) (locs : List Loc), Rp G mr n mem' s H locs → W p l e R s mid args below meth c H locs cells slots Q (F0 mid (pc + 3) ls (rfv G.2.1 rr :: rest))) : W p l e R s mid args below meth c H locs cells slots Q (F0 mid pc ls st0) := r_callU C hR hM hd hmx hob hc w hn hst hcat hsz hcs hdg kk
theorem r_callSi {idx maxL na dz : Nat} {y : MethodName} {bytes : ByteArray} {ret : Option FieldType} {As st0 : List Value} {v : Int32} (C : Cx G p l R d s mid args meth c cc nL own) (hR : Rp G mr n mem s H locs)
    (hM : Ct l G mr n y bytes maxL ret dz As mem (some (.int v)) mem') (hd : dz + 1 ≤ d) (hmx : maxL ≤ 21) (w : WS own idx y bytes maxL ret na) (hn : As.length = na) (hst : st0 = As.reverse ++ rest) (hcat : (rest.map fun v => v.category).sum ≤ 8) (hsz : ls.size = nL) (hcs : cells ≤ R.cells ∧ slots ≤ R.slots) (hdg : decode cc pc = .ok (.invokestatic idx, 3))
    (kk : ∀ (H : Heap) (locs : List Loc), Rp G mr n mem' s H locs → W p l e R s mid args below meth c H locs cells slots Q (F0 mid (pc + 3) ls (.int v :: rest))) : W p l e R s mid args below meth c H locs cells slots Q (F0 mid pc ls st0) := r_callS C hR hM hd hmx w hn hst hcat hsz hcs hdg kk
theorem r_callSl {idx maxL na dz : Nat} {y : MethodName} {bytes : ByteArray} {ret : Option FieldType} {As st0 : List Value} {v : Int64} (C : Cx G p l R d s mid args meth c cc nL own) (hR : Rp G mr n mem s H locs)
    (hM : Ct l G mr n y bytes maxL ret dz As mem (some (.long v)) mem') (hd : dz + 1 ≤ d) (hmx : maxL ≤ 21) (w : WS own idx y bytes maxL ret na) (hn : As.length = na) (hst : st0 = As.reverse ++ rest) (hcat : (rest.map fun v => v.category).sum ≤ 8) (hsz : ls.size = nL) (hcs : cells ≤ R.cells ∧ slots ≤ R.slots) (hdg : decode cc pc = .ok (.invokestatic idx, 3))
    (kk : ∀ (H : Heap) (locs : List Loc), Rp G mr n mem' s H locs → W p l e R s mid args below meth c H locs cells slots Q (F0 mid (pc + 3) ls (.long v :: rest))) : W p l e R s mid args below meth c H locs cells slots Q (F0 mid pc ls st0) := r_callS C hR hM hd hmx w hn hst hcat hsz hcs hdg kk
theorem r_callSv {idx maxL na dz : Nat} {y : MethodName} {bytes : ByteArray} {ret : Option FieldType} {As st0 : List Value}  (C : Cx G p l R d s mid args meth c cc nL own) (hR : Rp G mr n mem s H locs)
    (hM : Ct l G mr n y bytes maxL ret dz As mem none mem') (hd : dz + 1 ≤ d) (hmx : maxL ≤ 21) (w : WS own idx y bytes maxL ret na) (hn : As.length = na) (hst : st0 = As.reverse ++ rest) (hcat : (rest.map fun v => v.category).sum ≤ 8) (hsz : ls.size = nL) (hcs : cells ≤ R.cells ∧ slots ≤ R.slots) (hdg : decode cc pc = .ok (.invokestatic idx, 3))
    (kk : ∀ (H : Heap) (locs : List Loc), Rp G mr n mem' s H locs → W p l e R s mid args below meth c H locs cells slots Q (F0 mid (pc + 3) ls (rest))) : W p l e R s mid args below meth c H locs cells slots Q (F0 mid pc ls st0) := r_callS C hR hM hd hmx w hn hst hcat hsz hcs hdg kk
theorem r_callSr {idx maxL na dz : Nat} {y : MethodName} {bytes : ByteArray} {ret : Option FieldType} {As st0 : List Value} {rr : Option Nat} (C : Cx G p l R d s mid args meth c cc nL own) (hR : Rp G mr n mem s H locs)
    (hM : Ct l G mr n y bytes maxL ret dz As mem (some (rfv G.2.1 rr)) mem') (hd : dz + 1 ≤ d) (hmx : maxL ≤ 21) (w : WS own idx y bytes maxL ret na) (hn : As.length = na) (hst : st0 = As.reverse ++ rest) (hcat : (rest.map fun v => v.category).sum ≤ 8) (hsz : ls.size = nL) (hcs : cells ≤ R.cells ∧ slots ≤ R.slots) (hdg : decode cc pc = .ok (.invokestatic idx, 3))
    (kk : ∀ (H : Heap) (locs : List Loc), Rp G mr n mem' s H locs → W p l e R s mid args below meth c H locs cells slots Q (F0 mid (pc + 3) ls (rfv G.2.1 rr :: rest))) : W p l e R s mid args below meth c H locs cells slots Q (F0 mid pc ls st0) := r_callS C hR hM hd hmx w hn hst hcat hsz hcs hdg kk
theorem i32_ne {x k : Int32} {z : Int} (h : ¬ x = k) (hk : k.toInt = z) : x.toInt ≠ z := fun e => h (Int32.toInt_inj.mp (e.trans hk.symm))
theorem r_aald {o N : Nat} {i : Int32} (C : Cx G p l R d s mid args meth c cc nL own) (hR : Rp G mr n mem s H locs) (hob : o < n ∧ kd o = (4, N)) (hi : inb i N = true) (hdg : decode cc pc = .ok (.aaload, 1))
    (kk : W p l e R s mid args below meth c H locs cells slots Q (F0 mid (pc + 1) ls (rfv G.2.1 (mr o i.toNatClampNeg) :: rest))) : W p l e R s mid args below meth c H locs cells slots Q (F0 mid pc ls (.int i :: .ref (G.2.1 + o) :: rest)) :=
  va_aldq (f := fun j => (mr o j).map (fun i => G.2.1 + i)) C.1.1 C.1.2.1 C.2.1 hR.1 o 3 (by rw [wsO_at G mr mem hob.1, cellE_ra hob.2]) rfl (inb_in hi) hdg kk
theorem r_aret {r : Option Nat} {rt : FieldType} (C : Cx G p l R d s mid args meth c cc nL own) (hr : meth.sig.returnType = some rt) (hrt : ∃ n, rt = .object n) (hR : Rp G mr n mem s H locs) (hdg : decode cc pc = .ok (.areturn, 1)) : W p l e R s mid args below meth c H locs cells slots (MQ below (QR G mr n (some (rfv G.2.1 r)) mem) args s cells slots (fun q => G.2.1 ≤ q)) (F0 mid pc ls [rfv G.2.1 r]) :=
  W.aret C.1.1 C.1.2.1 hr (Or.inl hrt) (by cases r with | none => exact Or.inl rfl | some k => exact Or.inr ⟨_, rfl⟩) (fun t ht _ => ⟨rfl, by rw [ht]; exact hR.1, hR.2.F ht⟩) (fun q hq => hR.2.2.2 q hq) hdg C.2.2.2.2.1
/-! Math -/
def mxI (x y : Int32) : Int32 := if x < y then y else x
def mnI (x y : Int32) : Int32 := if y < x then y else x
def abI (x : Int32) : Int32 := if 0 ≤ x then x else 0 - x
def mxL (x y : Int64) : Int64 := if y < x then x else y
def abL (x : Int64) : Int64 := if 0 < x then x else -x
end ROWS
