section THR
/-! ===== methods that may throw: the answer is .inl k (exception k) or .inr r ===== -/
def exN (k : Nat) : String := (["java/lang/IllegalStateException", "java/lang/IllegalArgumentException", "java/lang/IndexOutOfBoundsException", "java/lang/UnsupportedOperationException", "java/util/NoSuchElementException"] : List String).getD k ""
abbrev Ou : Type := Nat ⊕ Option Value
def cxO (o : Ou) : Nat := match o with | .inl _ => 1 | .inr _ => 0
def sxO (o : Ou) : Nat := match o with | .inl _ => 6 | .inr _ => 0
def rmX (d : Nat) (o : Ou) : Room := { frames := d, cells := cxO o, slots := sxO o, locals := 40 * d }
def QX (G : GG) (mr : MR) (n : Nat) (o : Ou) (mem : Mem) : Array Value → State → Outcome → State → Prop := match o with
  | .inl _ => fun _ _ _ _ => False
  | .inr r => QR G mr n r mem
def XX (G : GG) (mr : MR) (n : Nat) (o : Ou) (mem : Mem) : String → State → State → Prop := match o with
  | .inl k => fun E st t => E = exN k ∧ va_P G.1 cls (wsO G mr n mem) t.heap ∧ va_F (fun q => G.2.1 ≤ q) st t
  | .inr _ => fun _ _ _ => False
def CtX (l : Launch) (G : GG) (mr : MR) (n : Nat) (y : MethodName) (bytes : ByteArray) (maxL : Nat) (ret : Option FieldType) (d : Nat) (av : List Value) (mem : Mem) (o : Ou) (mem' : Mem) : Prop :=
  vx_Met l y (Cond.code y bytes maxL ret :: lw_gd) (rmX d o) (va_Pc av (RS G mr n mem)) (QX G mr n o mem') (XX G mr n o mem') (cxO o) (sxO o) (fun q => G.2.1 ≤ q)
/-- what a throwing body must come to -/
def ZX (below : List Frame) (G : GG) (mr : MR) (n : Nat) (o : Ou) (mem : Mem) (args : Array Value) (s : State) : State → Prop := vx_MQ below (QX G mr n o mem) (XX G mr n o mem) args s (cxO o) (sxO o) (fun q => G.2.1 ≤ q)
variable {G : GG} {mr : MR} {n : Nat} {mem mem' : Mem} {p : Program} {l : Launch} {e : Env} {R : Room} {d : Nat} {s : State} {mid : MethodId} {args : Array Value} {below : List Frame} {meth : Method} {c : Code} {H : Heap} {locs : List Loc} {cells slots : Nat} {Q : State → Prop} {cc : ByteArray} {nL : Nat} {own : String} {pc : Nat} {ls : Array Slot} {rest : List Value}
theorem CtX_of {y : MethodName} {bytes : ByteArray} {maxL : Nat} {ret : Option FieldType} {av : List Value} {o : Ou} (hl : l.stackTraces = false) (hy : plainName y.cls = true) (hlen : (lg_sl av).length ≤ maxL)
    (body : ∀ (p : Program) (e : Env) (s : State) (mid : MethodId) (args : Array Value) (below : List Frame) (meth : Method) (c : Code) (ls : Array Slot), Cx G p l (rmX d o) d s mid args meth c bytes maxL y.cls → meth.sig.returnType = ret → (∀ x ∈ c.exceptionTable.toList, False) → lv_has ls maxL (lv_args 0 av) → Rp G mr n mem s s.heap [] → W p l e (rmX d o) s mid args below meth c s.heap [] 0 0 (ZX below G mr n o mem' args s) (F0 mid 0 ls [])) :
    CtX l G mr n y bytes maxL ret d av mem o mem' := by
  refine vx_ofW (cc := bytes) (maxL := maxL) (ret := ret) hy rfl ?_
  intro p e s m args below meth c s₁ B hml hex hv
  obtain ⟨rfl, hP, hK, hb, hE⟩ := hv
  have hts := atoms_spec (ws := Cond.code y bytes maxL ret :: lw_gd) B.pre
  rw [lg_entry_eq]
  exact body p e s m _ below meth c _ ⟨⟨B.exec, B.bytes, hml, findClass_of_methodNamed B.named, fun w hw => hts w (List.mem_cons_of_mem _ hw)⟩, hK, hb, hE, B.notSynchronized, ⟨Nat.le_refl _, Nat.le_refl _⟩, hl⟩ B.returns hex (lv_entry av hlen) ⟨hP, va_S.rf⟩
/-! returns of such methods -/
theorem x_iret {v : Int32} (C : Cx G p l R d s mid args meth c cc nL own) (hr : meth.sig.returnType = some .int) (hR : Rp G mr n mem s H locs) (hdg : decode cc pc = .ok (.ireturn, 1)) : W p l e R s mid args below meth c H locs 0 0 (ZX below G mr n (.inr (some (.int v))) mem args s) (F0 mid pc ls [.int v]) := vx_ret (r_iret C hr hR hdg)
theorem x_zret {v : Bool} (C : Cx G p l R d s mid args meth c cc nL own) (hr : meth.sig.returnType = some .boolean) (hR : Rp G mr n mem s H locs) (hdg : decode cc pc = .ok (.ireturn, 1)) : W p l e R s mid args below meth c H locs 0 0 (ZX below G mr n (.inr (some (.int (b2i v)))) mem args s) (F0 mid pc ls [.int (b2i v)]) := vx_ret (r_zret C hr hR hdg)
theorem x_lret {v : Int64} (C : Cx G p l R d s mid args meth c cc nL own) (hr : meth.sig.returnType = some .long) (hR : Rp G mr n mem s H locs) (hdg : decode cc pc = .ok (.lreturn, 1)) : W p l e R s mid args below meth c H locs 0 0 (ZX below G mr n (.inr (some (.long v))) mem args s) (F0 mid pc ls [.long v]) := vx_ret (r_lret C hr hR hdg)
theorem x_vret (C : Cx G p l R d s mid args meth c cc nL own) (hr : meth.sig.returnType = none) (hR : Rp G mr n mem s H locs) (hdg : decode cc pc = .ok (.return_, 1)) : W p l e R s mid args below meth c H locs 0 0 (ZX below G mr n (.inr none) mem args s) (F0 mid pc ls []) := vx_ret (r_vret C hr hR hdg)
/-! throws -/
abbrev exTop : String := "java/lang/RuntimeException"
abbrev exUp : List String := ["java/lang/Exception"]
def exIx (k : Nat) : Nat := if k = 4 then 13 else 7
def exRx (k : Nat) : ByteArray := if k = 4 then ⟨#[0x2a, 0x2b, 0xb7, 0x00, 0x0d, 0xb1]⟩ else ⟨#[0x2a, 0x2b, 0xb7, 0x00, 0x07, 0xb1]⟩
def exAt (own : String) (ic k : Nat) : List Cond := ns_at own ic (exN k) exTop (exIx k) (exRx k) exUp
def WT (own : String) (ik ic k : Nat) : Prop := Cond.classLink own ik (exN k) ∈ lw_gd ∧ Cond.initialized (exN k) ∈ lw_gd ∧ (∀ w ∈ (exAt own ic k).filter goodWord, w ∈ lw_gd) ∧ (∀ w ∈ (exAt own ic k).filter (fun w => !goodWord w), w ∈ castL.map (fun q => Cond.castable q.1 q.2) ++ declL.map Cond.declares) ∧ (∀ w ∈ exAt own ic k, vx_ot w = true) ∧ Bundle.fit (exN k) = true ∧
  decode (exRx k) 0 = .ok (.aload_n 0, 1) ∧ decode (exRx k) 1 = .ok (.aload_n 1, 1) ∧ decode (exRx k) 2 = .ok (.invokespecial (exIx k), 3) ∧ decode (exRx k) 5 = .ok (.return_, 1)
theorem WT.at {ik ic k : Nat} (C : Cx G p l R d s mid args meth c cc nL own) (w : WT own ik ic k) : ∀ w ∈ exAt own ic k, w.before args s = true := by
  refine vx_hat (fun u hu => C.1.2.2.2.2 u (w.2.2.1 u hu)) w.2.2.2.1 (fun u hu => ?_)
  rcases List.mem_append.mp hu with hu | hu
  · obtain ⟨q, hq, rfl⟩ := List.mem_map.mp hu
    exact va_Nw.use rfl (C.2.2.2.1.2.2.2.2.1 q hq)
  · obtain ⟨q, hq, rfl⟩ := List.mem_map.mp hu
    exact va_Nw.use rfl (C.2.2.2.1.2.2.2.2.2.1 q hq)
theorem Rp.grow {t : State} (hR : Rp G mr n mem s H locs) (h1 : H.size ≤ t.heap.size) (h2 : ∀ q : Nat, q < H.size → t.heap[q]? = H[q]?) : va_P G.1 cls (wsO G mr n mem) t.heap ∧ va_F (fun q => G.2.1 ≤ q) s t :=
  ⟨fun k q hk => (hR.1 k q hk).kept (h2 _ (hR.1 k q hk).lt), Nat.le_trans hR.2.1 h1, fun q a b => (h2 q (Nat.lt_of_lt_of_le a hR.2.1)).trans (hR.2.2.1 q a b)⟩
theorem r_throw {k ik is ic : Nat} {text : String} (C : Cx G p l (rmX d (.inl k)) d s mid args meth c cc nL own) (hex : ∀ x ∈ c.exceptionTable.toList, False) (hR : Rp G mr n mem s H locs) (w : WT own ik ic k) (hstr : (own, is, text) ∈ strL) (h8 : 8 ≤ d) (hcat : (rest.map fun v => v.category).sum ≤ 8) (hsz : ls.size = nL)
    (d0 : decode cc pc = .ok (.new ik, 3)) (d3 : decode cc (pc + 3) = .ok (.dup, 1)) (d4 : decode cc (pc + 4) = .ok (.ldc is, 2)) (d6 : decode cc (pc + 6) = .ok (.invokespecial ic, 3)) (d9 : decode cc (pc + 9) = .ok (.athrow, 1)) :
    W p l e (rmX d (.inl k)) s mid args below meth c H locs 0 0 (ZX below G mr n (.inl k) mem args s) (F0 mid pc ls rest) := by
  obtain ⟨hs, -⟩ := C.2.2.2.1.1 _ hstr
  refine ns_throwS (Yn := exTop) (names := exUp) (A := fun q => G.2.1 ≤ q) C.1.1 C.1.2.1 C.2.2.2.2.2.2 C.1.2.2.2.1 w.2.2.2.2.2.1 (by decide +kernel) (by decide +kernel) w.2.2.2.2.2.2.1 w.2.2.2.2.2.2.2.1 w.2.2.2.2.2.2.2.2.1 w.2.2.2.2.2.2.2.2.2 (C.1.2.2.2.2 _ w.1) (C.1.2.2.2.2 _ w.2.1) hs (w.at C) (fun u hu => ?_) C.2.2.2.1.2.1 C.2.2.2.1.2.2.1 hR.2 (hsz.trans C.1.2.2.1.symm) d0 d3 d4 d6 d9 (fun x hx => (hex x hx).elim) (show 5 < d by omega) (show _ ≤ 40 * d by simp only [List.length_cons, List.length_nil]; omega) (Nat.le_refl 1) (Nat.le_refl 6) C.2.2.2.2.1 (fun t _ h1 h2 => ⟨rfl, hR.grow h1 h2⟩) (fun q hq => hR.2.2.2 q hq) (Nat.le_refl 1) (Nat.le_refl 6)
  rcases List.mem_cons.mp hu with rfl | hu
  · rfl
  rcases List.mem_cons.mp hu with rfl | hu
  · rfl
  exact w.2.2.2.2.1 u hu
theorem r_throwW {k ik is ic : Nat} {text : String} (C : Cx G p l (rmX d (.inl k)) d s mid args meth c cc nL own) (hex : ∀ x ∈ c.exceptionTable.toList, False) (hR : Rp G mr n mem s H locs) (w : WT own ik ic k) (hstr : (own, is, text) ∈ strL) (h8 : 8 ≤ d) (hcat : (rest.map fun v => v.category).sum ≤ 8) (hsz : ls.size = nL)
    (d0 : decode cc pc = .ok (.new ik, 3)) (d3 : decode cc (pc + 3) = .ok (.dup, 1)) (d4 : decode cc (pc + 4) = .ok (.ldc_w is, 3)) (d6 : decode cc (pc + 7) = .ok (.invokespecial ic, 3)) (d9 : decode cc (pc + 10) = .ok (.athrow, 1)) :
    W p l e (rmX d (.inl k)) s mid args below meth c H locs 0 0 (ZX below G mr n (.inl k) mem args s) (F0 mid pc ls rest) := by
  obtain ⟨hs, -⟩ := C.2.2.2.1.1 _ hstr
  refine ns_throwSW (Yn := exTop) (names := exUp) (A := fun q => G.2.1 ≤ q) C.1.1 C.1.2.1 C.2.2.2.2.2.2 C.1.2.2.2.1 w.2.2.2.2.2.1 (by decide +kernel) (by decide +kernel) w.2.2.2.2.2.2.1 w.2.2.2.2.2.2.2.1 w.2.2.2.2.2.2.2.2.1 w.2.2.2.2.2.2.2.2.2 (C.1.2.2.2.2 _ w.1) (C.1.2.2.2.2 _ w.2.1) hs (w.at C) (fun u hu => ?_) C.2.2.2.1.2.1 C.2.2.2.1.2.2.1 hR.2 (hsz.trans C.1.2.2.1.symm) d0 d3 d4 d6 d9 (fun x hx => (hex x hx).elim) (show 5 < d by omega) (show _ ≤ 40 * d by simp only [List.length_cons, List.length_nil]; omega) (Nat.le_refl 1) (Nat.le_refl 6) C.2.2.2.2.1 (fun t _ h1 h2 => ⟨rfl, hR.grow h1 h2⟩) (fun q hq => hR.2.2.2 q hq) (Nat.le_refl 1) (Nat.le_refl 6)
  rcases List.mem_cons.mp hu with rfl | hu
  · rfl
  rcases List.mem_cons.mp hu with rfl | hu
  · rfl
  exact w.2.2.2.2.1 u hu
/-! calls of such methods -/
theorem callX_g {idx maxL na dz : Nat} {y : MethodName} {bytes : ByteArray} {ret : Option FieldType} {o : Ou} (C : Cx G p l R d s mid args meth c cc nL own) (w : WB own idx y bytes maxL ret na) (hd : dz + 1 ≤ d) (hmx : maxL ≤ 21) : CallB R s args own idx y bytes maxL ret (Cond.code y bytes maxL ret :: lw_gd) (rmX dz o) (cxO o) (sxO o) na :=
  callB_of na C.1.2.2.2.2 (GoodIn_gd0 _ w.2.2.1) rfl rfl rfl (C.1.2.2.2.2 _ w.2.1) (C.1.2.2.2.2 _ w.1) ⟨w.2.2.2.1, w.2.2.2.2.1, w.2.2.2.2.2⟩ (room_of C hd hmx)
/-- it returned -/
theorem x_ret {r : Option Value} {a : Array Value} {st0 : List Value} (hR : Rp G mr n mem s H locs) (hr : vx_Run p l e R s mid args below meth c H locs cells slots 0 0 (F0 mid pc ls st0) rest (QX G mr n (.inr r) mem' a) (XX G mr n (.inr r) mem') (fun q => G.2.1 ≤ q))
    (kk : ∀ (H : Heap) (locs : List Loc), Rp G mr n mem' s H locs → W p l e R s mid args below meth c H locs cells slots Q (F0 mid (pc + 3) ls (r.toList ++ rest))) : W p l e R s mid args below meth c H locs cells slots Q (F0 mid pc ls st0) := by
  intro T hT X
  rcases hr T hT X with ⟨v, st₀, t, T', L, h0, X', hL, e1, e2, ⟨hv, hP, hF⟩, st⟩ | ⟨q, st₀, t, T', L, E, ce, h0, X', hL, e1, e2, hx, -⟩
  · cases hv
    obtain ⟨t2, a1, b1⟩ := kk T'.heap (locs ++ L) (hR.step h0 e1 hP hF hL) T' rfl X'
    exact ⟨t2, st t2 a1, b1⟩
  · exact hx.elim
/-- it threw -/
theorem x_thr {k : Nat} {a : Array Value} {st0 : List Value} (hR : Rp G mr n mem s H locs) (hr : vx_Run p l e R s mid args below meth c H locs cells slots 1 6 (F0 mid pc ls st0) rest (QX G mr n (.inl k) mem' a) (XX G mr n (.inl k) mem') (fun q => G.2.1 ≤ q))
    (kk : ∀ (H : Heap) (locs : List Loc) (ce : Cell) (q : Addr), Rp G mr n mem' s H locs → H[q]? = some ce → ce.vm = .none → s.vm.findClass (exN k) = some ce.cls → vx_W p l e R s mid args below meth c H locs (cells + 1) (slots + 6) Q (F0 mid pc ls rest) q) : W p l e R s mid args below meth c H locs cells slots Q (F0 mid pc ls st0) := by
  intro T hT X
  rcases hr T hT X with ⟨v, st₀, t, T', L, h0, X', hL, e1, e2, hv, -⟩ | ⟨q, st₀, t, T', L, E, ce, h0, X', hL, e1, e2, ⟨rfl, hP, hF⟩, h3, h4, h5, st⟩
  · exact hv.elim
  · obtain ⟨t2, a1, b1⟩ := kk T'.heap (locs ++ L) ce q (hR.step h0 e1 hP hF hL) (by rw [e1]; exact h3) h4 h5 T' rfl X'
    exact ⟨t2, st.trans a1, b1⟩
theorem x_runV {o ci idx maxL na dz : Nat} {Cn : String} {T : u_T} {N : Nat} {y : MethodName} {bytes : ByteArray} {ret : Option FieldType} {As st0 : List Value} {ou : Ou} (C : Cx G p l R d s mid args meth c cc nL own) (hR : Rp G mr n mem s H locs)
    (hM : CtX l G mr n y bytes maxL ret dz (.ref (G.2.1 + o) :: As) mem ou mem') (hd : dz + 1 ≤ d) (hmx : maxL ≤ 21) (hob : o < n ∧ kd o = (0, ci)) (hc : cls[ci]? = some (Cn, T, N)) (w : WV own idx Cn y bytes maxL ret na) (hn : As.length = na) (hst : st0 = As.reverse ++ .ref (G.2.1 + o) :: rest) (hcat : (rest.map fun v => v.category).sum ≤ 8) (hsz : ls.size = nL) (hcs : cells + cxO ou ≤ R.cells ∧ slots + sxO ou ≤ R.slots) (hdg : decode cc pc = .ok (.invokevirtual idx, 3)) :
    vx_Run p l e R s mid args below meth c H locs cells slots (cxO ou) (sxO ou) (F0 mid pc ls st0) rest (QX G mr n ou mem' (Value.ref (G.2.1 + o) :: As).toArray) (XX G mr n ou mem') (fun q => G.2.1 ≤ q) :=
  vx_runV (As := As) (rest := rest) C.1 hM ⟨callX_g C w.1 hd hmx, C.1.2.2.2.2 _ w.2.1, C.1.2.2.2.2 _ w.2.2⟩ ⟨fun a U g mk q => ⟨q.1, q.2.calling g mk a⟩, recv_g C hR hob hc, fun U hU hW => ⟨rfl, PreRS C hR U hU hW⟩⟩ rfl hn hsz hst (lv_room hcat) hdg hcs
/-- a call that returned -/
theorem x_callV {o ci idx maxL na dz : Nat} {Cn : String} {T : u_T} {N : Nat} {y : MethodName} {bytes : ByteArray} {ret : Option FieldType} {As st0 : List Value} {r : Option Value} (C : Cx G p l R d s mid args meth c cc nL own) (hR : Rp G mr n mem s H locs)
    (hM : CtX l G mr n y bytes maxL ret dz (.ref (G.2.1 + o) :: As) mem (.inr r) mem') (hd : dz + 1 ≤ d) (hmx : maxL ≤ 21) (hob : o < n ∧ kd o = (0, ci)) (hc : cls[ci]? = some (Cn, T, N)) (w : WV own idx Cn y bytes maxL ret na) (hn : As.length = na) (hst : st0 = As.reverse ++ .ref (G.2.1 + o) :: rest) (hcat : (rest.map fun v => v.category).sum ≤ 8) (hsz : ls.size = nL) (hcs : cells ≤ R.cells ∧ slots ≤ R.slots) (hdg : decode cc pc = .ok (.invokevirtual idx, 3))
    (kk : ∀ (H : Heap) (locs : List Loc), Rp G mr n mem' s H locs → W p l e R s mid args below meth c H locs cells slots Q (F0 mid (pc + 3) ls (r.toList ++ rest))) : W p l e R s mid args below meth c H locs cells slots Q (F0 mid pc ls st0) :=
  x_ret hR (x_runV C hR hM hd hmx hob hc w hn hst hcat hsz hcs hdg) kk
/-- a call that threw, in a method that passes it on -/
theorem x_passV {o ci idx maxL na dz k : Nat} {Cn : String} {T : u_T} {N : Nat} {y : MethodName} {bytes : ByteArray} {ret : Option FieldType} {As st0 : List Value} (C : Cx G p l (rmX d (.inl k)) d s mid args meth c cc nL own) (hex : ∀ x ∈ c.exceptionTable.toList, False) (hR : Rp G mr n mem s H locs)
    (hM : CtX l G mr n y bytes maxL ret dz (.ref (G.2.1 + o) :: As) mem (.inl k) mem') (hd : dz + 1 ≤ d) (hmx : maxL ≤ 21) (hob : o < n ∧ kd o = (0, ci)) (hc : cls[ci]? = some (Cn, T, N)) (w : WV own idx Cn y bytes maxL ret na) (hn : As.length = na) (hst : st0 = As.reverse ++ .ref (G.2.1 + o) :: rest) (hcat : (rest.map fun v => v.category).sum ≤ 8) (hsz : ls.size = nL) (hdg : decode cc pc = .ok (.invokevirtual idx, 3)) :
    W p l e (rmX d (.inl k)) s mid args below meth c H locs 0 0 (ZX below G mr n (.inl k) mem' args s) (F0 mid pc ls st0) :=
  x_thr hR (x_runV C hR hM hd hmx hob hc w hn hst hcat hsz ⟨Nat.le_refl 1, Nat.le_refl 6⟩ hdg) (fun H1 locs1 ce q hR1 h3 h4 h5 => vx_out (fun x hx => (hex x hx).elim) C.2.2.2.2.1 h3 h4 h5 (fun t ht _ => ⟨rfl, by rw [ht]; exact hR1.1, hR1.2.F ht⟩) (fun q hq => hR1.2.2.2 q hq) (Nat.le_refl 1) (Nat.le_refl 6))
theorem if_b {α : Type} {x : Nat ⊕ α} {m m' : Mem} {y : Nat ⊕ α} (h : some (x, m) = some (y, m')) : x = y ∧ m = m' := by cases h; exact ⟨rfl, rfl⟩
def ouI (o : Nat ⊕ Int32) : Ou := match o with | .inl k => .inl k | .inr v => .inr (some (.int v))
def ouL (o : Nat ⊕ Int64) : Ou := match o with | .inl k => .inl k | .inr v => .inr (some (.long v))
def ouZ (o : Nat ⊕ Bool) : Ou := match o with | .inl k => .inl k | .inr v => .inr (some (.int (b2i v)))
def ouV (o : Nat ⊕ Unit) : Ou := match o with | .inl k => .inl k | .inr _ => .inr none
theorem x_callVi {o ci idx maxL na dz : Nat} {Cn : String} {T : u_T} {N : Nat} {y : MethodName} {bytes : ByteArray} {ret : Option FieldType} {As st0 : List Value} {v : Int32} (C : Cx G p l R d s mid args meth c cc nL own) (hR : Rp G mr n mem s H locs)
    (hM : CtX l G mr n y bytes maxL ret dz (.ref (G.2.1 + o) :: As) mem (.inr (some (.int v))) mem') (hd : dz + 1 ≤ d) (hmx : maxL ≤ 21) (hob : o < n ∧ kd o = (0, ci)) (hc : cls[ci]? = some (Cn, T, N)) (w : WV own idx Cn y bytes maxL ret na) (hn : As.length = na) (hst : st0 = As.reverse ++ .ref (G.2.1 + o) :: rest) (hcat : (rest.map fun v => v.category).sum ≤ 8) (hsz : ls.size = nL) (hcs : cells ≤ R.cells ∧ slots ≤ R.slots) (hdg : decode cc pc = .ok (.invokevirtual idx, 3))
    (kk : ∀ (H : Heap) (locs : List Loc), Rp G mr n mem' s H locs → W p l e R s mid args below meth c H locs cells slots Q (F0 mid (pc + 3) ls (.int v :: rest))) : W p l e R s mid args below meth c H locs cells slots Q (F0 mid pc ls st0) := x_callV C hR hM hd hmx hob hc w hn hst hcat hsz hcs hdg kk
theorem x_callVl {o ci idx maxL na dz : Nat} {Cn : String} {T : u_T} {N : Nat} {y : MethodName} {bytes : ByteArray} {ret : Option FieldType} {As st0 : List Value} {v : Int64} (C : Cx G p l R d s mid args meth c cc nL own) (hR : Rp G mr n mem s H locs)
    (hM : CtX l G mr n y bytes maxL ret dz (.ref (G.2.1 + o) :: As) mem (.inr (some (.long v))) mem') (hd : dz + 1 ≤ d) (hmx : maxL ≤ 21) (hob : o < n ∧ kd o = (0, ci)) (hc : cls[ci]? = some (Cn, T, N)) (w : WV own idx Cn y bytes maxL ret na) (hn : As.length = na) (hst : st0 = As.reverse ++ .ref (G.2.1 + o) :: rest) (hcat : (rest.map fun v => v.category).sum ≤ 8) (hsz : ls.size = nL) (hcs : cells ≤ R.cells ∧ slots ≤ R.slots) (hdg : decode cc pc = .ok (.invokevirtual idx, 3))
    (kk : ∀ (H : Heap) (locs : List Loc), Rp G mr n mem' s H locs → W p l e R s mid args below meth c H locs cells slots Q (F0 mid (pc + 3) ls (.long v :: rest))) : W p l e R s mid args below meth c H locs cells slots Q (F0 mid pc ls st0) := x_callV C hR hM hd hmx hob hc w hn hst hcat hsz hcs hdg kk
theorem x_callVv {o ci idx maxL na dz : Nat} {Cn : String} {T : u_T} {N : Nat} {y : MethodName} {bytes : ByteArray} {ret : Option FieldType} {As st0 : List Value}  (C : Cx G p l R d s mid args meth c cc nL own) (hR : Rp G mr n mem s H locs)
    (hM : CtX l G mr n y bytes maxL ret dz (.ref (G.2.1 + o) :: As) mem (.inr none) mem') (hd : dz + 1 ≤ d) (hmx : maxL ≤ 21) (hob : o < n ∧ kd o = (0, ci)) (hc : cls[ci]? = some (Cn, T, N)) (w : WV own idx Cn y bytes maxL ret na) (hn : As.length = na) (hst : st0 = As.reverse ++ .ref (G.2.1 + o) :: rest) (hcat : (rest.map fun v => v.category).sum ≤ 8) (hsz : ls.size = nL) (hcs : cells ≤ R.cells ∧ slots ≤ R.slots) (hdg : decode cc pc = .ok (.invokevirtual idx, 3))
    (kk : ∀ (H : Heap) (locs : List Loc), Rp G mr n mem' s H locs → W p l e R s mid args below meth c H locs cells slots Q (F0 mid (pc + 3) ls (rest))) : W p l e R s mid args below meth c H locs cells slots Q (F0 mid pc ls st0) := x_callV C hR hM hd hmx hob hc w hn hst hcat hsz hcs hdg kk
end THR
