section WRP
/-! ===== the law's methods that catch: contracts ===== -/
def NCS (U : State) : Prop := ∀ i j : Nat, i < 5 → j < 5 → i ≠ j → va_Nc (exN i) (exN j) U
theorem NCS.go {u U : State} (hvm : u.vm.Alike U.vm) (h : NCS u) : NCS U := fun i j a b e => (h i j a b e).moved hvm
/-- such a method: the class's answer o caught; it returns th -/
def Wt (l : Launch) (G : GG) (y : MethodName) (bytes : ByteArray) (maxL : Nat) (hh : List (Nat × Nat × Nat × Nat)) (d : Nat) (av : List Value) (mem : Mem) (o : Ou) (th : Int32) (mem' : Mem) : Prop :=
  vx_Met l y (Cond.codeWith y bytes maxL (some .int) hh :: lw_gd) (rmX d o) (va_Pc av (fun U => RS G mr0 N0 mem U ∧ NCS U)) (QR G mr0 N0 (some (.int th)) mem') (fun _ _ _ => False) (cxO o) (sxO o) (fun q => G.2.1 ≤ q)
def WX (below : List Frame) (G : GG) (th : Int32) (mem' : Mem) (o : Ou) (args : Array Value) (s : State) : State → Prop := vx_MQ below (QR G mr0 N0 (some (.int th)) mem') (fun _ _ _ => False) args s (cxO o) (sxO o) (fun q => G.2.1 ≤ q)
variable {G : GG} {mr : MR} {n : Nat} {mem mem' : Mem} {p : Program} {l : Launch} {e : Env} {R : Room} {d : Nat} {s : State} {mid : MethodId} {args : Array Value} {below : List Frame} {meth : Method} {c : Code} {H : Heap} {locs : List Loc} {cells slots : Nat} {Q : State → Prop} {cc : ByteArray} {nL : Nat} {own : String} {pc : Nat} {ls : Array Slot} {rest : List Value}
theorem Wt_of {y : MethodName} {bytes : ByteArray} {maxL : Nat} {hh : List (Nat × Nat × Nat × Nat)} {av : List Value} {o : Ou} {th : Int32} (hl : l.stackTraces = false) (hy : plainName y.cls = true) (hlen : (lg_sl av).length ≤ maxL)
    (body : ∀ (p : Program) (e : Env) (s : State) (mid : MethodId) (args : Array Value) (below : List Frame) (meth : Method) (c : Code) (ls : Array Slot), Cx G p l (rmX d o) d s mid args meth c bytes maxL y.cls → NCS s → meth.sig.returnType = some .int → c.exceptionTable.toList = tableOf hh → lv_has ls maxL (lv_args 0 av) → Rp G mr0 N0 mem s s.heap [] → W p l e (rmX d o) s mid args below meth c s.heap [] 0 0 (WX below G th mem' o args s) (F0 mid 0 ls [])) :
    Wt l G y bytes maxL hh d av mem o th mem' := by
  refine vx_ofWH (cc := bytes) (maxL := maxL) (ret := some .int) (hh := hh) hy rfl ?_
  intro p e s m args below meth c s₁ B hml hv
  obtain ⟨rfl, ⟨hP, hK, hb, hE⟩, hN⟩ := hv
  have hts := atoms_spec (ws := Cond.codeWith y bytes maxL (some .int) hh :: lw_gd) B.pre
  rw [lg_entry_eq]
  exact body p e s m _ below meth c _ ⟨⟨B.exec, B.bytes, hml, findClass_of_methodNamed B.named, fun w hw => hts w (List.mem_cons_of_mem _ hw)⟩, hK, hb, hE, B.notSynchronized, ⟨Nat.le_refl _, Nat.le_refl _⟩, hl⟩ hN B.returns (vx_table (x := y) B (hts _ List.mem_cons_self)) (lv_entry av hlen) ⟨hP, va_S.rf⟩
/-- a throw that is caught -/
theorem w_catch {hh pre suf : List (Nat × Nat × Nat × Nat)} {a b h ct k : Nat} {ce : Cell} {q : Addr} (C : Cx G p l R d s mid args meth c cc nL own) (hN : NCS s) (htab : c.exceptionTable.toList = tableOf hh) (hs : hh = pre ++ (a, b, h, ct) :: suf) (hk : k < 5)
    (hp : ∀ z ∈ pre, z.2.2.2 ≠ 0 ∧ ∃ k' : Nat, k' < 5 ∧ k ≠ k' ∧ Cond.classLink own z.2.2.2 (exN k') ∈ lw_gd) (hcov : covers ⟨a, b, h, ct⟩ pc = true) (h0 : ct ≠ 0) (hl : Cond.classLink own ct (exN k) ∈ lw_gd) (hcell : H[q]? = some ce) (hv : ce.vm = .none) (hcl : s.vm.findClass (exN k) = some ce.cls)
    (kk : W p l e R s mid args below meth c H locs cells slots Q (F0 mid h ls [.ref q])) : vx_W p l e R s mid args below meth c H locs cells slots Q (F0 mid pc ls rest) q := by
  have hsplit : c.exceptionTable.toList = tableOf pre ++ (⟨a, b, h, ct⟩ : ExceptionTableEntry) :: tableOf suf := by
    rw [htab, hs]
    simp [tableOf]
  refine vx_catch (own := own) (name := exN k) (E := exN k) C.1.2.2.2.1 _ _ _ hsplit (fun z hz => ?_) hcov h0 (C.1.2.2.2.2 _ hl) ?_ hcell hv hcl kk
  · obtain ⟨z', hz', rfl⟩ := List.mem_map.mp hz
    obtain ⟨z0, k', k5, kn, hw⟩ := hp z' hz'
    exact Or.inr ⟨z0, exN k', C.1.2.2.2.2 _ hw, hN k k' hk k5 kn⟩
  · have hm : (exN k, exN k) ∈ castL := by
      have : k = 0 ∨ k = 1 ∨ k = 2 ∨ k = 3 ∨ k = 4 := by omega
      rcases this with h | h | h | h | h <;> subst h <;> decide +kernel
    exact va_Nw.use rfl (C.2.2.2.1.2.2.2.2.1 (exN k, exN k) hm)
def b2l (z : Bool) : Int64 := cond z 1 0
theorem w_ret {v : Int32} {o : Ou} (C : Cx G p l R d s mid args meth c cc nL own) (hr : meth.sig.returnType = some .int) (hR : Rp G mr0 N0 mem s H locs) (hc : cells = cxO o) (hs : slots = sxO o) (hdg : decode cc pc = .ok (.ireturn, 1)) : W p l e R s mid args below meth c H locs cells slots (WX below G v mem o args s) (F0 mid pc ls [.int v]) := by
  subst hc
  subst hs
  exact vx_ret (r_iret C hr hR hdg)
end WRP
