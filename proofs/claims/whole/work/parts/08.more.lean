section MORE
variable {G : GG} {mr : MR} {n : Nat} {mem mem' : Mem} {p : Program} {l : Launch} {e : Env} {R : Room} {d : Nat} {s : State} {mid : MethodId} {args : Array Value} {below : List Frame} {meth : Method} {c : Code} {H : Heap} {locs : List Loc} {cells slots : Nat} {Q : State → Prop} {cc : ByteArray} {nL : Nat} {own : String} {pc : Nat} {ls : Array Slot} {rest : List Value}
/-! Math -/
theorem r_mxI {x y : Int32} {idx : Nat} (C : Cx G p l R d s mid args meth c cc nL own) (lk : Cond.methodLink own idx ⟨"java/lang/Math", "max", "(II)I"⟩ ∈ lw_gd) (hd : 1 ≤ d) (hcat : (rest.map fun v => v.category).sum ≤ 8) (hsz : ls.size = nL) (hcs : cells ≤ R.cells ∧ slots ≤ R.slots) (hdg : decode cc pc = .ok (.invokestatic idx, 3))
    (kk : W p l e R s mid args below meth c H locs cells slots Q (F0 mid (pc + 3) ls (.int (mxI x y) :: rest))) : W p l e R s mid args below meth c H locs cells slots Q (F0 mid pc ls (.int y :: .int x :: rest)) := by
  obtain ⟨h1, h2⟩ := C.2.2.2.2.2.1
  exact va_mmax C.1.1 C.1.2.1 (C.1.2.2.1.trans hsz.symm) C.1.2.2.2.1 (C.1.2.2.2.2 _ lk) (C.1.2.2.2.2 _ (gd q717 rfl)) (C.1.2.2.2.2 _ (gd q146 rfl)) (C.1.2.2.2.2 _ (gd q718 rfl)) (by omega) (by omega) hcs.1 hcs.2 hdg kk
theorem r_mnI {x y : Int32} {idx : Nat} (C : Cx G p l R d s mid args meth c cc nL own) (lk : Cond.methodLink own idx ⟨"java/lang/Math", "min", "(II)I"⟩ ∈ lw_gd) (hd : 1 ≤ d) (hcat : (rest.map fun v => v.category).sum ≤ 8) (hsz : ls.size = nL) (hcs : cells ≤ R.cells ∧ slots ≤ R.slots) (hdg : decode cc pc = .ok (.invokestatic idx, 3))
    (kk : W p l e R s mid args below meth c H locs cells slots Q (F0 mid (pc + 3) ls (.int (mnI x y) :: rest))) : W p l e R s mid args below meth c H locs cells slots Q (F0 mid pc ls (.int y :: .int x :: rest)) := by
  obtain ⟨h1, h2⟩ := C.2.2.2.2.2.1
  exact va_mmin C.1.1 C.1.2.1 (C.1.2.2.1.trans hsz.symm) C.1.2.2.2.1 (C.1.2.2.2.2 _ lk) (C.1.2.2.2.2 _ (gd q546 rfl)) (C.1.2.2.2.2 _ (gd q146 rfl)) (C.1.2.2.2.2 _ (gd q547 rfl)) (by omega) (by omega) hcs.1 hcs.2 hdg kk
theorem r_abI {x : Int32} {idx : Nat} (C : Cx G p l R d s mid args meth c cc nL own) (lk : Cond.methodLink own idx ⟨"java/lang/Math", "abs", "(I)I"⟩ ∈ lw_gd) (hd : 1 ≤ d) (hcat : (rest.map fun v => v.category).sum ≤ 8) (hsz : ls.size = nL) (hcs : cells ≤ R.cells ∧ slots ≤ R.slots) (hdg : decode cc pc = .ok (.invokestatic idx, 3))
    (kk : W p l e R s mid args below meth c H locs cells slots Q (F0 mid (pc + 3) ls (.int (abI x) :: rest))) : W p l e R s mid args below meth c H locs cells slots Q (F0 mid pc ls (.int x :: rest)) := by
  obtain ⟨h1, h2⟩ := C.2.2.2.2.2.1
  exact va_mabs C.1.1 C.1.2.1 (C.1.2.2.1.trans hsz.symm) C.1.2.2.2.1 (C.1.2.2.2.2 _ lk) (C.1.2.2.2.2 _ (gd q2067 rfl)) (C.1.2.2.2.2 _ (gd q146 rfl)) (C.1.2.2.2.2 _ (gd q2068 rfl)) (by omega) (by omega) hcs.1 hcs.2 hdg kk
theorem r_mxL {x y : Int64} {idx : Nat} (C : Cx G p l R d s mid args meth c cc nL own) (lk : Cond.methodLink own idx ⟨"java/lang/Math", "max", "(JJ)J"⟩ ∈ lw_gd) (hd : 1 ≤ d) (hcat : (rest.map fun v => v.category).sum ≤ 8) (hsz : ls.size = nL) (hcs : cells ≤ R.cells ∧ slots ≤ R.slots) (hdg : decode cc pc = .ok (.invokestatic idx, 3))
    (kk : W p l e R s mid args below meth c H locs cells slots Q (F0 mid (pc + 3) ls (.long (mxL x y) :: rest))) : W p l e R s mid args below meth c H locs cells slots Q (F0 mid pc ls (.long y :: .long x :: rest)) := by
  obtain ⟨h1, h2⟩ := C.2.2.2.2.2.1
  exact va_mmax_long C.1.1 C.1.2.1 (C.1.2.2.1.trans hsz.symm) C.1.2.2.2.1 (C.1.2.2.2.2 _ lk) (C.1.2.2.2.2 _ (gd q1391 rfl)) (C.1.2.2.2.2 _ (gd q146 rfl)) (C.1.2.2.2.2 _ (gd q1392 rfl)) (by omega) (by omega) hcs.1 hcs.2 hdg kk
theorem r_abL {x : Int64} {idx : Nat} (C : Cx G p l R d s mid args meth c cc nL own) (lk : Cond.methodLink own idx ⟨"java/lang/Math", "abs", "(J)J"⟩ ∈ lw_gd) (hd : 1 ≤ d) (hcat : (rest.map fun v => v.category).sum ≤ 8) (hsz : ls.size = nL) (hcs : cells ≤ R.cells ∧ slots ≤ R.slots) (hdg : decode cc pc = .ok (.invokestatic idx, 3))
    (kk : W p l e R s mid args below meth c H locs cells slots Q (F0 mid (pc + 3) ls (.long (abL x) :: rest))) : W p l e R s mid args below meth c H locs cells slots Q (F0 mid pc ls (.long x :: rest)) := by
  obtain ⟨h1, h2⟩ := C.2.2.2.2.2.1
  exact va_mabs_long C.1.1 C.1.2.1 (C.1.2.2.1.trans hsz.symm) C.1.2.2.2.1 (C.1.2.2.2.2 _ lk) (C.1.2.2.2.2 _ (gd q1377 rfl)) (C.1.2.2.2.2 _ (gd q146 rfl)) (C.1.2.2.2.2 _ (gd q1378 rfl)) (by omega) (by omega) hcs.1 hcs.2 hdg kk
/-! constants that are texts -/
theorem r_lds {idx : Nat} {tx : String} (C : Cx G p l R d s mid args meth c cc nL own) (hm : (own, idx, tx) ∈ strL) (hdg : decode cc pc = .ok (.ldc idx, 2))
    (kk : W p l e R s mid args below meth c H locs cells slots Q (F0 mid (pc + 2) ls (.ref (G.2.2.2.2.2.2 tx) :: rest))) : W p l e R s mid args below meth c H locs cells slots Q (F0 mid pc ls rest) :=
  va_ldcS C.1.1 C.1.2.1 C.1.2.2.2.1 (C.2.2.2.1.1 _ hm).1 hdg kk
/-! a static method of a nest mate; a method that the receiver's class overrides -/
def WSN (own : String) (idx : Nat) (host : String) (y : MethodName) (bytes : ByteArray) (maxL : Nat) (ret : Option FieldType) (na : Nat) : Prop :=
  (own, idx, y, host) ∈ nestL ∧ Cond.initialized y.cls ∈ lw_gd ∧ Cond.code y bytes maxL ret ∈ lw_gd ∧ Cond.static y ∈ lw_gd ∧ y.cls ≠ "java/lang/invoke/MethodHandle" ∧ y.cls ≠ "java/lang/invoke/VarHandle" ∧ (parseMethodDescriptor y.desc).map (fun d => d.parameters.length) = some na
theorem r_callSN {idx maxL na dz : Nat} {host : String} {y : MethodName} {bytes : ByteArray} {ret : Option FieldType} {As st0 : List Value} {r : Option Value} (C : Cx G p l R d s mid args meth c cc nL own) (hR : Rp G mr n mem s H locs)
    (hM : Ct l G mr n y bytes maxL ret dz As mem r mem') (hd : dz + 1 ≤ d) (hmx : maxL ≤ 21) (w : WSN own idx host y bytes maxL ret na) (hn : As.length = na) (hst : st0 = As.reverse ++ rest) (hcat : (rest.map fun v => v.category).sum ≤ 8) (hsz : ls.size = nL) (hcs : cells ≤ R.cells ∧ slots ≤ R.slots) (hdg : decode cc pc = .ok (.invokestatic idx, 3))
    (kk : ∀ (H : Heap) (locs : List Loc), Rp G mr n mem' s H locs → W p l e R s mid args below meth c H locs cells slots Q (F0 mid (pc + 3) ls (r.toList ++ rest))) : W p l e R s mid args below meth c H locs cells slots Q (F0 mid pc ls st0) :=
  r_after hR (va_runSN (As := As) (rest := rest) (host := host) C.1 hM ⟨va_cnB na C.1.2.2.2.2 (GoodIn_gd0 _ w.2.2.1) rfl rfl rfl (C.2.2.2.1.2.2.2.1 _ w.1) (C.1.2.2.2.2 _ w.2.1) ⟨w.2.2.2.2.1, w.2.2.2.2.2.1, w.2.2.2.2.2.2⟩ (room_of C hd hmx), C.1.2.2.2.2 _ w.2.2.2.1, trivial⟩ ⟨fun a U g mk q => ⟨q.1, q.2.calling g mk a⟩, fun U hU hW => ⟨rfl, PreRS C hR U hU hW⟩⟩ rfl hn hsz hst (lv_room hcat) hdg hcs) kk
theorem r_callSNi {idx maxL na dz : Nat} {host : String} {y : MethodName} {bytes : ByteArray} {ret : Option FieldType} {As st0 : List Value} {v : Int32} (C : Cx G p l R d s mid args meth c cc nL own) (hR : Rp G mr n mem s H locs)
    (hM : Ct l G mr n y bytes maxL ret dz As mem (some (.int v)) mem') (hd : dz + 1 ≤ d) (hmx : maxL ≤ 21) (w : WSN own idx host y bytes maxL ret na) (hn : As.length = na) (hst : st0 = As.reverse ++ rest) (hcat : (rest.map fun v => v.category).sum ≤ 8) (hsz : ls.size = nL) (hcs : cells ≤ R.cells ∧ slots ≤ R.slots) (hdg : decode cc pc = .ok (.invokestatic idx, 3))
    (kk : ∀ (H : Heap) (locs : List Loc), Rp G mr n mem' s H locs → W p l e R s mid args below meth c H locs cells slots Q (F0 mid (pc + 3) ls (.int v :: rest))) : W p l e R s mid args below meth c H locs cells slots Q (F0 mid pc ls st0) := r_callSN C hR hM hd hmx w hn hst hcat hsz hcs hdg kk
def WO (own : String) (idx : Nat) (Cn owner : String) (x y : MethodName) (bytes : ByteArray) (maxL : Nat) (ret : Option FieldType) (na : Nat) : Prop :=
  Cond.methodLink own idx x ∈ lw_gd ∧ Cond.sameMethod x.cls owner x.name x.desc ∈ lw_gd ∧ Cond.selects Cn x y ∈ lw_gd ∧ Cond.instanceMethod y ∈ lw_gd ∧ Cond.initialized y.cls ∈ lw_gd ∧ Cond.code y bytes maxL ret ∈ lw_gd ∧ (⟨owner, x.name, x.desc⟩ : MethodName) ∈ declL ∧ owner ≠ "java/lang/invoke/MethodHandle" ∧ owner ≠ "java/lang/invoke/VarHandle" ∧ (parseMethodDescriptor x.desc).map (fun d => d.parameters.length) = some na
theorem r_callOv {o ci idx maxL na dz : Nat} {Cn owner : String} {T : u_T} {N : Nat} {x y : MethodName} {bytes : ByteArray} {ret : Option FieldType} {As st0 : List Value} (C : Cx G p l R d s mid args meth c cc nL own) (hR : Rp G mr n mem s H locs)
    (hM : Ct l G mr n y bytes maxL ret dz (.ref (G.2.1 + o) :: As) mem none mem') (hd : dz + 1 ≤ d) (hmx : maxL ≤ 21) (hob : o < n ∧ kd o = (0, ci)) (hc : cls[ci]? = some (Cn, T, N)) (w : WO own idx Cn owner x y bytes maxL ret na) (hn : As.length = na) (hst : st0 = As.reverse ++ .ref (G.2.1 + o) :: rest) (hcat : (rest.map fun v => v.category).sum ≤ 8) (hsz : ls.size = nL) (hcs : cells ≤ R.cells ∧ slots ≤ R.slots) (hdg : decode cc pc = .ok (.invokevirtual idx, 3))
    (kk : ∀ (H : Heap) (locs : List Loc), Rp G mr n mem' s H locs → W p l e R s mid args below meth c H locs cells slots Q (F0 mid (pc + 3) ls rest)) : W p l e R s mid args below meth c H locs cells slots Q (F0 mid pc ls st0) :=
  r_after (r := none) hR (va_runU (As := As) (rest := rest) C.1 hM ⟨⟨rfl, rfl, (room_of C hd hmx).1, (room_of C hd hmx).2, pay_in C.1.2.2.2.2 (GoodIn_gd0 _ w.2.2.2.2.2.1), List.mem_cons_self⟩, C.1.2.2.2.2 _ w.2.2.2.2.2.1, C.1.2.2.2.2 _ w.2.2.2.2.1, ⟨w.2.2.2.2.2.2.2.1, w.2.2.2.2.2.2.2.2.1⟩, (fun sig h => by have h2 := w.2.2.2.2.2.2.2.2.2; rw [h] at h2; exact (Option.some.inj h2).symm), C.1.2.2.2.2 _ w.1, C.1.2.2.2.2 _ w.2.1, va_Decl.abs (C.2.2.2.1.2.2.2.2.2.1 _ w.2.2.2.2.2.2.1), C.1.2.2.2.2 _ w.2.2.1, C.1.2.2.2.2 _ w.2.2.2.1⟩ ⟨fun a U g mk q => ⟨q.1, q.2.calling g mk a⟩, recv_g C hR hob hc, fun U hU hW => ⟨rfl, PreRS C hR U hU hW⟩⟩ rfl hn hsz hst (lv_room hcat) hdg hcs) kk
theorem lk_out {ps : List (Int × Int)} {dflt x : Int} (h : ps.all (fun q => decide (q.1 ≠ x)) = true) : Op.lookupswitch.offset ps dflt x = dflt := by
  induction ps with
  | nil => rfl
  | cons a ps ih =>
    obtain ⟨k, o⟩ := a
    simp only [List.all_cons, Bool.and_eq_true, decide_eq_true_eq] at h
    unfold Op.lookupswitch.offset
    split
    · rename_i he
      first | exact absurd he h.1 | exact absurd he.symm h.1 | (simp at he; exact absurd he h.1) | (simp at he; exact absurd he.symm h.1)
    · exact ih h.2
def isM (k : Nat) : Prop := (k < N0 ∧ kd k = (0, 5)) ∧ (k + 1 < N0 ∧ kd (k + 1) = (1, 63)) ∧ mr0 k 10 = some (k + 1)
def isMb (k : Nat) : Bool := decide ((k < N0 ∧ kd k = (0, 5)) ∧ (k + 1 < N0 ∧ kd (k + 1) = (1, 63)) ∧ mr0 k 10 = some (k + 1))
def oMat {β : Type} (r : Option Nat) (a : Option β) (f : Nat → Option β) : Option β := match r with
  | none => a
  | some k => if isMb k = true then f k else none
theorem oMat_ex {β : Type} {r : Option Nat} {a : Option β} {f : Nat → Option β} {v : β} (h : oMat r a f = some v) : (r = none ∧ a = some v) ∨ ∃ k, r = some k ∧ isM k ∧ f k = some v := by
  match r, h with
  | none, h => exact Or.inl ⟨rfl, h⟩
  | some k, h =>
    unfold oMat at h
    dsimp only at h
    split at h
    · rename_i hk
      have hk2 : (k < N0 ∧ kd k = (0, 5)) ∧ (k + 1 < N0 ∧ kd (k + 1) = (1, 63)) ∧ mr0 k 10 = some (k + 1) := of_decide_eq_true hk
      exact Or.inr ⟨k, rfl, hk2, h⟩
    · cases h
end MORE
