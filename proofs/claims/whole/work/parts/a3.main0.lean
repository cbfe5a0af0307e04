section MAIN
variable {G : GG} {mr : MR} {n : Nat} {mem mem' : Mem} {p : Program} {l : Launch} {e : Env} {R : Room} {d : Nat} {s : State} {mid : MethodId} {args : Array Value} {below : List Frame} {meth : Method} {c : Code} {H : Heap} {locs : List Loc} {cells slots : Nat} {Q : State → Prop} {cc : ByteArray} {nL : Nat} {own : String} {pc : Nat} {ls : Array Slot} {rest : List Value}
/-! ===== the law's own body: rows ===== -/
def WSW (own : String) (idx : Nat) (y : MethodName) (bytes : ByteArray) (maxL : Nat) (hh : List (Nat × Nat × Nat × Nat)) (na : Nat) : Prop :=
  Cond.methodLink own idx y ∈ lw_gd ∧ Cond.static y ∈ lw_gd ∧ Cond.initialized y.cls ∈ lw_gd ∧ Cond.codeWith y bytes maxL (some .int) hh ∈ lw_gd ∧ y.cls ≠ "java/lang/invoke/MethodHandle" ∧ y.cls ≠ "java/lang/invoke/VarHandle" ∧ (parseMethodDescriptor y.desc).map (fun d => d.parameters.length) = some na
theorem r_callW {idx maxL na dz : Nat} {y : MethodName} {bytes : ByteArray} {hh : List (Nat × Nat × Nat × Nat)} {As st0 : List Value} {o : Ou} {th : Int32} (C : Cx G p l R d s mid args meth c cc nL own) (hN : NCS s) (hR : Rp G mr0 N0 mem s H locs)
    (hM : Wt l G y bytes maxL hh dz As mem o th mem') (hd : dz + 1 ≤ d) (hmx : maxL ≤ 21) (w : WSW own idx y bytes maxL hh na) (hn : As.length = na) (hst : st0 = As.reverse ++ rest) (hcat : (rest.map fun v => v.category).sum ≤ 8) (hsz : ls.size = nL) (hcs : cells + cxO o ≤ R.cells ∧ slots + sxO o ≤ R.slots) (hdg : decode cc pc = .ok (.invokestatic idx, 3))
    (kk : ∀ (H : Heap) (locs : List Loc), Rp G mr0 N0 mem' s H locs → W p l e R s mid args below meth c H locs (cells + cxO o) (slots + sxO o) Q (F0 mid (pc + 3) ls (.int th :: rest))) : W p l e R s mid args below meth c H locs cells slots Q (F0 mid pc ls st0) := by
  obtain ⟨w1, w2, w3, w4, w5, w6, w7⟩ := w
  have hG : GoodIn lw_gd (va_wsS own idx y (Cond.codeWith y bytes maxL (some .int) hh :: lw_gd)) := fun u hu => by
    have h : u ∈ lw_gd := by
      rcases List.mem_append.mp hu with h | h
      · rcases List.mem_cons.mp h with e | h
        · rw [e]; exact w1
        rcases List.mem_cons.mp h with e | h
        · rw [e]; exact w2
        rcases List.mem_cons.mp h with e | h
        · rw [e]; exact w3
        · cases h
      · rcases List.mem_cons.mp h with e | h
        · rw [e]; exact w4
        · exact h
    exact ⟨h, good_of_word (lw_good u h)⟩
  have cw := vx_cwSW (R := R) (s := s) (args := args) (rm := rmX dz o) (mc := cxO o) (ms := sxO o) na C.1.2.2.2.2 hG rfl rfl rfl ⟨w5, w6, w7⟩ (room_of C hd hmx)
  have hr := vx_runSX (p := p) (l := l) (e := e) (m := mid) (below := below) (meth := meth) (c := c) (H := H) (locs := locs) (cells := cells) (slots := slots) (g := F0 mid pc ls st0) (As := As) (rest := rest) C.1 hM cw ⟨fun a U g mk q => ⟨q.1, q.2.1.calling g mk a, q.2.2.go (Vm.Alike.refl U.vm)⟩, fun U hU hW => ⟨rfl, PreRS C hR U hU hW, hN.go hW.alike⟩⟩ rfl hn hsz hst (lv_room hcat) hdg hcs
  intro T hT X
  rcases hr T hT X with ⟨v, st₀, t, T', L, h0, X', hL, e1, e2, ⟨hv, hP, hF⟩, st⟩ | ⟨q, st₀, t, T', L, E, ce, h0, X', hL, e1, e2, hx, -⟩
  · cases hv
    obtain ⟨t2, a1, b1⟩ := kk T'.heap (locs ++ L) (hR.step h0 e1 hP hF hL) T' rfl X'
    exact ⟨t2, st t2 a1, b1⟩
  · exact hx.elim
/-- an argument out of the script -/
theorem r_arg {b L : Nat} {xs : Nat → Int32} {i k x : Int32} {ki : Int} (C : Cx G p l R d s mid args meth c cc nL own) (hX : va_X b L xs s s.heap) (hbl : b < s.heap.size) (hbA : ¬ G.2.1 ≤ b) (hR : Rp G mr0 N0 mem s H locs) (l0 : ls[0]? = some (.val (.ref b))) (l4 : ls[4]? = some (.val (.int i)))
    (hin : vp_in (i + k) L) (hx : xs (i + k).toNatClampNeg = x) (d0 : decode cc pc = .ok (.aload_n 0, 1)) (d1 : decode cc (pc + 1) = .ok (.iload 4, 2)) (d3 : decode cc (pc + 3) = .ok (.iconst ki, 1)) (hk : Int32.ofInt ki = k) (d4 : decode cc (pc + 4) = .ok (.iadd, 1)) (d5 : decode cc (pc + 5) = .ok (.iaload, 1))
    (kk : W p l e R s mid args below meth c H locs cells slots Q (F0 mid (pc + 6) ls (.int x :: rest))) : W p l e R s mid args below meth c H locs cells slots Q (F0 mid pc ls rest) := by
  subst hx
  refine lv_aload_n C.1.1 C.1.2.1 d0 rfl l0 ?_
  refine lv_iload C.1.1 C.1.2.1 d1 l4 ?_
  refine lv_iconst C.1.1 C.1.2.1 d3 hk ?_
  refine lv_iadd C.1.1 C.1.2.1 d4 ?_
  exact va_sld C.1.1 C.1.2.1 hX hbl hbA hR.2 hin d5 kk
/-- the same, the place by a byte -/
theorem r_argB {b L : Nat} {xs : Nat → Int32} {i k x : Int32} {ki : Int} (C : Cx G p l R d s mid args meth c cc nL own) (hX : va_X b L xs s s.heap) (hbl : b < s.heap.size) (hbA : ¬ G.2.1 ≤ b) (hR : Rp G mr0 N0 mem s H locs) (l0 : ls[0]? = some (.val (.ref b))) (l4 : ls[4]? = some (.val (.int i)))
    (hin : vp_in (i + k) L) (hx : xs (i + k).toNatClampNeg = x) (d0 : decode cc pc = .ok (.aload_n 0, 1)) (d1 : decode cc (pc + 1) = .ok (.iload 4, 2)) (d3 : decode cc (pc + 3) = .ok (.bipush ki, 2)) (hk : (Int8.ofInt ki).toInt32 = k) (d4 : decode cc (pc + 5) = .ok (.iadd, 1)) (d5 : decode cc (pc + 6) = .ok (.iaload, 1))
    (kk : W p l e R s mid args below meth c H locs cells slots Q (F0 mid (pc + 7) ls (.int x :: rest))) : W p l e R s mid args below meth c H locs cells slots Q (F0 mid pc ls rest) := by
  subst hx
  refine lv_aload_n C.1.1 C.1.2.1 d0 rfl l0 ?_
  refine lv_iload C.1.1 C.1.2.1 d1 l4 ?_
  refine lv_bipush C.1.1 C.1.2.1 d3 hk ?_
  refine lv_iadd C.1.1 C.1.2.1 d4 ?_
  exact va_sld C.1.1 C.1.2.1 hX hbl hbA hR.2 hin d5 kk
/-- x != 0 on the stack -/
theorem r_bool {x : Int32} {z : Bool} (C : Cx G p l R d s mid args meth c cc nL own) (hz : z = decide (x ≠ 0)) (d0 : decode cc pc = .ok (.ifCond .eq 7, 3)) (d3 : decode cc (pc + 3) = .ok (.iconst 1, 1)) (d4 : decode cc (pc + 4) = .ok (.goto 4, 3)) (d7 : decode cc (pc + 7) = .ok (.iconst 0, 1))
    (kk : W p l e R s mid args below meth c H locs cells slots Q (F0 mid (pc + 8) ls (.int (b2i z) :: rest))) : W p l e R s mid args below meth c H locs cells slots Q (F0 mid pc ls (.int x :: rest)) := by
  subst hz
  refine lv_if_eq (tgt := pc + 7) C.1.1 C.1.2.1 d0 (by omega) (fun h => ?_) (fun h => ?_)
  · refine lv_iconst (v := (0 : Int32)) C.1.1 C.1.2.1 d7 (by decide) ?_
    subst h
    exact kk
  · refine lv_iconst (v := (1 : Int32)) C.1.1 C.1.2.1 d3 (by decide) ?_
    refine lv_goto (tgt := pc + 8) C.1.1 C.1.2.1 d4 (by omega) ?_
    rw [show decide (x ≠ 0) = true from decide_eq_true h] at kk
    exact kk
def five (G : GG) (b : Nat) (i : Int32) : List (Nat × Value) := [(0, .ref b), (1, .ref (G.2.1 + 0)), (2, .ref (G.2.1 + 78)), (3, .ref (G.2.1 + 91)), (4, .int i)]
theorem cW (hl0 : l.stackTraces = false) (C : Cx G p l R d s mid args meth c cc nL own) : True := trivial
/-- behind the reference's answer: an int -/
theorem T_int {b : Nat} {i th v : Int32} {q tgt : Nat} {og : Int} (hl0 : l.stackTraces = false) (C : Cx G p l R d s mid args meth c cc 8 own) (hd : 2 ≤ d) (hR : Rp G mr0 N0 mem s H locs) (hl : lv_has ls 8 ((5, .int th) :: five G b i)) (hth : gI mem 78 0 = th) (hv : th = 0 → gL mem 91 0 = v.toInt64) (hcs : cells ≤ R.cells ∧ slots ≤ R.slots)
    (w : WV own 172 RX11 yX11_thrown cX11_thrown 1 (some .int) 0) (d0 : decode cc q = .ok (.istore 6, 2)) (d2 : decode cc (q + 2) = .ok (.aload_n 2, 1)) (d3 : decode cc (q + 3) = .ok (.invokevirtual 172, 3)) (d6 : decode cc (q + 6) = .ok (.iload 5, 2)) (d8 : decode cc (q + 8) = .ok (.if_icmp .eq 5, 3))
    (d13 : decode cc (q + 13) = .ok (.iload 5, 2)) (d15 : decode cc (q + 15) = .ok (.ifCond .ne 15, 3)) (d18 : decode cc (q + 18) = .ok (.aload_n 3, 1)) (d19 : decode cc (q + 19) = .ok (.iconst 0, 1)) (d20 : decode cc (q + 20) = .ok (.laload, 1)) (d21 : decode cc (q + 21) = .ok (.iload 6, 2)) (d23 : decode cc (q + 23) = .ok (.i2l, 1)) (d24 : decode cc (q + 24) = .ok (.lcmp, 1)) (d25 : decode cc (q + 25) = .ok (.ifCond .eq 5, 3)) (d30 : decode cc (q + 30) = .ok (.goto og, 3)) (ht : ((q + 30 : Nat) : Int) + og = (tgt : Int))
    (kk : ∀ (H : Heap) (locs : List Loc) (ls : Array Slot), lv_has ls 8 (five G b i) → Rp G mr0 N0 mem s H locs → W p l e R s mid args below meth c H locs cells slots Q (F0 mid tgt ls [])) : W p l e R s mid args below meth c H locs cells slots Q (F0 mid q ls [.int v]) := by
  have hx := C.1.1
  have hb := C.1.2.1
  refine lv_istore (lv' := (6, .int v) :: (5, .int th) :: five G b i) hx hb d0 hl (by decide) rfl (fun ls hl => ?_)
  refine lv_aload_n hx hb d2 rfl (lv_at hl 4 rfl) ?_
  refine r_callVi (As := []) (rest := []) C hR (C_M_thrown l hl0 G mem _ _ rfl) hd (by decide) ob78 rfl w rfl rfl (Nat.le_of_ble_eq_true rfl) hl.1 hcs d3 (fun H locs hR => ?_)
  refine lv_iload hx hb d6 (lv_at hl 1 rfl) ?_
  refine lv_icmp_eq (tgt := q + 13) hx hb d8 (by omega) (fun _ => ?_) (fun h => absurd hth h)
  refine lv_iload hx hb d13 (lv_at hl 1 rfl) ?_
  have fin : W p l e R s mid args below meth c H locs cells slots Q (F0 mid (q + 30) ls []) := lv_goto hx hb d30 ht (kk H locs ls (lv_sub hl [2, 3, 4, 5, 6] rfl) hR)
  refine lv_if_ne (tgt := q + 30) hx hb d15 (by omega) (fun _ => fin) (fun h => ?_)
  have h0 : th = 0 := h
  refine lv_aload_n hx hb d18 rfl (lv_at hl 5 rfl) ?_
  refine lv_iconst (v := (0 : Int32)) hx hb d19 (by decide) ?_
  refine r_lald C hR ob91 rfl d20 ?_
  refine lv_iload hx hb d21 (lv_at hl 0 rfl) ?_
  refine lv_i2l hx hb d23 rfl ?_
  exact l_ifeq (tgt := q + 30) hx hb d24 d25 (by omega) (fun _ => fin) (fun g => absurd (hv h0) g)
/-- the same: a long -/
theorem T_long {b : Nat} {i th : Int32} {v : Int64} {q tgt : Nat} {og : Int} (hl0 : l.stackTraces = false) (C : Cx G p l R d s mid args meth c cc 8 own) (hd : 2 ≤ d) (hR : Rp G mr0 N0 mem s H locs) (hl : lv_has ls 8 ((5, .int th) :: five G b i)) (hth : gI mem 78 0 = th) (hv : th = 0 → gL mem 91 0 = v) (hcs : cells ≤ R.cells ∧ slots ≤ R.slots)
    (w : WV own 172 RX11 yX11_thrown cX11_thrown 1 (some .int) 0) (d0 : decode cc q = .ok (.lstore 6, 2)) (d2 : decode cc (q + 2) = .ok (.aload_n 2, 1)) (d3 : decode cc (q + 3) = .ok (.invokevirtual 172, 3)) (d6 : decode cc (q + 6) = .ok (.iload 5, 2)) (d8 : decode cc (q + 8) = .ok (.if_icmp .eq 5, 3))
    (d13 : decode cc (q + 13) = .ok (.iload 5, 2)) (d15 : decode cc (q + 15) = .ok (.ifCond .ne 14, 3)) (d18 : decode cc (q + 18) = .ok (.aload_n 3, 1)) (d19 : decode cc (q + 19) = .ok (.iconst 0, 1)) (d20 : decode cc (q + 20) = .ok (.laload, 1)) (d21 : decode cc (q + 21) = .ok (.lload 6, 2)) (d24 : decode cc (q + 23) = .ok (.lcmp, 1)) (d25 : decode cc (q + 24) = .ok (.ifCond .eq 5, 3)) (d30 : decode cc (q + 29) = .ok (.goto og, 3)) (ht : ((q + 29 : Nat) : Int) + og = (tgt : Int))
    (kk : ∀ (H : Heap) (locs : List Loc) (ls : Array Slot), lv_has ls 8 (five G b i) → Rp G mr0 N0 mem s H locs → W p l e R s mid args below meth c H locs cells slots Q (F0 mid tgt ls [])) : W p l e R s mid args below meth c H locs cells slots Q (F0 mid q ls [.long v]) := by
  have hx := C.1.1
  have hb := C.1.2.1
  refine lv_lstore (lv' := (6, .long v) :: (5, .int th) :: five G b i) hx hb d0 hl (by decide) rfl (fun ls hl => ?_)
  refine lv_aload_n hx hb d2 rfl (lv_at hl 4 rfl) ?_
  refine r_callVi (As := []) (rest := []) C hR (C_M_thrown l hl0 G mem _ _ rfl) hd (by decide) ob78 rfl w rfl rfl (Nat.le_of_ble_eq_true rfl) hl.1 hcs d3 (fun H locs hR => ?_)
  refine lv_iload hx hb d6 (lv_at hl 1 rfl) ?_
  refine lv_icmp_eq (tgt := q + 13) hx hb d8 (by omega) (fun _ => ?_) (fun h => absurd hth h)
  refine lv_iload hx hb d13 (lv_at hl 1 rfl) ?_
  have fin : W p l e R s mid args below meth c H locs cells slots Q (F0 mid (q + 29) ls []) := lv_goto hx hb d30 ht (kk H locs ls (lv_sub hl [2, 3, 4, 5, 6] rfl) hR)
  refine lv_if_ne (tgt := q + 29) hx hb d15 (by omega) (fun _ => fin) (fun h => ?_)
  have h0 : th = 0 := h
  refine lv_aload_n hx hb d18 rfl (lv_at hl 5 rfl) ?_
  refine lv_iconst (v := (0 : Int32)) hx hb d19 (by decide) ?_
  refine r_lald C hR ob91 rfl d20 ?_
  refine lv_lload hx hb d21 (lv_at hl 0 rfl) ?_
  exact l_ifeq (tgt := q + 29) hx hb d24 d25 (by omega) (fun _ => fin) (fun g => absurd (hv h0) g)
/-- the same: a boolean -/
theorem T_bool {b : Nat} {i th : Int32} {v : Bool} {q tgt : Nat} {og : Int} (hl0 : l.stackTraces = false) (C : Cx G p l R d s mid args meth c cc 8 own) (hd : 2 ≤ d) (hR : Rp G mr0 N0 mem s H locs) (hl : lv_has ls 8 ((5, .int th) :: five G b i)) (hth : gI mem 78 0 = th) (hv : th = 0 → gL mem 91 0 = b2l v) (hcs : cells ≤ R.cells ∧ slots ≤ R.slots)
    (w : WV own 172 RX11 yX11_thrown cX11_thrown 1 (some .int) 0) (d0 : decode cc q = .ok (.istore 6, 2)) (d2 : decode cc (q + 2) = .ok (.aload_n 2, 1)) (d3 : decode cc (q + 3) = .ok (.invokevirtual 172, 3)) (d6 : decode cc (q + 6) = .ok (.iload 5, 2)) (d8 : decode cc (q + 8) = .ok (.if_icmp .eq 5, 3))
    (d13 : decode cc (q + 13) = .ok (.iload 5, 2)) (d15 : decode cc (q + 15) = .ok (.ifCond .ne 22, 3)) (d18 : decode cc (q + 18) = .ok (.aload_n 3, 1)) (d19 : decode cc (q + 19) = .ok (.iconst 0, 1)) (d20 : decode cc (q + 20) = .ok (.laload, 1)) (d21 : decode cc (q + 21) = .ok (.iload 6, 2)) (d23 : decode cc (q + 23) = .ok (.ifCond .eq 7, 3)) (d26 : decode cc (q + 26) = .ok (.lconst 1, 1)) (d27 : decode cc (q + 27) = .ok (.goto 4, 3)) (d29 : decode cc (q + 30) = .ok (.lconst 0, 1)) (d24 : decode cc (q + 31) = .ok (.lcmp, 1)) (d25 : decode cc (q + 32) = .ok (.ifCond .eq 5, 3)) (d30 : decode cc (q + 37) = .ok (.goto og, 3)) (ht : ((q + 37 : Nat) : Int) + og = (tgt : Int))
    (kk : ∀ (H : Heap) (locs : List Loc) (ls : Array Slot), lv_has ls 8 (five G b i) → Rp G mr0 N0 mem s H locs → W p l e R s mid args below meth c H locs cells slots Q (F0 mid tgt ls [])) : W p l e R s mid args below meth c H locs cells slots Q (F0 mid q ls [.int (b2i v)]) := by
  have hx := C.1.1
  have hb := C.1.2.1
  refine lv_istore (lv' := (6, .int (b2i v)) :: (5, .int th) :: five G b i) hx hb d0 hl (by decide) rfl (fun ls hl => ?_)
  refine lv_aload_n hx hb d2 rfl (lv_at hl 4 rfl) ?_
  refine r_callVi (As := []) (rest := []) C hR (C_M_thrown l hl0 G mem _ _ rfl) hd (by decide) ob78 rfl w rfl rfl (Nat.le_of_ble_eq_true rfl) hl.1 hcs d3 (fun H locs hR => ?_)
  refine lv_iload hx hb d6 (lv_at hl 1 rfl) ?_
  refine lv_icmp_eq (tgt := q + 13) hx hb d8 (by omega) (fun _ => ?_) (fun h => absurd hth h)
  refine lv_iload hx hb d13 (lv_at hl 1 rfl) ?_
  have fin : W p l e R s mid args below meth c H locs cells slots Q (F0 mid (q + 37) ls []) := lv_goto hx hb d30 ht (kk H locs ls (lv_sub hl [2, 3, 4, 5, 6] rfl) hR)
  refine lv_if_ne (tgt := q + 37) hx hb d15 (by omega) (fun _ => fin) (fun h => ?_)
  have h0 : th = 0 := h
  refine lv_aload_n hx hb d18 rfl (lv_at hl 5 rfl) ?_
  refine lv_iconst (v := (0 : Int32)) hx hb d19 (by decide) ?_
  refine r_lald C hR ob91 rfl d20 ?_
  refine lv_iload hx hb d21 (lv_at hl 0 rfl) ?_
  have hv := hv h0
  have e9 : W p l e R s mid args below meth c H locs cells slots Q (F0 mid (q + 31) ls [.long (b2l v), .long (gL mem 91 0)]) := l_ifeq (tgt := q + 37) hx hb d24 d25 (by omega) (fun _ => fin) (fun g => absurd hv g)
  refine z_ifeq (tgt := q + 30) hx hb d23 (by omega) (fun h => ?_) (fun h => ?_)
  · refine lv_lconst (v := (0 : Int64)) hx hb d29 (by decide) ?_
    cases v with
    | false => exact e9
    | true => exact absurd rfl h
  · refine lv_lconst (v := (1 : Int64)) hx hb d26 (by decide) ?_
    refine lv_goto (tgt := q + 31) hx hb d27 (by omega) ?_
    subst h
    exact e9
/-! ===== what the reference leaves of the longs ===== -/
theorem so_same {α : Type} {F : Mem → Option (α × Mem)} {m1 m2 : Mem} {v : α} (h : So m1.2.1 (F m1) (F (mL m1 m1.2.1))) (e : F m1 = some (v, m2)) : m2.2.1 = m1.2.1 := by
  have h1 : F m1 = some (v, mL m2 m1.2.1) := so_eq h e
  rw [e] at h1
  have h2 : m2 = mL m2 m1.2.1 := congrArg Prod.snd (Option.some.inj h1)
  have h3 := congrArg (fun q : Mem => q.2.1) h2
  exact h3
theorem inv_out {B : Nat} {m1 m2 : Mem} {x : Int64} (h : Inv B m2) (e : m2.2.1 = m1.2.1) : Inv B (mL m2 (sL m1 91 0 x).2.1) := by
  have h2 : mL m2 (sL m1 91 0 x).2.1 = sL m2 91 0 x := by
    show (m2.1, u2 m1.2.1 91 0 x, m2.2.2) = (m2.1, u2 m2.2.1 91 0 x, m2.2.2)
    rw [e]
  rw [h2]
  obtain ⟨law, n, mg, wd, tx, bc, t, iv⟩ := h
  have f : Fr [91] [] m2 (sL m2 91 0 x) := Fr_sL rfl Fr_rf (Or.inl (by decide))
  exact (iv.keep0 (Fr_wk f (by decide) (by decide)) iv.bli (fun j => f.gI (by decide) List.not_mem_nil) (fun j => f.gL (by decide) List.not_mem_nil) (fun j => f 2 j (by decide) List.not_mem_nil)).inv
theorem gL_out {m1 m2 : Mem} {x : Int64} : gL (mL m2 (sL m1 91 0 x).2.1) 91 0 = x := by simp [gL, mL, sL, u2]
end MAIN
