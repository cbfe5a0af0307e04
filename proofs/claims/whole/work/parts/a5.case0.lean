set_option maxRecDepth 20000 in
theorem K_0 {p : Program} {l : Launch} {e : Env} {G : GG} {d : Nat} {s : State} {mid : MethodId} {b : Nat} {below : List Frame} {meth : Method} {c : Code} {H : Heap} {locs : List Loc} {ls : Array Slot} {Q : State → Prop} {L : Nat} {xs : Nat → Int32} {i : Int32} {B cells slots : Nat} {mem : Mem} (hl0 : l.stackTraces = false) (C : Cx G p l room_1 d s mid #[.ref b] meth c code 8 RL) (hd : 299 ≤ d) (hN : NCS s) (hX : va_X b L xs s s.heap) (hbl : b < s.heap.size) (hbA : ¬ G.2.1 ≤ b) (hin : ∀ z : Int, 0 ≤ z → z ≤ 6 → vp_in (i + iI z) L) (hB : B ≤ 100000) (hI : Inv B mem) (hR : Rp G mr0 N0 mem s H locs) (hl : lv_has ls 8 (five G b i)) (hcs : cells + 1 ≤ 601024 ∧ slots + 6 ≤ 7293034) (kk : ∀ (H : Heap) (locs : List Loc) (ls : Array Slot) (mem : Mem), lv_has ls 8 (five G b i) → Rp G mr0 N0 mem s H locs → Inv (B + 101) mem → W p l e room_1 s mid #[.ref b] below meth c H locs (cells + 1) (slots + 6) Q (F0 mid 3285 ls [])) : W p l e room_1 s mid #[.ref b] below meth c H locs cells slots Q (F0 mid 256 ls []) := by
  have hx := C.1.1
  have hb := C.1.2.1
  obtain ⟨x1a, ex1a⟩ : ∃ z : Int32, z = xs (i + (1 : Int32)).toNatClampNeg := ⟨_, rfl⟩
  obtain ⟨x2a, ex2a⟩ : ∃ z : Int32, z = xs (i + (2 : Int32)).toNatClampNeg := ⟨_, rfl⟩
  obtain ⟨x3a, ex3a⟩ : ∃ z : Int32, z = xs (i + (3 : Int32)).toNatClampNeg := ⟨_, rfl⟩
  obtain ⟨x4a, ex4a⟩ : ∃ z : Int32, z = xs (i + (4 : Int32)).toNatClampNeg := ⟨_, rfl⟩
  obtain ⟨x5a, ex5a⟩ : ∃ z : Int32, z = xs (i + (5 : Int32)).toNatClampNeg := ⟨_, rfl⟩
  obtain ⟨law, n, mg, wd, tx, bc, t, iv⟩ := hI
  obtain ⟨rT, m1, e1, rM, m2, e2, hv, inv⟩ := feed_op iv x1a x2a x3a x4a x5a
  have inv : Inv (B + 101) m2 := inv.up (by omega)
  refine lv_aload_n hx hb (dk DLaw0 25 rfl) rfl (lv_at hl 1 rfl) ?_
  refine r_arg (k := (1 : Int32)) C hX hbl hbA hR (lv_at hl 0 rfl) (lv_at hl 4 rfl) (hin 1 (by decide) (by decide)) ex1a.symm (dk DLaw0 26 rfl) (dk DLaw0 27 rfl) (dk DLaw0 28 rfl) (by decide) (dk DLaw0 29 rfl) (dk DLaw0 30 rfl) ?_
  refine r_arg (k := (2 : Int32)) C hX hbl hbA hR (lv_at hl 0 rfl) (lv_at hl 4 rfl) (hin 2 (by decide) (by decide)) ex2a.symm (dk DLaw0 31 rfl) (dk DLaw0 32 rfl) (dk DLaw0 33 rfl) (by decide) (dk DLaw0 34 rfl) (dk DLaw0 35 rfl) ?_
  refine r_arg (k := (3 : Int32)) C hX hbl hbA hR (lv_at hl 0 rfl) (lv_at hl 4 rfl) (hin 3 (by decide) (by decide)) ex3a.symm (dk DLaw0 36 rfl) (dk DLaw0 37 rfl) (dk DLaw0 38 rfl) (by decide) (dk DLaw0 39 rfl) (dk DLaw0 40 rfl) ?_
  refine r_arg (k := (4 : Int32)) C hX hbl hbA hR (lv_at hl 0 rfl) (lv_at hl 4 rfl) (hin 4 (by decide) (by decide)) ex4a.symm (dk DLaw0 41 rfl) (dk DLaw0 42 rfl) (dk DLaw0 43 rfl) (by decide) (dk DLaw0 44 rfl) (dk DLaw0 45 rfl) ?_
  refine r_arg (k := (5 : Int32)) C hX hbl hbA hR (lv_at hl 0 rfl) (lv_at hl 4 rfl) (hin 5 (by decide) (by decide)) ex5a.symm (dk DLaw0 46 rfl) (dk DLaw0 47 rfl) (dk DLaw0 48 rfl) (by decide) (dk DLaw0 49 rfl) (dk DLaw0 50 rfl) ?_
  refine r_callVi (As := [.int x1a, .int x2a, .int x3a, .int x4a, .int x5a]) (rest := []) C hR (C_T_feed l hl0 G x1a x2a x3a x4a x5a mem rT m1 e1) (by omega) (by decide) ob0 rfl wL_156 rfl rfl (Nat.le_of_ble_eq_true rfl) hl.1 ⟨show cells ≤ 601024 by omega, show slots ≤ 7293034 by omega⟩ (dk DLaw0 51 rfl) (fun H locs hR => ?_)
  refine lv_aload_n hx hb (dk DLaw0 52 rfl) rfl (lv_at hl 2 rfl) ?_
  refine r_arg (k := (1 : Int32)) C hX hbl hbA hR (lv_at hl 0 rfl) (lv_at hl 4 rfl) (hin 1 (by decide) (by decide)) ex1a.symm (dk DLaw0 53 rfl) (dk DLaw0 54 rfl) (dk DLaw0 55 rfl) (by decide) (dk DLaw0 56 rfl) (dk DLaw0 57 rfl) ?_
  refine r_arg (k := (2 : Int32)) C hX hbl hbA hR (lv_at hl 0 rfl) (lv_at hl 4 rfl) (hin 2 (by decide) (by decide)) ex2a.symm (dk DLaw0 58 rfl) (dk DLaw0 59 rfl) (dk DLaw1 0 rfl) (by decide) (dk DLaw1 1 rfl) (dk DLaw1 2 rfl) ?_
  refine r_arg (k := (3 : Int32)) C hX hbl hbA hR (lv_at hl 0 rfl) (lv_at hl 4 rfl) (hin 3 (by decide) (by decide)) ex3a.symm (dk DLaw1 3 rfl) (dk DLaw1 4 rfl) (dk DLaw1 5 rfl) (by decide) (dk DLaw1 6 rfl) (dk DLaw1 7 rfl) ?_
  refine r_arg (k := (4 : Int32)) C hX hbl hbA hR (lv_at hl 0 rfl) (lv_at hl 4 rfl) (hin 4 (by decide) (by decide)) ex4a.symm (dk DLaw1 8 rfl) (dk DLaw1 9 rfl) (dk DLaw1 10 rfl) (by decide) (dk DLaw1 11 rfl) (dk DLaw1 12 rfl) ?_
  refine r_arg (k := (5 : Int32)) C hX hbl hbA hR (lv_at hl 0 rfl) (lv_at hl 4 rfl) (hin 5 (by decide) (by decide)) ex5a.symm (dk DLaw1 13 rfl) (dk DLaw1 14 rfl) (dk DLaw1 15 rfl) (by decide) (dk DLaw1 16 rfl) (dk DLaw1 17 rfl) ?_
  refine r_callVi (As := [.int x1a, .int x2a, .int x3a, .int x4a, .int x5a]) (rest := [.int rT]) C hR (C_M_feed l hl0 G x1a x2a x3a x4a x5a m1 rM m2 e2) (by omega) (by decide) ob78 rfl wL_160 rfl rfl (Nat.le_of_ble_eq_true rfl) hl.1 ⟨show cells ≤ 601024 by omega, show slots ≤ 7293034 by omega⟩ (dk DLaw1 18 rfl) (fun H locs hR => ?_)
  refine lv_icmp_eq (tgt := 3285) hx hb (dk DLaw1 19 rfl) (by decide) (fun _ => ?_) (fun h => absurd (by rw [hv]) h)
  exact W.widen (by omega) (by omega) (kk H locs ls _ hl hR inv)
set_option maxRecDepth 20000 in
theorem K_1 {p : Program} {l : Launch} {e : Env} {G : GG} {d : Nat} {s : State} {mid : MethodId} {b : Nat} {below : List Frame} {meth : Method} {c : Code} {H : Heap} {locs : List Loc} {ls : Array Slot} {Q : State → Prop} {L : Nat} {xs : Nat → Int32} {i : Int32} {B cells slots : Nat} {mem : Mem} (hl0 : l.stackTraces = false) (C : Cx G p l room_1 d s mid #[.ref b] meth c code 8 RL) (hd : 299 ≤ d) (hN : NCS s) (hX : va_X b L xs s s.heap) (hbl : b < s.heap.size) (hbA : ¬ G.2.1 ≤ b) (hin : ∀ z : Int, 0 ≤ z → z ≤ 6 → vp_in (i + iI z) L) (hB : B ≤ 100000) (hI : Inv B mem) (hR : Rp G mr0 N0 mem s H locs) (hl : lv_has ls 8 (five G b i)) (hcs : cells + 1 ≤ 601024 ∧ slots + 6 ≤ 7293034) (kk : ∀ (H : Heap) (locs : List Loc) (ls : Array Slot) (mem : Mem), lv_has ls 8 (five G b i) → Rp G mr0 N0 mem s H locs → Inv (B + 101) mem → W p l e room_1 s mid #[.ref b] below meth c H locs (cells + 1) (slots + 6) Q (F0 mid 3285 ls [])) : W p l e room_1 s mid #[.ref b] below meth c H locs cells slots Q (F0 mid 329 ls []) := by
  have hx := C.1.1
  have hb := C.1.2.1
  obtain ⟨x1a, ex1a⟩ : ∃ z : Int32, z = xs (i + (1 : Int32)).toNatClampNeg := ⟨_, rfl⟩
  obtain ⟨law, n, mg, wd, tx, bc, t, iv⟩ := hI
  obtain ⟨rT, m1, e1, rM, m2, e2, hv, inv⟩ := end_op iv x1a
  have inv : Inv (B + 101) m2 := inv.up (by omega)
  refine lv_aload_n hx hb (dk DLaw1 22 rfl) rfl (lv_at hl 1 rfl) ?_
  refine r_arg (k := (1 : Int32)) C hX hbl hbA hR (lv_at hl 0 rfl) (lv_at hl 4 rfl) (hin 1 (by decide) (by decide)) ex1a.symm (dk DLaw1 23 rfl) (dk DLaw1 24 rfl) (dk DLaw1 25 rfl) (by decide) (dk DLaw1 26 rfl) (dk DLaw1 27 rfl) ?_
  refine r_callVi (As := [.int x1a]) (rest := []) C hR (C_T_end l hl0 G x1a mem rT m1 e1) (by omega) (by decide) ob0 rfl wL_161 rfl rfl (Nat.le_of_ble_eq_true rfl) hl.1 ⟨show cells ≤ 601024 by omega, show slots ≤ 7293034 by omega⟩ (dk DLaw1 28 rfl) (fun H locs hR => ?_)
  refine lv_aload_n hx hb (dk DLaw1 29 rfl) rfl (lv_at hl 2 rfl) ?_
  refine r_arg (k := (1 : Int32)) C hX hbl hbA hR (lv_at hl 0 rfl) (lv_at hl 4 rfl) (hin 1 (by decide) (by decide)) ex1a.symm (dk DLaw1 30 rfl) (dk DLaw1 31 rfl) (dk DLaw1 32 rfl) (by decide) (dk DLaw1 33 rfl) (dk DLaw1 34 rfl) ?_
  refine r_callVi (As := [.int x1a]) (rest := [.int (b2i rT)]) C hR (C_M_end l hl0 G x1a m1 rM m2 e2) (by omega) (by decide) ob78 rfl wL_165 rfl rfl (Nat.le_of_ble_eq_true rfl) hl.1 ⟨show cells ≤ 601024 by omega, show slots ≤ 7293034 by omega⟩ (dk DLaw1 35 rfl) (fun H locs hR => ?_)
  refine lv_icmp_eq (tgt := 3285) hx hb (dk DLaw1 36 rfl) (by decide) (fun _ => ?_) (fun h => absurd (by rw [hv]) h)
  exact W.widen (by omega) (by omega) (kk H locs ls _ hl hR inv)
set_option maxRecDepth 20000 in
theorem K_2 {p : Program} {l : Launch} {e : Env} {G : GG} {d : Nat} {s : State} {mid : MethodId} {b : Nat} {below : List Frame} {meth : Method} {c : Code} {H : Heap} {locs : List Loc} {ls : Array Slot} {Q : State → Prop} {L : Nat} {xs : Nat → Int32} {i : Int32} {B cells slots : Nat} {mem : Mem} (hl0 : l.stackTraces = false) (C : Cx G p l room_1 d s mid #[.ref b] meth c code 8 RL) (hd : 299 ≤ d) (hN : NCS s) (hX : va_X b L xs s s.heap) (hbl : b < s.heap.size) (hbA : ¬ G.2.1 ≤ b) (hin : ∀ z : Int, 0 ≤ z → z ≤ 6 → vp_in (i + iI z) L) (hB : B ≤ 100000) (hI : Inv B mem) (hR : Rp G mr0 N0 mem s H locs) (hl : lv_has ls 8 (five G b i)) (hcs : cells + 1 ≤ 601024 ∧ slots + 6 ≤ 7293034) (kk : ∀ (H : Heap) (locs : List Loc) (ls : Array Slot) (mem : Mem), lv_has ls 8 (five G b i) → Rp G mr0 N0 mem s H locs → Inv (B + 101) mem → W p l e room_1 s mid #[.ref b] below meth c H locs (cells + 1) (slots + 6) Q (F0 mid 3285 ls [])) : W p l e room_1 s mid #[.ref b] below meth c H locs cells slots Q (F0 mid 354 ls []) := by
  have hx := C.1.1
  have hb := C.1.2.1
  obtain ⟨o4, z4, m3, v4, m4, hW, e2, hz, hv, inv, hc4, hs4⟩ := P_ground l hl0 G hI hB 
  refine lv_aload_n hx hb (dk DLaw1 39 rfl) rfl (lv_at hl 1 rfl) ?_
  refine lv_aload_n hx hb (dk DLaw1 40 rfl) rfl (lv_at hl 3 rfl) ?_
  refine r_callW (As := [.ref (G.2.1 + 0), .ref (G.2.1 + 91)]) (rest := []) C hN hR hW (by omega) (by decide) wS_166 rfl rfl (Nat.le_of_ble_eq_true rfl) hl.1 ⟨show cells + cxO o4 ≤ 601024 by omega, show slots + sxO o4 ≤ 7293034 by omega⟩ (dk DLaw1 41 rfl) (fun H locs hR => ?_)
  refine lv_istore (lv' := (5, .int z4) :: five G b i) hx hb (dk DLaw1 42 rfl) hl (by decide) rfl (fun ls hl => ?_)
  refine lv_aload_n hx hb (dk DLaw1 43 rfl) rfl (lv_at hl 3 rfl) ?_
  refine r_callVi (As := []) (rest := []) C hR (C_M_ground l hl0 G  m3 v4 m4 e2) (by omega) (by decide) ob78 rfl wL_171 rfl rfl (Nat.le_of_ble_eq_true rfl) hl.1 ⟨show cells + cxO o4 ≤ 601024 by omega, show slots + sxO o4 ≤ 7293034 by omega⟩ (dk DLaw1 44 rfl) (fun H locs hR => ?_)
  refine T_int (b := b) (i := i) (tgt := 3285) hl0 C (by omega) hR hl hz hv ⟨show cells + cxO o4 ≤ 601024 by omega, show slots + sxO o4 ≤ 7293034 by omega⟩ wL_172 (dk DLaw1 45 rfl) (dk DLaw1 46 rfl) (dk DLaw1 47 rfl) (dk DLaw1 48 rfl) (dk DLaw1 49 rfl) (dk DLaw1 52 rfl) (dk DLaw1 53 rfl) (dk DLaw1 54 rfl) (dk DLaw1 55 rfl) (dk DLaw1 56 rfl) (dk DLaw1 57 rfl) (dk DLaw1 58 rfl) (dk DLaw1 59 rfl) (dk DLaw2 0 rfl) (dk DLaw2 3 rfl) (by decide) (fun H locs ls hl hR => ?_)
  exact W.widen (by omega) (by omega) (kk H locs ls _ hl hR inv)
set_option maxRecDepth 20000 in
theorem K_3 {p : Program} {l : Launch} {e : Env} {G : GG} {d : Nat} {s : State} {mid : MethodId} {b : Nat} {below : List Frame} {meth : Method} {c : Code} {H : Heap} {locs : List Loc} {ls : Array Slot} {Q : State → Prop} {L : Nat} {xs : Nat → Int32} {i : Int32} {B cells slots : Nat} {mem : Mem} (hl0 : l.stackTraces = false) (C : Cx G p l room_1 d s mid #[.ref b] meth c code 8 RL) (hd : 299 ≤ d) (hN : NCS s) (hX : va_X b L xs s s.heap) (hbl : b < s.heap.size) (hbA : ¬ G.2.1 ≤ b) (hin : ∀ z : Int, 0 ≤ z → z ≤ 6 → vp_in (i + iI z) L) (hB : B ≤ 100000) (hI : Inv B mem) (hR : Rp G mr0 N0 mem s H locs) (hl : lv_has ls 8 (five G b i)) (hcs : cells + 1 ≤ 601024 ∧ slots + 6 ≤ 7293034) (kk : ∀ (H : Heap) (locs : List Loc) (ls : Array Slot) (mem : Mem), lv_has ls 8 (five G b i) → Rp G mr0 N0 mem s H locs → Inv (B + 101) mem → W p l e room_1 s mid #[.ref b] below meth c H locs (cells + 1) (slots + 6) Q (F0 mid 3285 ls [])) : W p l e room_1 s mid #[.ref b] below meth c H locs cells slots Q (F0 mid 398 ls []) := by
  have hx := C.1.1
  have hb := C.1.2.1
  obtain ⟨o4, z4, m3, v4, m4, hW, e2, hz, hv, inv, hc4, hs4⟩ := P_law l hl0 G hI hB 
  refine lv_aload_n hx hb (dk DLaw2 4 rfl) rfl (lv_at hl 1 rfl) ?_
  refine lv_aload_n hx hb (dk DLaw2 5 rfl) rfl (lv_at hl 3 rfl) ?_
  refine r_callW (As := [.ref (G.2.1 + 0), .ref (G.2.1 + 91)]) (rest := []) C hN hR hW (by omega) (by decide) wS_175 rfl rfl (Nat.le_of_ble_eq_true rfl) hl.1 ⟨show cells + cxO o4 ≤ 601024 by omega, show slots + sxO o4 ≤ 7293034 by omega⟩ (dk DLaw2 6 rfl) (fun H locs hR => ?_)
  refine lv_istore (lv' := (5, .int z4) :: five G b i) hx hb (dk DLaw2 7 rfl) hl (by decide) rfl (fun ls hl => ?_)
  refine lv_aload_n hx hb (dk DLaw2 8 rfl) rfl (lv_at hl 3 rfl) ?_
  refine r_callVi (As := []) (rest := []) C hR (C_M_law l hl0 G  m3 v4 m4 e2) (by omega) (by decide) ob78 rfl wL_177 rfl rfl (Nat.le_of_ble_eq_true rfl) hl.1 ⟨show cells + cxO o4 ≤ 601024 by omega, show slots + sxO o4 ≤ 7293034 by omega⟩ (dk DLaw2 9 rfl) (fun H locs hR => ?_)
  refine T_int (b := b) (i := i) (tgt := 3285) hl0 C (by omega) hR hl hz hv ⟨show cells + cxO o4 ≤ 601024 by omega, show slots + sxO o4 ≤ 7293034 by omega⟩ wL_172 (dk DLaw2 10 rfl) (dk DLaw2 11 rfl) (dk DLaw2 12 rfl) (dk DLaw2 13 rfl) (dk DLaw2 14 rfl) (dk DLaw2 17 rfl) (dk DLaw2 18 rfl) (dk DLaw2 19 rfl) (dk DLaw2 20 rfl) (dk DLaw2 21 rfl) (dk DLaw2 22 rfl) (dk DLaw2 23 rfl) (dk DLaw2 24 rfl) (dk DLaw2 25 rfl) (dk DLaw2 28 rfl) (by decide) (fun H locs ls hl hR => ?_)
  exact W.widen (by omega) (by omega) (kk H locs ls _ hl hR inv)
set_option maxRecDepth 20000 in
theorem K_4 {p : Program} {l : Launch} {e : Env} {G : GG} {d : Nat} {s : State} {mid : MethodId} {b : Nat} {below : List Frame} {meth : Method} {c : Code} {H : Heap} {locs : List Loc} {ls : Array Slot} {Q : State → Prop} {L : Nat} {xs : Nat → Int32} {i : Int32} {B cells slots : Nat} {mem : Mem} (hl0 : l.stackTraces = false) (C : Cx G p l room_1 d s mid #[.ref b] meth c code 8 RL) (hd : 299 ≤ d) (hN : NCS s) (hX : va_X b L xs s s.heap) (hbl : b < s.heap.size) (hbA : ¬ G.2.1 ≤ b) (hin : ∀ z : Int, 0 ≤ z → z ≤ 6 → vp_in (i + iI z) L) (hB : B ≤ 100000) (hI : Inv B mem) (hR : Rp G mr0 N0 mem s H locs) (hl : lv_has ls 8 (five G b i)) (hcs : cells + 1 ≤ 601024 ∧ slots + 6 ≤ 7293034) (kk : ∀ (H : Heap) (locs : List Loc) (ls : Array Slot) (mem : Mem), lv_has ls 8 (five G b i) → Rp G mr0 N0 mem s H locs → Inv (B + 101) mem → W p l e room_1 s mid #[.ref b] below meth c H locs (cells + 1) (slots + 6) Q (F0 mid 3285 ls [])) : W p l e room_1 s mid #[.ref b] below meth c H locs cells slots Q (F0 mid 442 ls []) := by
  have hx := C.1.1
  have hb := C.1.2.1
  obtain ⟨law, n, mg, wd, tx, bc, t, iv⟩ := hI
  obtain ⟨rT, m1, e1, rM, m2, e2, hv, inv⟩ := fault_op iv 
  have inv : Inv (B + 101) m2 := inv.up (by omega)
  refine lv_aload_n hx hb (dk DLaw2 29 rfl) rfl (lv_at hl 1 rfl) ?_
  refine r_callVi (As := []) (rest := []) C hR (C_T_fault l hl0 G  mem rT m1 e1) (by omega) (by decide) ob0 rfl wL_178 rfl rfl (Nat.le_of_ble_eq_true rfl) hl.1 ⟨show cells ≤ 601024 by omega, show slots ≤ 7293034 by omega⟩ (dk DLaw2 30 rfl) (fun H locs hR => ?_)
  refine lv_aload_n hx hb (dk DLaw2 31 rfl) rfl (lv_at hl 2 rfl) ?_
  refine r_callVi (As := []) (rest := [.int rT]) C hR (C_M_fault l hl0 G  m1 rM m2 e2) (by omega) (by decide) ob78 rfl wL_181 rfl rfl (Nat.le_of_ble_eq_true rfl) hl.1 ⟨show cells ≤ 601024 by omega, show slots ≤ 7293034 by omega⟩ (dk DLaw2 32 rfl) (fun H locs hR => ?_)
  refine lv_icmp_eq (tgt := 3285) hx hb (dk DLaw2 33 rfl) (by decide) (fun _ => ?_) (fun h => absurd (by rw [hv]) h)
  exact W.widen (by omega) (by omega) (kk H locs ls _ hl hR inv)
set_option maxRecDepth 20000 in
theorem K_5 {p : Program} {l : Launch} {e : Env} {G : GG} {d : Nat} {s : State} {mid : MethodId} {b : Nat} {below : List Frame} {meth : Method} {c : Code} {H : Heap} {locs : List Loc} {ls : Array Slot} {Q : State → Prop} {L : Nat} {xs : Nat → Int32} {i : Int32} {B cells slots : Nat} {mem : Mem} (hl0 : l.stackTraces = false) (C : Cx G p l room_1 d s mid #[.ref b] meth c code 8 RL) (hd : 299 ≤ d) (hN : NCS s) (hX : va_X b L xs s s.heap) (hbl : b < s.heap.size) (hbA : ¬ G.2.1 ≤ b) (hin : ∀ z : Int, 0 ≤ z → z ≤ 6 → vp_in (i + iI z) L) (hB : B ≤ 100000) (hI : Inv B mem) (hR : Rp G mr0 N0 mem s H locs) (hl : lv_has ls 8 (five G b i)) (hcs : cells + 1 ≤ 601024 ∧ slots + 6 ≤ 7293034) (kk : ∀ (H : Heap) (locs : List Loc) (ls : Array Slot) (mem : Mem), lv_has ls 8 (five G b i) → Rp G mr0 N0 mem s H locs → Inv (B + 101) mem → W p l e room_1 s mid #[.ref b] below meth c H locs (cells + 1) (slots + 6) Q (F0 mid 3285 ls [])) : W p l e room_1 s mid #[.ref b] below meth c H locs cells slots Q (F0 mid 455 ls []) := by
  have hx := C.1.1
  have hb := C.1.2.1
  obtain ⟨x1a, ex1a⟩ : ∃ z : Int32, z = xs (i + (1 : Int32)).toNatClampNeg := ⟨_, rfl⟩
  obtain ⟨x2a, ex2a⟩ : ∃ z : Int32, z = xs (i + (2 : Int32)).toNatClampNeg := ⟨_, rfl⟩
  obtain ⟨z2a, ez2a⟩ : ∃ z : Bool, z = decide (x2a ≠ 0) := ⟨_, rfl⟩
  obtain ⟨o4, z4, m3, v4, m4, hW, e2, hz, hv, inv, hc4, hs4⟩ := P_side l hl0 G hI hB x1a z2a
  refine lv_aload_n hx hb (dk DLaw2 36 rfl) rfl (lv_at hl 1 rfl) ?_
  refine r_arg (k := (1 : Int32)) C hX hbl hbA hR (lv_at hl 0 rfl) (lv_at hl 4 rfl) (hin 1 (by decide) (by decide)) ex1a.symm (dk DLaw2 37 rfl) (dk DLaw2 38 rfl) (dk DLaw2 39 rfl) (by decide) (dk DLaw2 40 rfl) (dk DLaw2 41 rfl) ?_
  refine r_arg (k := (2 : Int32)) C hX hbl hbA hR (lv_at hl 0 rfl) (lv_at hl 4 rfl) (hin 2 (by decide) (by decide)) ex2a.symm (dk DLaw2 42 rfl) (dk DLaw2 43 rfl) (dk DLaw2 44 rfl) (by decide) (dk DLaw2 45 rfl) (dk DLaw2 46 rfl) ?_
  refine r_bool C ez2a (dk DLaw2 47 rfl) (dk DLaw2 48 rfl) (dk DLaw2 49 rfl) (dk DLaw2 50 rfl) ?_
  refine lv_aload_n hx hb (dk DLaw2 51 rfl) rfl (lv_at hl 3 rfl) ?_
  refine r_callW (As := [.ref (G.2.1 + 0), .int x1a, .int (b2i z2a), .ref (G.2.1 + 91)]) (rest := []) C hN hR hW (by omega) (by decide) wS_182 rfl rfl (Nat.le_of_ble_eq_true rfl) hl.1 ⟨show cells + cxO o4 ≤ 601024 by omega, show slots + sxO o4 ≤ 7293034 by omega⟩ (dk DLaw2 52 rfl) (fun H locs hR => ?_)
  refine lv_istore (lv' := (5, .int z4) :: five G b i) hx hb (dk DLaw2 53 rfl) hl (by decide) rfl (fun ls hl => ?_)
  refine lv_aload_n hx hb (dk DLaw2 54 rfl) rfl (lv_at hl 3 rfl) ?_
  refine r_arg (k := (1 : Int32)) C hX hbl hbA hR (lv_at hl 1 rfl) (lv_at hl 5 rfl) (hin 1 (by decide) (by decide)) ex1a.symm (dk DLaw2 55 rfl) (dk DLaw2 56 rfl) (dk DLaw2 57 rfl) (by decide) (dk DLaw2 58 rfl) (dk DLaw2 59 rfl) ?_
  refine r_arg (k := (2 : Int32)) C hX hbl hbA hR (lv_at hl 1 rfl) (lv_at hl 5 rfl) (hin 2 (by decide) (by decide)) ex2a.symm (dk DLaw3 0 rfl) (dk DLaw3 1 rfl) (dk DLaw3 2 rfl) (by decide) (dk DLaw3 3 rfl) (dk DLaw3 4 rfl) ?_
  refine r_bool C ez2a (dk DLaw3 5 rfl) (dk DLaw3 6 rfl) (dk DLaw3 7 rfl) (dk DLaw3 8 rfl) ?_
  refine r_callVi (As := [.int x1a, .int (b2i z2a)]) (rest := []) C hR (C_M_side l hl0 G x1a z2a m3 v4 m4 e2) (by omega) (by decide) ob78 rfl wL_185 rfl rfl (Nat.le_of_ble_eq_true rfl) hl.1 ⟨show cells + cxO o4 ≤ 601024 by omega, show slots + sxO o4 ≤ 7293034 by omega⟩ (dk DLaw3 9 rfl) (fun H locs hR => ?_)
  refine T_int (b := b) (i := i) (tgt := 3285) hl0 C (by omega) hR hl hz hv ⟨show cells + cxO o4 ≤ 601024 by omega, show slots + sxO o4 ≤ 7293034 by omega⟩ wL_172 (dk DLaw3 10 rfl) (dk DLaw3 11 rfl) (dk DLaw3 12 rfl) (dk DLaw3 13 rfl) (dk DLaw3 14 rfl) (dk DLaw3 17 rfl) (dk DLaw3 18 rfl) (dk DLaw3 19 rfl) (dk DLaw3 20 rfl) (dk DLaw3 21 rfl) (dk DLaw3 22 rfl) (dk DLaw3 23 rfl) (dk DLaw3 24 rfl) (dk DLaw3 25 rfl) (dk DLaw3 28 rfl) (by decide) (fun H locs ls hl hR => ?_)
  exact W.widen (by omega) (by omega) (kk H locs ls _ hl hR inv)
set_option maxRecDepth 20000 in
theorem K_6 {p : Program} {l : Launch} {e : Env} {G : GG} {d : Nat} {s : State} {mid : MethodId} {b : Nat} {below : List Frame} {meth : Method} {c : Code} {H : Heap} {locs : List Loc} {ls : Array Slot} {Q : State → Prop} {L : Nat} {xs : Nat → Int32} {i : Int32} {B cells slots : Nat} {mem : Mem} (hl0 : l.stackTraces = false) (C : Cx G p l room_1 d s mid #[.ref b] meth c code 8 RL) (hd : 299 ≤ d) (hN : NCS s) (hX : va_X b L xs s s.heap) (hbl : b < s.heap.size) (hbA : ¬ G.2.1 ≤ b) (hin : ∀ z : Int, 0 ≤ z → z ≤ 6 → vp_in (i + iI z) L) (hB : B ≤ 100000) (hI : Inv B mem) (hR : Rp G mr0 N0 mem s H locs) (hl : lv_has ls 8 (five G b i)) (hcs : cells + 1 ≤ 601024 ∧ slots + 6 ≤ 7293034) (kk : ∀ (H : Heap) (locs : List Loc) (ls : Array Slot) (mem : Mem), lv_has ls 8 (five G b i) → Rp G mr0 N0 mem s H locs → Inv (B + 101) mem → W p l e room_1 s mid #[.ref b] below meth c H locs (cells + 1) (slots + 6) Q (F0 mid 3285 ls [])) : W p l e room_1 s mid #[.ref b] below meth c H locs cells slots Q (F0 mid 539 ls []) := by
  have hx := C.1.1
  have hb := C.1.2.1
  obtain ⟨x1a, ex1a⟩ : ∃ z : Int32, z = xs (i + (1 : Int32)).toNatClampNeg := ⟨_, rfl⟩
  obtain ⟨x2a, ex2a⟩ : ∃ z : Int32, z = xs (i + (2 : Int32)).toNatClampNeg := ⟨_, rfl⟩
  obtain ⟨x3a, ex3a⟩ : ∃ z : Int32, z = xs (i + (3 : Int32)).toNatClampNeg := ⟨_, rfl⟩
  obtain ⟨z3a, ez3a⟩ : ∃ z : Bool, z = decide (x3a ≠ 0) := ⟨_, rfl⟩
  obtain ⟨o4, z4, m3, v4, m4, hW, e2, hz, hv, inv, hc4, hs4⟩ := P_slot l hl0 G hI hB x1a x2a z3a
  refine lv_aload_n hx hb (dk DLaw3 29 rfl) rfl (lv_at hl 1 rfl) ?_
  refine r_arg (k := (1 : Int32)) C hX hbl hbA hR (lv_at hl 0 rfl) (lv_at hl 4 rfl) (hin 1 (by decide) (by decide)) ex1a.symm (dk DLaw3 30 rfl) (dk DLaw3 31 rfl) (dk DLaw3 32 rfl) (by decide) (dk DLaw3 33 rfl) (dk DLaw3 34 rfl) ?_
  refine r_arg (k := (2 : Int32)) C hX hbl hbA hR (lv_at hl 0 rfl) (lv_at hl 4 rfl) (hin 2 (by decide) (by decide)) ex2a.symm (dk DLaw3 35 rfl) (dk DLaw3 36 rfl) (dk DLaw3 37 rfl) (by decide) (dk DLaw3 38 rfl) (dk DLaw3 39 rfl) ?_
  refine r_arg (k := (3 : Int32)) C hX hbl hbA hR (lv_at hl 0 rfl) (lv_at hl 4 rfl) (hin 3 (by decide) (by decide)) ex3a.symm (dk DLaw3 40 rfl) (dk DLaw3 41 rfl) (dk DLaw3 42 rfl) (by decide) (dk DLaw3 43 rfl) (dk DLaw3 44 rfl) ?_
  refine r_bool C ez3a (dk DLaw3 45 rfl) (dk DLaw3 46 rfl) (dk DLaw3 47 rfl) (dk DLaw3 48 rfl) ?_
  refine lv_aload_n hx hb (dk DLaw3 49 rfl) rfl (lv_at hl 3 rfl) ?_
  refine r_callW (As := [.ref (G.2.1 + 0), .int x1a, .int x2a, .int (b2i z3a), .ref (G.2.1 + 91)]) (rest := []) C hN hR hW (by omega) (by decide) wS_186 rfl rfl (Nat.le_of_ble_eq_true rfl) hl.1 ⟨show cells + cxO o4 ≤ 601024 by omega, show slots + sxO o4 ≤ 7293034 by omega⟩ (dk DLaw3 50 rfl) (fun H locs hR => ?_)
  refine lv_istore (lv' := (5, .int z4) :: five G b i) hx hb (dk DLaw3 51 rfl) hl (by decide) rfl (fun ls hl => ?_)
  refine lv_aload_n hx hb (dk DLaw3 52 rfl) rfl (lv_at hl 3 rfl) ?_
  refine r_arg (k := (1 : Int32)) C hX hbl hbA hR (lv_at hl 1 rfl) (lv_at hl 5 rfl) (hin 1 (by decide) (by decide)) ex1a.symm (dk DLaw3 53 rfl) (dk DLaw3 54 rfl) (dk DLaw3 55 rfl) (by decide) (dk DLaw3 56 rfl) (dk DLaw3 57 rfl) ?_
  refine r_arg (k := (2 : Int32)) C hX hbl hbA hR (lv_at hl 1 rfl) (lv_at hl 5 rfl) (hin 2 (by decide) (by decide)) ex2a.symm (dk DLaw3 58 rfl) (dk DLaw3 59 rfl) (dk DLaw4 0 rfl) (by decide) (dk DLaw4 1 rfl) (dk DLaw4 2 rfl) ?_
  refine r_arg (k := (3 : Int32)) C hX hbl hbA hR (lv_at hl 1 rfl) (lv_at hl 5 rfl) (hin 3 (by decide) (by decide)) ex3a.symm (dk DLaw4 3 rfl) (dk DLaw4 4 rfl) (dk DLaw4 5 rfl) (by decide) (dk DLaw4 6 rfl) (dk DLaw4 7 rfl) ?_
  refine r_bool C ez3a (dk DLaw4 8 rfl) (dk DLaw4 9 rfl) (dk DLaw4 10 rfl) (dk DLaw4 11 rfl) ?_
  refine r_callVi (As := [.int x1a, .int x2a, .int (b2i z3a)]) (rest := []) C hR (C_M_slot l hl0 G x1a x2a z3a m3 v4 m4 e2) (by omega) (by decide) ob78 rfl wL_189 rfl rfl (Nat.le_of_ble_eq_true rfl) hl.1 ⟨show cells + cxO o4 ≤ 601024 by omega, show slots + sxO o4 ≤ 7293034 by omega⟩ (dk DLaw4 12 rfl) (fun H locs hR => ?_)
  refine T_int (b := b) (i := i) (tgt := 3285) hl0 C (by omega) hR hl hz hv ⟨show cells + cxO o4 ≤ 601024 by omega, show slots + sxO o4 ≤ 7293034 by omega⟩ wL_172 (dk DLaw4 13 rfl) (dk DLaw4 14 rfl) (dk DLaw4 15 rfl) (dk DLaw4 16 rfl) (dk DLaw4 17 rfl) (dk DLaw4 20 rfl) (dk DLaw4 21 rfl) (dk DLaw4 22 rfl) (dk DLaw4 23 rfl) (dk DLaw4 24 rfl) (dk DLaw4 25 rfl) (dk DLaw4 26 rfl) (dk DLaw4 27 rfl) (dk DLaw4 28 rfl) (dk DLaw4 31 rfl) (by decide) (fun H locs ls hl hR => ?_)
  exact W.widen (by omega) (by omega) (kk H locs ls _ hl hR inv)
set_option maxRecDepth 20000 in
theorem K_7 {p : Program} {l : Launch} {e : Env} {G : GG} {d : Nat} {s : State} {mid : MethodId} {b : Nat} {below : List Frame} {meth : Method} {c : Code} {H : Heap} {locs : List Loc} {ls : Array Slot} {Q : State → Prop} {L : Nat} {xs : Nat → Int32} {i : Int32} {B cells slots : Nat} {mem : Mem} (hl0 : l.stackTraces = false) (C : Cx G p l room_1 d s mid #[.ref b] meth c code 8 RL) (hd : 299 ≤ d) (hN : NCS s) (hX : va_X b L xs s s.heap) (hbl : b < s.heap.size) (hbA : ¬ G.2.1 ≤ b) (hin : ∀ z : Int, 0 ≤ z → z ≤ 6 → vp_in (i + iI z) L) (hB : B ≤ 100000) (hI : Inv B mem) (hR : Rp G mr0 N0 mem s H locs) (hl : lv_has ls 8 (five G b i)) (hcs : cells + 1 ≤ 601024 ∧ slots + 6 ≤ 7293034) (kk : ∀ (H : Heap) (locs : List Loc) (ls : Array Slot) (mem : Mem), lv_has ls 8 (five G b i) → Rp G mr0 N0 mem s H locs → Inv (B + 101) mem → W p l e room_1 s mid #[.ref b] below meth c H locs (cells + 1) (slots + 6) Q (F0 mid 3285 ls [])) : W p l e room_1 s mid #[.ref b] below meth c H locs cells slots Q (F0 mid 635 ls []) := by
  have hx := C.1.1
  have hb := C.1.2.1
  obtain ⟨x1a, ex1a⟩ : ∃ z : Int32, z = xs (i + (1 : Int32)).toNatClampNeg := ⟨_, rfl⟩
  obtain ⟨x2a, ex2a⟩ : ∃ z : Int32, z = xs (i + (2 : Int32)).toNatClampNeg := ⟨_, rfl⟩
  obtain ⟨o4, z4, m3, v4, m4, hW, e2, hz, hv, inv, hc4, hs4⟩ := P_session l hl0 G hI hB x1a x2a
  refine lv_aload_n hx hb (dk DLaw4 32 rfl) rfl (lv_at hl 1 rfl) ?_
  refine r_arg (k := (1 : Int32)) C hX hbl hbA hR (lv_at hl 0 rfl) (lv_at hl 4 rfl) (hin 1 (by decide) (by decide)) ex1a.symm (dk DLaw4 33 rfl) (dk DLaw4 34 rfl) (dk DLaw4 35 rfl) (by decide) (dk DLaw4 36 rfl) (dk DLaw4 37 rfl) ?_
  refine r_arg (k := (2 : Int32)) C hX hbl hbA hR (lv_at hl 0 rfl) (lv_at hl 4 rfl) (hin 2 (by decide) (by decide)) ex2a.symm (dk DLaw4 38 rfl) (dk DLaw4 39 rfl) (dk DLaw4 40 rfl) (by decide) (dk DLaw4 41 rfl) (dk DLaw4 42 rfl) ?_
  refine lv_aload_n hx hb (dk DLaw4 43 rfl) rfl (lv_at hl 3 rfl) ?_
  refine r_callW (As := [.ref (G.2.1 + 0), .int x1a, .int x2a, .ref (G.2.1 + 91)]) (rest := []) C hN hR hW (by omega) (by decide) wS_190 rfl rfl (Nat.le_of_ble_eq_true rfl) hl.1 ⟨show cells + cxO o4 ≤ 601024 by omega, show slots + sxO o4 ≤ 7293034 by omega⟩ (dk DLaw4 44 rfl) (fun H locs hR => ?_)
  refine lv_istore (lv' := (5, .int z4) :: five G b i) hx hb (dk DLaw4 45 rfl) hl (by decide) rfl (fun ls hl => ?_)
  refine lv_aload_n hx hb (dk DLaw4 46 rfl) rfl (lv_at hl 3 rfl) ?_
  refine r_arg (k := (1 : Int32)) C hX hbl hbA hR (lv_at hl 1 rfl) (lv_at hl 5 rfl) (hin 1 (by decide) (by decide)) ex1a.symm (dk DLaw4 47 rfl) (dk DLaw4 48 rfl) (dk DLaw4 49 rfl) (by decide) (dk DLaw4 50 rfl) (dk DLaw4 51 rfl) ?_
  refine r_arg (k := (2 : Int32)) C hX hbl hbA hR (lv_at hl 1 rfl) (lv_at hl 5 rfl) (hin 2 (by decide) (by decide)) ex2a.symm (dk DLaw4 52 rfl) (dk DLaw4 53 rfl) (dk DLaw4 54 rfl) (by decide) (dk DLaw4 55 rfl) (dk DLaw4 56 rfl) ?_
  refine r_callVi (As := [.int x1a, .int x2a]) (rest := []) C hR (C_M_session l hl0 G x1a x2a m3 v4 m4 e2) (by omega) (by decide) ob78 rfl wL_193 rfl rfl (Nat.le_of_ble_eq_true rfl) hl.1 ⟨show cells + cxO o4 ≤ 601024 by omega, show slots + sxO o4 ≤ 7293034 by omega⟩ (dk DLaw4 57 rfl) (fun H locs hR => ?_)
  refine T_int (b := b) (i := i) (tgt := 3285) hl0 C (by omega) hR hl hz hv ⟨show cells + cxO o4 ≤ 601024 by omega, show slots + sxO o4 ≤ 7293034 by omega⟩ wL_172 (dk DLaw4 58 rfl) (dk DLaw4 59 rfl) (dk DLaw5 0 rfl) (dk DLaw5 1 rfl) (dk DLaw5 2 rfl) (dk DLaw5 5 rfl) (dk DLaw5 6 rfl) (dk DLaw5 7 rfl) (dk DLaw5 8 rfl) (dk DLaw5 9 rfl) (dk DLaw5 10 rfl) (dk DLaw5 11 rfl) (dk DLaw5 12 rfl) (dk DLaw5 13 rfl) (dk DLaw5 16 rfl) (by decide) (fun H locs ls hl hR => ?_)
  exact W.widen (by omega) (by omega) (kk H locs ls _ hl hR inv)
set_option maxRecDepth 20000 in
theorem K_8 {p : Program} {l : Launch} {e : Env} {G : GG} {d : Nat} {s : State} {mid : MethodId} {b : Nat} {below : List Frame} {meth : Method} {c : Code} {H : Heap} {locs : List Loc} {ls : Array Slot} {Q : State → Prop} {L : Nat} {xs : Nat → Int32} {i : Int32} {B cells slots : Nat} {mem : Mem} (hl0 : l.stackTraces = false) (C : Cx G p l room_1 d s mid #[.ref b] meth c code 8 RL) (hd : 299 ≤ d) (hN : NCS s) (hX : va_X b L xs s s.heap) (hbl : b < s.heap.size) (hbA : ¬ G.2.1 ≤ b) (hin : ∀ z : Int, 0 ≤ z → z ≤ 6 → vp_in (i + iI z) L) (hB : B ≤ 100000) (hI : Inv B mem) (hR : Rp G mr0 N0 mem s H locs) (hl : lv_has ls 8 (five G b i)) (hcs : cells + 1 ≤ 601024 ∧ slots + 6 ≤ 7293034) (kk : ∀ (H : Heap) (locs : List Loc) (ls : Array Slot) (mem : Mem), lv_has ls 8 (five G b i) → Rp G mr0 N0 mem s H locs → Inv (B + 101) mem → W p l e room_1 s mid #[.ref b] below meth c H locs (cells + 1) (slots + 6) Q (F0 mid 3285 ls [])) : W p l e room_1 s mid #[.ref b] below meth c H locs cells slots Q (F0 mid 703 ls []) := by
  have hx := C.1.1
  have hb := C.1.2.1
  obtain ⟨x1a, ex1a⟩ : ∃ z : Int32, z = xs (i + (1 : Int32)).toNatClampNeg := ⟨_, rfl⟩
  obtain ⟨x2a, ex2a⟩ : ∃ z : Int32, z = xs (i + (2 : Int32)).toNatClampNeg := ⟨_, rfl⟩
  obtain ⟨x3a, ex3a⟩ : ∃ z : Int32, z = xs (i + (3 : Int32)).toNatClampNeg := ⟨_, rfl⟩
  obtain ⟨o4, z4, m3, v4, m4, hW, e2, hz, hv, inv, hc4, hs4⟩ := P_level l hl0 G hI hB x1a x2a x3a
  refine lv_aload_n hx hb (dk DLaw5 17 rfl) rfl (lv_at hl 1 rfl) ?_
  refine r_arg (k := (1 : Int32)) C hX hbl hbA hR (lv_at hl 0 rfl) (lv_at hl 4 rfl) (hin 1 (by decide) (by decide)) ex1a.symm (dk DLaw5 18 rfl) (dk DLaw5 19 rfl) (dk DLaw5 20 rfl) (by decide) (dk DLaw5 21 rfl) (dk DLaw5 22 rfl) ?_
  refine r_arg (k := (2 : Int32)) C hX hbl hbA hR (lv_at hl 0 rfl) (lv_at hl 4 rfl) (hin 2 (by decide) (by decide)) ex2a.symm (dk DLaw5 23 rfl) (dk DLaw5 24 rfl) (dk DLaw5 25 rfl) (by decide) (dk DLaw5 26 rfl) (dk DLaw5 27 rfl) ?_
  refine r_arg (k := (3 : Int32)) C hX hbl hbA hR (lv_at hl 0 rfl) (lv_at hl 4 rfl) (hin 3 (by decide) (by decide)) ex3a.symm (dk DLaw5 28 rfl) (dk DLaw5 29 rfl) (dk DLaw5 30 rfl) (by decide) (dk DLaw5 31 rfl) (dk DLaw5 32 rfl) ?_
  refine lv_aload_n hx hb (dk DLaw5 33 rfl) rfl (lv_at hl 3 rfl) ?_
  refine r_callW (As := [.ref (G.2.1 + 0), .int x1a, .int x2a, .int x3a, .ref (G.2.1 + 91)]) (rest := []) C hN hR hW (by omega) (by decide) wS_194 rfl rfl (Nat.le_of_ble_eq_true rfl) hl.1 ⟨show cells + cxO o4 ≤ 601024 by omega, show slots + sxO o4 ≤ 7293034 by omega⟩ (dk DLaw5 34 rfl) (fun H locs hR => ?_)
  refine lv_istore (lv' := (5, .int z4) :: five G b i) hx hb (dk DLaw5 35 rfl) hl (by decide) rfl (fun ls hl => ?_)
  refine lv_aload_n hx hb (dk DLaw5 36 rfl) rfl (lv_at hl 3 rfl) ?_
  refine r_arg (k := (1 : Int32)) C hX hbl hbA hR (lv_at hl 1 rfl) (lv_at hl 5 rfl) (hin 1 (by decide) (by decide)) ex1a.symm (dk DLaw5 37 rfl) (dk DLaw5 38 rfl) (dk DLaw5 39 rfl) (by decide) (dk DLaw5 40 rfl) (dk DLaw5 41 rfl) ?_
  refine r_arg (k := (2 : Int32)) C hX hbl hbA hR (lv_at hl 1 rfl) (lv_at hl 5 rfl) (hin 2 (by decide) (by decide)) ex2a.symm (dk DLaw5 42 rfl) (dk DLaw5 43 rfl) (dk DLaw5 44 rfl) (by decide) (dk DLaw5 45 rfl) (dk DLaw5 46 rfl) ?_
  refine r_arg (k := (3 : Int32)) C hX hbl hbA hR (lv_at hl 1 rfl) (lv_at hl 5 rfl) (hin 3 (by decide) (by decide)) ex3a.symm (dk DLaw5 47 rfl) (dk DLaw5 48 rfl) (dk DLaw5 49 rfl) (by decide) (dk DLaw5 50 rfl) (dk DLaw5 51 rfl) ?_
  refine r_callVi (As := [.int x1a, .int x2a, .int x3a]) (rest := []) C hR (C_M_level l hl0 G x1a x2a x3a m3 v4 m4 e2) (by omega) (by decide) ob78 rfl wL_197 rfl rfl (Nat.le_of_ble_eq_true rfl) hl.1 ⟨show cells + cxO o4 ≤ 601024 by omega, show slots + sxO o4 ≤ 7293034 by omega⟩ (dk DLaw5 52 rfl) (fun H locs hR => ?_)
  refine T_int (b := b) (i := i) (tgt := 3285) hl0 C (by omega) hR hl hz hv ⟨show cells + cxO o4 ≤ 601024 by omega, show slots + sxO o4 ≤ 7293034 by omega⟩ wL_172 (dk DLaw5 53 rfl) (dk DLaw5 54 rfl) (dk DLaw5 55 rfl) (dk DLaw5 56 rfl) (dk DLaw5 57 rfl) (dk DLaw6 0 rfl) (dk DLaw6 1 rfl) (dk DLaw6 2 rfl) (dk DLaw6 3 rfl) (dk DLaw6 4 rfl) (dk DLaw6 5 rfl) (dk DLaw6 6 rfl) (dk DLaw6 7 rfl) (dk DLaw6 8 rfl) (dk DLaw6 11 rfl) (by decide) (fun H locs ls hl hR => ?_)
  exact W.widen (by omega) (by omega) (kk H locs ls _ hl hR inv)
set_option maxRecDepth 20000 in
theorem K_9 {p : Program} {l : Launch} {e : Env} {G : GG} {d : Nat} {s : State} {mid : MethodId} {b : Nat} {below : List Frame} {meth : Method} {c : Code} {H : Heap} {locs : List Loc} {ls : Array Slot} {Q : State → Prop} {L : Nat} {xs : Nat → Int32} {i : Int32} {B cells slots : Nat} {mem : Mem} (hl0 : l.stackTraces = false) (C : Cx G p l room_1 d s mid #[.ref b] meth c code 8 RL) (hd : 299 ≤ d) (hN : NCS s) (hX : va_X b L xs s s.heap) (hbl : b < s.heap.size) (hbA : ¬ G.2.1 ≤ b) (hin : ∀ z : Int, 0 ≤ z → z ≤ 6 → vp_in (i + iI z) L) (hB : B ≤ 100000) (hI : Inv B mem) (hR : Rp G mr0 N0 mem s H locs) (hl : lv_has ls 8 (five G b i)) (hcs : cells + 1 ≤ 601024 ∧ slots + 6 ≤ 7293034) (kk : ∀ (H : Heap) (locs : List Loc) (ls : Array Slot) (mem : Mem), lv_has ls 8 (five G b i) → Rp G mr0 N0 mem s H locs → Inv (B + 101) mem → W p l e room_1 s mid #[.ref b] below meth c H locs (cells + 1) (slots + 6) Q (F0 mid 3285 ls [])) : W p l e room_1 s mid #[.ref b] below meth c H locs cells slots Q (F0 mid 783 ls []) := by
  have hx := C.1.1
  have hb := C.1.2.1
  obtain ⟨x1a, ex1a⟩ : ∃ z : Int32, z = xs (i + (1 : Int32)).toNatClampNeg := ⟨_, rfl⟩
  obtain ⟨o4, z4, m3, v4, m4, hW, e2, hz, hv, inv, hc4, hs4⟩ := P_match l hl0 G hI hB x1a
  refine lv_aload_n hx hb (dk DLaw6 12 rfl) rfl (lv_at hl 1 rfl) ?_
  refine r_arg (k := (1 : Int32)) C hX hbl hbA hR (lv_at hl 0 rfl) (lv_at hl 4 rfl) (hin 1 (by decide) (by decide)) ex1a.symm (dk DLaw6 13 rfl) (dk DLaw6 14 rfl) (dk DLaw6 15 rfl) (by decide) (dk DLaw6 16 rfl) (dk DLaw6 17 rfl) ?_
  refine lv_aload_n hx hb (dk DLaw6 18 rfl) rfl (lv_at hl 3 rfl) ?_
  refine r_callW (As := [.ref (G.2.1 + 0), .int x1a, .ref (G.2.1 + 91)]) (rest := []) C hN hR hW (by omega) (by decide) wS_198 rfl rfl (Nat.le_of_ble_eq_true rfl) hl.1 ⟨show cells + cxO o4 ≤ 601024 by omega, show slots + sxO o4 ≤ 7293034 by omega⟩ (dk DLaw6 19 rfl) (fun H locs hR => ?_)
  refine lv_istore (lv' := (5, .int z4) :: five G b i) hx hb (dk DLaw6 20 rfl) hl (by decide) rfl (fun ls hl => ?_)
  refine lv_aload_n hx hb (dk DLaw6 21 rfl) rfl (lv_at hl 3 rfl) ?_
  refine r_arg (k := (1 : Int32)) C hX hbl hbA hR (lv_at hl 1 rfl) (lv_at hl 5 rfl) (hin 1 (by decide) (by decide)) ex1a.symm (dk DLaw6 22 rfl) (dk DLaw6 23 rfl) (dk DLaw6 24 rfl) (by decide) (dk DLaw6 25 rfl) (dk DLaw6 26 rfl) ?_
  refine r_callVi (As := [.int x1a]) (rest := []) C hR (C_M_match l hl0 G x1a m3 v4 m4 e2) (by omega) (by decide) ob78 rfl wL_201 rfl rfl (Nat.le_of_ble_eq_true rfl) hl.1 ⟨show cells + cxO o4 ≤ 601024 by omega, show slots + sxO o4 ≤ 7293034 by omega⟩ (dk DLaw6 27 rfl) (fun H locs hR => ?_)
  refine T_int (b := b) (i := i) (tgt := 3285) hl0 C (by omega) hR hl hz hv ⟨show cells + cxO o4 ≤ 601024 by omega, show slots + sxO o4 ≤ 7293034 by omega⟩ wL_172 (dk DLaw6 28 rfl) (dk DLaw6 29 rfl) (dk DLaw6 30 rfl) (dk DLaw6 31 rfl) (dk DLaw6 32 rfl) (dk DLaw6 35 rfl) (dk DLaw6 36 rfl) (dk DLaw6 37 rfl) (dk DLaw6 38 rfl) (dk DLaw6 39 rfl) (dk DLaw6 40 rfl) (dk DLaw6 41 rfl) (dk DLaw6 42 rfl) (dk DLaw6 43 rfl) (dk DLaw6 46 rfl) (by decide) (fun H locs ls hl hR => ?_)
  exact W.widen (by omega) (by omega) (kk H locs ls _ hl hR inv)
set_option maxRecDepth 20000 in
theorem K_10 {p : Program} {l : Launch} {e : Env} {G : GG} {d : Nat} {s : State} {mid : MethodId} {b : Nat} {below : List Frame} {meth : Method} {c : Code} {H : Heap} {locs : List Loc} {ls : Array Slot} {Q : State → Prop} {L : Nat} {xs : Nat → Int32} {i : Int32} {B cells slots : Nat} {mem : Mem} (hl0 : l.stackTraces = false) (C : Cx G p l room_1 d s mid #[.ref b] meth c code 8 RL) (hd : 299 ≤ d) (hN : NCS s) (hX : va_X b L xs s s.heap) (hbl : b < s.heap.size) (hbA : ¬ G.2.1 ≤ b) (hin : ∀ z : Int, 0 ≤ z → z ≤ 6 → vp_in (i + iI z) L) (hB : B ≤ 100000) (hI : Inv B mem) (hR : Rp G mr0 N0 mem s H locs) (hl : lv_has ls 8 (five G b i)) (hcs : cells + 1 ≤ 601024 ∧ slots + 6 ≤ 7293034) (kk : ∀ (H : Heap) (locs : List Loc) (ls : Array Slot) (mem : Mem), lv_has ls 8 (five G b i) → Rp G mr0 N0 mem s H locs → Inv (B + 101) mem → W p l e room_1 s mid #[.ref b] below meth c H locs (cells + 1) (slots + 6) Q (F0 mid 3285 ls [])) : W p l e room_1 s mid #[.ref b] below meth c H locs cells slots Q (F0 mid 839 ls []) := by
  have hx := C.1.1
  have hb := C.1.2.1
  obtain ⟨x1a, ex1a⟩ : ∃ z : Int32, z = xs (i + (1 : Int32)).toNatClampNeg := ⟨_, rfl⟩
  obtain ⟨o4, z4, m3, v4, m4, hW, e2, hz, hv, inv, hc4, hs4⟩ := P_toss l hl0 G hI hB x1a
  refine lv_aload_n hx hb (dk DLaw6 47 rfl) rfl (lv_at hl 1 rfl) ?_
  refine r_arg (k := (1 : Int32)) C hX hbl hbA hR (lv_at hl 0 rfl) (lv_at hl 4 rfl) (hin 1 (by decide) (by decide)) ex1a.symm (dk DLaw6 48 rfl) (dk DLaw6 49 rfl) (dk DLaw6 50 rfl) (by decide) (dk DLaw6 51 rfl) (dk DLaw6 52 rfl) ?_
  refine lv_aload_n hx hb (dk DLaw6 53 rfl) rfl (lv_at hl 3 rfl) ?_
  refine r_callW (As := [.ref (G.2.1 + 0), .int x1a, .ref (G.2.1 + 91)]) (rest := []) C hN hR hW (by omega) (by decide) wS_202 rfl rfl (Nat.le_of_ble_eq_true rfl) hl.1 ⟨show cells + cxO o4 ≤ 601024 by omega, show slots + sxO o4 ≤ 7293034 by omega⟩ (dk DLaw6 54 rfl) (fun H locs hR => ?_)
  refine lv_istore (lv' := (5, .int z4) :: five G b i) hx hb (dk DLaw6 55 rfl) hl (by decide) rfl (fun ls hl => ?_)
  refine lv_aload_n hx hb (dk DLaw6 56 rfl) rfl (lv_at hl 3 rfl) ?_
  refine r_arg (k := (1 : Int32)) C hX hbl hbA hR (lv_at hl 1 rfl) (lv_at hl 5 rfl) (hin 1 (by decide) (by decide)) ex1a.symm (dk DLaw6 57 rfl) (dk DLaw6 58 rfl) (dk DLaw6 59 rfl) (by decide) (dk DLaw7 0 rfl) (dk DLaw7 1 rfl) ?_
  refine r_callVi (As := [.int x1a]) (rest := []) C hR (C_M_toss l hl0 G x1a m3 v4 m4 e2) (by omega) (by decide) ob78 rfl wL_204 rfl rfl (Nat.le_of_ble_eq_true rfl) hl.1 ⟨show cells + cxO o4 ≤ 601024 by omega, show slots + sxO o4 ≤ 7293034 by omega⟩ (dk DLaw7 2 rfl) (fun H locs hR => ?_)
  refine T_int (b := b) (i := i) (tgt := 3285) hl0 C (by omega) hR hl hz hv ⟨show cells + cxO o4 ≤ 601024 by omega, show slots + sxO o4 ≤ 7293034 by omega⟩ wL_172 (dk DLaw7 3 rfl) (dk DLaw7 4 rfl) (dk DLaw7 5 rfl) (dk DLaw7 6 rfl) (dk DLaw7 7 rfl) (dk DLaw7 10 rfl) (dk DLaw7 11 rfl) (dk DLaw7 12 rfl) (dk DLaw7 13 rfl) (dk DLaw7 14 rfl) (dk DLaw7 15 rfl) (dk DLaw7 16 rfl) (dk DLaw7 17 rfl) (dk DLaw7 18 rfl) (dk DLaw7 21 rfl) (by decide) (fun H locs ls hl hR => ?_)
  exact W.widen (by omega) (by omega) (kk H locs ls _ hl hR inv)
set_option maxRecDepth 20000 in
theorem K_11 {p : Program} {l : Launch} {e : Env} {G : GG} {d : Nat} {s : State} {mid : MethodId} {b : Nat} {below : List Frame} {meth : Method} {c : Code} {H : Heap} {locs : List Loc} {ls : Array Slot} {Q : State → Prop} {L : Nat} {xs : Nat → Int32} {i : Int32} {B cells slots : Nat} {mem : Mem} (hl0 : l.stackTraces = false) (C : Cx G p l room_1 d s mid #[.ref b] meth c code 8 RL) (hd : 299 ≤ d) (hN : NCS s) (hX : va_X b L xs s s.heap) (hbl : b < s.heap.size) (hbA : ¬ G.2.1 ≤ b) (hin : ∀ z : Int, 0 ≤ z → z ≤ 6 → vp_in (i + iI z) L) (hB : B ≤ 100000) (hI : Inv B mem) (hR : Rp G mr0 N0 mem s H locs) (hl : lv_has ls 8 (five G b i)) (hcs : cells + 1 ≤ 601024 ∧ slots + 6 ≤ 7293034) (kk : ∀ (H : Heap) (locs : List Loc) (ls : Array Slot) (mem : Mem), lv_has ls 8 (five G b i) → Rp G mr0 N0 mem s H locs → Inv (B + 101) mem → W p l e room_1 s mid #[.ref b] below meth c H locs (cells + 1) (slots + 6) Q (F0 mid 3285 ls [])) : W p l e room_1 s mid #[.ref b] below meth c H locs cells slots Q (F0 mid 895 ls []) := by
  have hx := C.1.1
  have hb := C.1.2.1
  obtain ⟨o4, z4, m3, v4, m4, hW, e2, hz, hv, inv, hc4, hs4⟩ := P_play l hl0 G hI hB 
  refine lv_aload_n hx hb (dk DLaw7 22 rfl) rfl (lv_at hl 1 rfl) ?_
  refine lv_aload_n hx hb (dk DLaw7 23 rfl) rfl (lv_at hl 3 rfl) ?_
  refine r_callW (As := [.ref (G.2.1 + 0), .ref (G.2.1 + 91)]) (rest := []) C hN hR hW (by omega) (by decide) wS_205 rfl rfl (Nat.le_of_ble_eq_true rfl) hl.1 ⟨show cells + cxO o4 ≤ 601024 by omega, show slots + sxO o4 ≤ 7293034 by omega⟩ (dk DLaw7 24 rfl) (fun H locs hR => ?_)
  refine lv_istore (lv' := (5, .int z4) :: five G b i) hx hb (dk DLaw7 25 rfl) hl (by decide) rfl (fun ls hl => ?_)
  refine lv_aload_n hx hb (dk DLaw7 26 rfl) rfl (lv_at hl 3 rfl) ?_
  refine r_callVi (As := []) (rest := []) C hR (C_M_play l hl0 G  m3 v4 m4 e2) (by omega) (by decide) ob78 rfl wL_207 rfl rfl (Nat.le_of_ble_eq_true rfl) hl.1 ⟨show cells + cxO o4 ≤ 601024 by omega, show slots + sxO o4 ≤ 7293034 by omega⟩ (dk DLaw7 27 rfl) (fun H locs hR => ?_)
  refine T_int (b := b) (i := i) (tgt := 3285) hl0 C (by omega) hR hl hz hv ⟨show cells + cxO o4 ≤ 601024 by omega, show slots + sxO o4 ≤ 7293034 by omega⟩ wL_172 (dk DLaw7 28 rfl) (dk DLaw7 29 rfl) (dk DLaw7 30 rfl) (dk DLaw7 31 rfl) (dk DLaw7 32 rfl) (dk DLaw7 35 rfl) (dk DLaw7 36 rfl) (dk DLaw7 37 rfl) (dk DLaw7 38 rfl) (dk DLaw7 39 rfl) (dk DLaw7 40 rfl) (dk DLaw7 41 rfl) (dk DLaw7 42 rfl) (dk DLaw7 43 rfl) (dk DLaw7 46 rfl) (by decide) (fun H locs ls hl hR => ?_)
  exact W.widen (by omega) (by omega) (kk H locs ls _ hl hR inv)
set_option maxRecDepth 20000 in
theorem K_12 {p : Program} {l : Launch} {e : Env} {G : GG} {d : Nat} {s : State} {mid : MethodId} {b : Nat} {below : List Frame} {meth : Method} {c : Code} {H : Heap} {locs : List Loc} {ls : Array Slot} {Q : State → Prop} {L : Nat} {xs : Nat → Int32} {i : Int32} {B cells slots : Nat} {mem : Mem} (hl0 : l.stackTraces = false) (C : Cx G p l room_1 d s mid #[.ref b] meth c code 8 RL) (hd : 299 ≤ d) (hN : NCS s) (hX : va_X b L xs s s.heap) (hbl : b < s.heap.size) (hbA : ¬ G.2.1 ≤ b) (hin : ∀ z : Int, 0 ≤ z → z ≤ 6 → vp_in (i + iI z) L) (hB : B ≤ 100000) (hI : Inv B mem) (hR : Rp G mr0 N0 mem s H locs) (hl : lv_has ls 8 (five G b i)) (hcs : cells + 1 ≤ 601024 ∧ slots + 6 ≤ 7293034) (kk : ∀ (H : Heap) (locs : List Loc) (ls : Array Slot) (mem : Mem), lv_has ls 8 (five G b i) → Rp G mr0 N0 mem s H locs → Inv (B + 101) mem → W p l e room_1 s mid #[.ref b] below meth c H locs (cells + 1) (slots + 6) Q (F0 mid 3285 ls [])) : W p l e room_1 s mid #[.ref b] below meth c H locs cells slots Q (F0 mid 939 ls []) := by
  have hx := C.1.1
  have hb := C.1.2.1
  obtain ⟨x1a, ex1a⟩ : ∃ z : Int32, z = xs (i + (1 : Int32)).toNatClampNeg := ⟨_, rfl⟩
  obtain ⟨o4, z4, m3, v4, m4, hW, e2, hz, hv, inv, hc4, hs4⟩ := P_bring l hl0 G hI hB x1a
  refine lv_aload_n hx hb (dk DLaw7 47 rfl) rfl (lv_at hl 1 rfl) ?_
  refine r_arg (k := (1 : Int32)) C hX hbl hbA hR (lv_at hl 0 rfl) (lv_at hl 4 rfl) (hin 1 (by decide) (by decide)) ex1a.symm (dk DLaw7 48 rfl) (dk DLaw7 49 rfl) (dk DLaw7 50 rfl) (by decide) (dk DLaw7 51 rfl) (dk DLaw7 52 rfl) ?_
  refine lv_aload_n hx hb (dk DLaw7 53 rfl) rfl (lv_at hl 3 rfl) ?_
  refine r_callW (As := [.ref (G.2.1 + 0), .int x1a, .ref (G.2.1 + 91)]) (rest := []) C hN hR hW (by omega) (by decide) wS_208 rfl rfl (Nat.le_of_ble_eq_true rfl) hl.1 ⟨show cells + cxO o4 ≤ 601024 by omega, show slots + sxO o4 ≤ 7293034 by omega⟩ (dk DLaw7 54 rfl) (fun H locs hR => ?_)
  refine lv_istore (lv' := (5, .int z4) :: five G b i) hx hb (dk DLaw7 55 rfl) hl (by decide) rfl (fun ls hl => ?_)
  refine lv_aload_n hx hb (dk DLaw7 56 rfl) rfl (lv_at hl 3 rfl) ?_
  refine r_arg (k := (1 : Int32)) C hX hbl hbA hR (lv_at hl 1 rfl) (lv_at hl 5 rfl) (hin 1 (by decide) (by decide)) ex1a.symm (dk DLaw7 57 rfl) (dk DLaw7 58 rfl) (dk DLaw7 59 rfl) (by decide) (dk DLaw8 0 rfl) (dk DLaw8 1 rfl) ?_
  refine r_callVi (As := [.int x1a]) (rest := []) C hR (C_M_bring l hl0 G x1a m3 v4 m4 e2) (by omega) (by decide) ob78 rfl wL_210 rfl rfl (Nat.le_of_ble_eq_true rfl) hl.1 ⟨show cells + cxO o4 ≤ 601024 by omega, show slots + sxO o4 ≤ 7293034 by omega⟩ (dk DLaw8 2 rfl) (fun H locs hR => ?_)
  refine T_int (b := b) (i := i) (tgt := 3285) hl0 C (by omega) hR hl hz hv ⟨show cells + cxO o4 ≤ 601024 by omega, show slots + sxO o4 ≤ 7293034 by omega⟩ wL_172 (dk DLaw8 3 rfl) (dk DLaw8 4 rfl) (dk DLaw8 5 rfl) (dk DLaw8 6 rfl) (dk DLaw8 7 rfl) (dk DLaw8 10 rfl) (dk DLaw8 11 rfl) (dk DLaw8 12 rfl) (dk DLaw8 13 rfl) (dk DLaw8 14 rfl) (dk DLaw8 15 rfl) (dk DLaw8 16 rfl) (dk DLaw8 17 rfl) (dk DLaw8 18 rfl) (dk DLaw8 21 rfl) (by decide) (fun H locs ls hl hR => ?_)
  exact W.widen (by omega) (by omega) (kk H locs ls _ hl hR inv)
set_option maxRecDepth 20000 in
theorem K_13 {p : Program} {l : Launch} {e : Env} {G : GG} {d : Nat} {s : State} {mid : MethodId} {b : Nat} {below : List Frame} {meth : Method} {c : Code} {H : Heap} {locs : List Loc} {ls : Array Slot} {Q : State → Prop} {L : Nat} {xs : Nat → Int32} {i : Int32} {B cells slots : Nat} {mem : Mem} (hl0 : l.stackTraces = false) (C : Cx G p l room_1 d s mid #[.ref b] meth c code 8 RL) (hd : 299 ≤ d) (hN : NCS s) (hX : va_X b L xs s s.heap) (hbl : b < s.heap.size) (hbA : ¬ G.2.1 ≤ b) (hin : ∀ z : Int, 0 ≤ z → z ≤ 6 → vp_in (i + iI z) L) (hB : B ≤ 100000) (hI : Inv B mem) (hR : Rp G mr0 N0 mem s H locs) (hl : lv_has ls 8 (five G b i)) (hcs : cells + 1 ≤ 601024 ∧ slots + 6 ≤ 7293034) (kk : ∀ (H : Heap) (locs : List Loc) (ls : Array Slot) (mem : Mem), lv_has ls 8 (five G b i) → Rp G mr0 N0 mem s H locs → Inv (B + 101) mem → W p l e room_1 s mid #[.ref b] below meth c H locs (cells + 1) (slots + 6) Q (F0 mid 3285 ls [])) : W p l e room_1 s mid #[.ref b] below meth c H locs cells slots Q (F0 mid 995 ls []) := by
  have hx := C.1.1
  have hb := C.1.2.1
  obtain ⟨x1a, ex1a⟩ : ∃ z : Int32, z = xs (i + (1 : Int32)).toNatClampNeg := ⟨_, rfl⟩
  obtain ⟨o4, z4, m3, v4, m4, hW, e2, hz, hv, inv, hc4, hs4⟩ := P_hold l hl0 G hI hB x1a
  refine lv_aload_n hx hb (dk DLaw8 22 rfl) rfl (lv_at hl 1 rfl) ?_
  refine r_arg (k := (1 : Int32)) C hX hbl hbA hR (lv_at hl 0 rfl) (lv_at hl 4 rfl) (hin 1 (by decide) (by decide)) ex1a.symm (dk DLaw8 23 rfl) (dk DLaw8 24 rfl) (dk DLaw8 25 rfl) (by decide) (dk DLaw8 26 rfl) (dk DLaw8 27 rfl) ?_
  refine lv_aload_n hx hb (dk DLaw8 28 rfl) rfl (lv_at hl 3 rfl) ?_
  refine r_callW (As := [.ref (G.2.1 + 0), .int x1a, .ref (G.2.1 + 91)]) (rest := []) C hN hR hW (by omega) (by decide) wS_211 rfl rfl (Nat.le_of_ble_eq_true rfl) hl.1 ⟨show cells + cxO o4 ≤ 601024 by omega, show slots + sxO o4 ≤ 7293034 by omega⟩ (dk DLaw8 29 rfl) (fun H locs hR => ?_)
  refine lv_istore (lv' := (5, .int z4) :: five G b i) hx hb (dk DLaw8 30 rfl) hl (by decide) rfl (fun ls hl => ?_)
  refine lv_aload_n hx hb (dk DLaw8 31 rfl) rfl (lv_at hl 3 rfl) ?_
  refine r_arg (k := (1 : Int32)) C hX hbl hbA hR (lv_at hl 1 rfl) (lv_at hl 5 rfl) (hin 1 (by decide) (by decide)) ex1a.symm (dk DLaw8 32 rfl) (dk DLaw8 33 rfl) (dk DLaw8 34 rfl) (by decide) (dk DLaw8 35 rfl) (dk DLaw8 36 rfl) ?_
  refine r_callVi (As := [.int x1a]) (rest := []) C hR (C_M_hold l hl0 G x1a m3 v4 m4 e2) (by omega) (by decide) ob78 rfl wL_213 rfl rfl (Nat.le_of_ble_eq_true rfl) hl.1 ⟨show cells + cxO o4 ≤ 601024 by omega, show slots + sxO o4 ≤ 7293034 by omega⟩ (dk DLaw8 37 rfl) (fun H locs hR => ?_)
  refine T_int (b := b) (i := i) (tgt := 3285) hl0 C (by omega) hR hl hz hv ⟨show cells + cxO o4 ≤ 601024 by omega, show slots + sxO o4 ≤ 7293034 by omega⟩ wL_172 (dk DLaw8 38 rfl) (dk DLaw8 39 rfl) (dk DLaw8 40 rfl) (dk DLaw8 41 rfl) (dk DLaw8 42 rfl) (dk DLaw8 45 rfl) (dk DLaw8 46 rfl) (dk DLaw8 47 rfl) (dk DLaw8 48 rfl) (dk DLaw8 49 rfl) (dk DLaw8 50 rfl) (dk DLaw8 51 rfl) (dk DLaw8 52 rfl) (dk DLaw8 53 rfl) (dk DLaw8 56 rfl) (by decide) (fun H locs ls hl hR => ?_)
  exact W.widen (by omega) (by omega) (kk H locs ls _ hl hR inv)
set_option maxRecDepth 20000 in
theorem K_14 {p : Program} {l : Launch} {e : Env} {G : GG} {d : Nat} {s : State} {mid : MethodId} {b : Nat} {below : List Frame} {meth : Method} {c : Code} {H : Heap} {locs : List Loc} {ls : Array Slot} {Q : State → Prop} {L : Nat} {xs : Nat → Int32} {i : Int32} {B cells slots : Nat} {mem : Mem} (hl0 : l.stackTraces = false) (C : Cx G p l room_1 d s mid #[.ref b] meth c code 8 RL) (hd : 299 ≤ d) (hN : NCS s) (hX : va_X b L xs s s.heap) (hbl : b < s.heap.size) (hbA : ¬ G.2.1 ≤ b) (hin : ∀ z : Int, 0 ≤ z → z ≤ 6 → vp_in (i + iI z) L) (hB : B ≤ 100000) (hI : Inv B mem) (hR : Rp G mr0 N0 mem s H locs) (hl : lv_has ls 8 (five G b i)) (hcs : cells + 1 ≤ 601024 ∧ slots + 6 ≤ 7293034) (kk : ∀ (H : Heap) (locs : List Loc) (ls : Array Slot) (mem : Mem), lv_has ls 8 (five G b i) → Rp G mr0 N0 mem s H locs → Inv (B + 101) mem → W p l e room_1 s mid #[.ref b] below meth c H locs (cells + 1) (slots + 6) Q (F0 mid 3285 ls [])) : W p l e room_1 s mid #[.ref b] below meth c H locs cells slots Q (F0 mid 1051 ls []) := by
  have hx := C.1.1
  have hb := C.1.2.1
  obtain ⟨o4, z4, m3, v4, m4, hW, e2, hz, hv, inv, hc4, hs4⟩ := P_declare l hl0 G hI hB 
  refine lv_aload_n hx hb (dk DLaw8 57 rfl) rfl (lv_at hl 1 rfl) ?_
  refine lv_aload_n hx hb (dk DLaw8 58 rfl) rfl (lv_at hl 3 rfl) ?_
  refine r_callW (As := [.ref (G.2.1 + 0), .ref (G.2.1 + 91)]) (rest := []) C hN hR hW (by omega) (by decide) wS_214 rfl rfl (Nat.le_of_ble_eq_true rfl) hl.1 ⟨show cells + cxO o4 ≤ 601024 by omega, show slots + sxO o4 ≤ 7293034 by omega⟩ (dk DLaw8 59 rfl) (fun H locs hR => ?_)
  refine lv_istore (lv' := (5, .int z4) :: five G b i) hx hb (dk DLaw9 0 rfl) hl (by decide) rfl (fun ls hl => ?_)
  refine lv_aload_n hx hb (dk DLaw9 1 rfl) rfl (lv_at hl 3 rfl) ?_
  refine r_callVi (As := []) (rest := []) C hR (C_M_declare l hl0 G  m3 v4 m4 e2) (by omega) (by decide) ob78 rfl wL_216 rfl rfl (Nat.le_of_ble_eq_true rfl) hl.1 ⟨show cells + cxO o4 ≤ 601024 by omega, show slots + sxO o4 ≤ 7293034 by omega⟩ (dk DLaw9 2 rfl) (fun H locs hR => ?_)
  refine T_int (b := b) (i := i) (tgt := 3285) hl0 C (by omega) hR hl hz hv ⟨show cells + cxO o4 ≤ 601024 by omega, show slots + sxO o4 ≤ 7293034 by omega⟩ wL_172 (dk DLaw9 3 rfl) (dk DLaw9 4 rfl) (dk DLaw9 5 rfl) (dk DLaw9 6 rfl) (dk DLaw9 7 rfl) (dk DLaw9 10 rfl) (dk DLaw9 11 rfl) (dk DLaw9 12 rfl) (dk DLaw9 13 rfl) (dk DLaw9 14 rfl) (dk DLaw9 15 rfl) (dk DLaw9 16 rfl) (dk DLaw9 17 rfl) (dk DLaw9 18 rfl) (dk DLaw9 21 rfl) (by decide) (fun H locs ls hl hR => ?_)
  exact W.widen (by omega) (by omega) (kk H locs ls _ hl hR inv)
set_option maxRecDepth 20000 in
theorem K_15 {p : Program} {l : Launch} {e : Env} {G : GG} {d : Nat} {s : State} {mid : MethodId} {b : Nat} {below : List Frame} {meth : Method} {c : Code} {H : Heap} {locs : List Loc} {ls : Array Slot} {Q : State → Prop} {L : Nat} {xs : Nat → Int32} {i : Int32} {B cells slots : Nat} {mem : Mem} (hl0 : l.stackTraces = false) (C : Cx G p l room_1 d s mid #[.ref b] meth c code 8 RL) (hd : 299 ≤ d) (hN : NCS s) (hX : va_X b L xs s s.heap) (hbl : b < s.heap.size) (hbA : ¬ G.2.1 ≤ b) (hin : ∀ z : Int, 0 ≤ z → z ≤ 6 → vp_in (i + iI z) L) (hB : B ≤ 100000) (hI : Inv B mem) (hR : Rp G mr0 N0 mem s H locs) (hl : lv_has ls 8 (five G b i)) (hcs : cells + 1 ≤ 601024 ∧ slots + 6 ≤ 7293034) (kk : ∀ (H : Heap) (locs : List Loc) (ls : Array Slot) (mem : Mem), lv_has ls 8 (five G b i) → Rp G mr0 N0 mem s H locs → Inv (B + 101) mem → W p l e room_1 s mid #[.ref b] below meth c H locs (cells + 1) (slots + 6) Q (F0 mid 3285 ls [])) : W p l e room_1 s mid #[.ref b] below meth c H locs cells slots Q (F0 mid 1095 ls []) := by
  have hx := C.1.1
  have hb := C.1.2.1
  obtain ⟨o4, z4, m3, v4, m4, hW, e2, hz, hv, inv, hc4, hs4⟩ := P_follow l hl0 G hI hB 
  refine lv_aload_n hx hb (dk DLaw9 22 rfl) rfl (lv_at hl 1 rfl) ?_
  refine lv_aload_n hx hb (dk DLaw9 23 rfl) rfl (lv_at hl 3 rfl) ?_
  refine r_callW (As := [.ref (G.2.1 + 0), .ref (G.2.1 + 91)]) (rest := []) C hN hR hW (by omega) (by decide) wS_217 rfl rfl (Nat.le_of_ble_eq_true rfl) hl.1 ⟨show cells + cxO o4 ≤ 601024 by omega, show slots + sxO o4 ≤ 7293034 by omega⟩ (dk DLaw9 24 rfl) (fun H locs hR => ?_)
  refine lv_istore (lv' := (5, .int z4) :: five G b i) hx hb (dk DLaw9 25 rfl) hl (by decide) rfl (fun ls hl => ?_)
  refine lv_aload_n hx hb (dk DLaw9 26 rfl) rfl (lv_at hl 3 rfl) ?_
  refine r_callVi (As := []) (rest := []) C hR (C_M_follow l hl0 G  m3 v4 m4 e2) (by omega) (by decide) ob78 rfl wL_219 rfl rfl (Nat.le_of_ble_eq_true rfl) hl.1 ⟨show cells + cxO o4 ≤ 601024 by omega, show slots + sxO o4 ≤ 7293034 by omega⟩ (dk DLaw9 27 rfl) (fun H locs hR => ?_)
  refine T_int (b := b) (i := i) (tgt := 3285) hl0 C (by omega) hR hl hz hv ⟨show cells + cxO o4 ≤ 601024 by omega, show slots + sxO o4 ≤ 7293034 by omega⟩ wL_172 (dk DLaw9 28 rfl) (dk DLaw9 29 rfl) (dk DLaw9 30 rfl) (dk DLaw9 31 rfl) (dk DLaw9 32 rfl) (dk DLaw9 35 rfl) (dk DLaw9 36 rfl) (dk DLaw9 37 rfl) (dk DLaw9 38 rfl) (dk DLaw9 39 rfl) (dk DLaw9 40 rfl) (dk DLaw9 41 rfl) (dk DLaw9 42 rfl) (dk DLaw9 43 rfl) (dk DLaw9 46 rfl) (by decide) (fun H locs ls hl hR => ?_)
  exact W.widen (by omega) (by omega) (kk H locs ls _ hl hR inv)
set_option maxRecDepth 20000 in
theorem K_16 {p : Program} {l : Launch} {e : Env} {G : GG} {d : Nat} {s : State} {mid : MethodId} {b : Nat} {below : List Frame} {meth : Method} {c : Code} {H : Heap} {locs : List Loc} {ls : Array Slot} {Q : State → Prop} {L : Nat} {xs : Nat → Int32} {i : Int32} {B cells slots : Nat} {mem : Mem} (hl0 : l.stackTraces = false) (C : Cx G p l room_1 d s mid #[.ref b] meth c code 8 RL) (hd : 299 ≤ d) (hN : NCS s) (hX : va_X b L xs s s.heap) (hbl : b < s.heap.size) (hbA : ¬ G.2.1 ≤ b) (hin : ∀ z : Int, 0 ≤ z → z ≤ 6 → vp_in (i + iI z) L) (hB : B ≤ 100000) (hI : Inv B mem) (hR : Rp G mr0 N0 mem s H locs) (hl : lv_has ls 8 (five G b i)) (hcs : cells + 1 ≤ 601024 ∧ slots + 6 ≤ 7293034) (kk : ∀ (H : Heap) (locs : List Loc) (ls : Array Slot) (mem : Mem), lv_has ls 8 (five G b i) → Rp G mr0 N0 mem s H locs → Inv (B + 101) mem → W p l e room_1 s mid #[.ref b] below meth c H locs (cells + 1) (slots + 6) Q (F0 mid 3285 ls [])) : W p l e room_1 s mid #[.ref b] below meth c H locs cells slots Q (F0 mid 1139 ls []) := by
  have hx := C.1.1
  have hb := C.1.2.1
  obtain ⟨law, n, mg, wd, tx, bc, t, iv⟩ := hI
  obtain ⟨rT, m1, e1, rM, m2, e2, hv, inv⟩ := anew_op iv 
  have inv : Inv (B + 101) m2 := inv.up (by omega)
  refine lv_aload_n hx hb (dk DLaw9 47 rfl) rfl (lv_at hl 1 rfl) ?_
  refine r_callVi (As := []) (rest := []) C hR (C_T_anew l hl0 G  mem rT m1 e1) (by omega) (by decide) ob0 rfl wL_220 rfl rfl (Nat.le_of_ble_eq_true rfl) hl.1 ⟨show cells ≤ 601024 by omega, show slots ≤ 7293034 by omega⟩ (dk DLaw9 48 rfl) (fun H locs hR => ?_)
  refine lv_aload_n hx hb (dk DLaw9 49 rfl) rfl (lv_at hl 2 rfl) ?_
  refine r_callVi (As := []) (rest := [.int rT]) C hR (C_M_anew l hl0 G  m1 rM m2 e2) (by omega) (by decide) ob78 rfl wL_223 rfl rfl (Nat.le_of_ble_eq_true rfl) hl.1 ⟨show cells ≤ 601024 by omega, show slots ≤ 7293034 by omega⟩ (dk DLaw9 50 rfl) (fun H locs hR => ?_)
  refine lv_icmp_eq (tgt := 3285) hx hb (dk DLaw9 51 rfl) (by decide) (fun _ => ?_) (fun h => absurd (by rw [hv]) h)
  exact W.widen (by omega) (by omega) (kk H locs ls _ hl hR inv)
set_option maxRecDepth 20000 in
theorem K_17 {p : Program} {l : Launch} {e : Env} {G : GG} {d : Nat} {s : State} {mid : MethodId} {b : Nat} {below : List Frame} {meth : Method} {c : Code} {H : Heap} {locs : List Loc} {ls : Array Slot} {Q : State → Prop} {L : Nat} {xs : Nat → Int32} {i : Int32} {B cells slots : Nat} {mem : Mem} (hl0 : l.stackTraces = false) (C : Cx G p l room_1 d s mid #[.ref b] meth c code 8 RL) (hd : 299 ≤ d) (hN : NCS s) (hX : va_X b L xs s s.heap) (hbl : b < s.heap.size) (hbA : ¬ G.2.1 ≤ b) (hin : ∀ z : Int, 0 ≤ z → z ≤ 6 → vp_in (i + iI z) L) (hB : B ≤ 100000) (hI : Inv B mem) (hR : Rp G mr0 N0 mem s H locs) (hl : lv_has ls 8 (five G b i)) (hcs : cells + 1 ≤ 601024 ∧ slots + 6 ≤ 7293034) (kk : ∀ (H : Heap) (locs : List Loc) (ls : Array Slot) (mem : Mem), lv_has ls 8 (five G b i) → Rp G mr0 N0 mem s H locs → Inv (B + 101) mem → W p l e room_1 s mid #[.ref b] below meth c H locs (cells + 1) (slots + 6) Q (F0 mid 3285 ls [])) : W p l e room_1 s mid #[.ref b] below meth c H locs cells slots Q (F0 mid 1152 ls []) := by
  have hx := C.1.1
  have hb := C.1.2.1
  obtain ⟨x1a, ex1a⟩ : ∃ z : Int32, z = xs (i + (1 : Int32)).toNatClampNeg := ⟨_, rfl⟩
  obtain ⟨o4, z4, m3, v4, m4, hW, e2, hz, hv, inv, hc4, hs4⟩ := P_here l hl0 G hI hB x1a
  refine lv_aload_n hx hb (dk DLaw9 54 rfl) rfl (lv_at hl 1 rfl) ?_
  refine r_arg (k := (1 : Int32)) C hX hbl hbA hR (lv_at hl 0 rfl) (lv_at hl 4 rfl) (hin 1 (by decide) (by decide)) ex1a.symm (dk DLaw9 55 rfl) (dk DLaw9 56 rfl) (dk DLaw9 57 rfl) (by decide) (dk DLaw9 58 rfl) (dk DLaw9 59 rfl) ?_
  refine lv_aload_n hx hb (dk DLaw10 0 rfl) rfl (lv_at hl 3 rfl) ?_
  refine r_callW (As := [.ref (G.2.1 + 0), .int x1a, .ref (G.2.1 + 91)]) (rest := []) C hN hR hW (by omega) (by decide) wS_224 rfl rfl (Nat.le_of_ble_eq_true rfl) hl.1 ⟨show cells + cxO o4 ≤ 601024 by omega, show slots + sxO o4 ≤ 7293034 by omega⟩ (dk DLaw10 1 rfl) (fun H locs hR => ?_)
  refine lv_istore (lv' := (5, .int z4) :: five G b i) hx hb (dk DLaw10 2 rfl) hl (by decide) rfl (fun ls hl => ?_)
  refine lv_aload_n hx hb (dk DLaw10 3 rfl) rfl (lv_at hl 3 rfl) ?_
  refine r_arg (k := (1 : Int32)) C hX hbl hbA hR (lv_at hl 1 rfl) (lv_at hl 5 rfl) (hin 1 (by decide) (by decide)) ex1a.symm (dk DLaw10 4 rfl) (dk DLaw10 5 rfl) (dk DLaw10 6 rfl) (by decide) (dk DLaw10 7 rfl) (dk DLaw10 8 rfl) ?_
  refine r_callVl (As := [.int x1a]) (rest := []) C hR (C_M_here l hl0 G x1a m3 v4 m4 e2) (by omega) (by decide) ob78 rfl wL_226 rfl rfl (Nat.le_of_ble_eq_true rfl) hl.1 ⟨show cells + cxO o4 ≤ 601024 by omega, show slots + sxO o4 ≤ 7293034 by omega⟩ (dk DLaw10 9 rfl) (fun H locs hR => ?_)
  refine T_long (b := b) (i := i) (tgt := 3285) hl0 C (by omega) hR hl hz hv ⟨show cells + cxO o4 ≤ 601024 by omega, show slots + sxO o4 ≤ 7293034 by omega⟩ wL_172 (dk DLaw10 10 rfl) (dk DLaw10 11 rfl) (dk DLaw10 12 rfl) (dk DLaw10 13 rfl) (dk DLaw10 14 rfl) (dk DLaw10 17 rfl) (dk DLaw10 18 rfl) (dk DLaw10 19 rfl) (dk DLaw10 20 rfl) (dk DLaw10 21 rfl) (dk DLaw10 22 rfl) (dk DLaw10 23 rfl) (dk DLaw10 24 rfl) (dk DLaw10 27 rfl) (by decide) (fun H locs ls hl hR => ?_)
  exact W.widen (by omega) (by omega) (kk H locs ls _ hl hR inv)
set_option maxRecDepth 20000 in
theorem K_18 {p : Program} {l : Launch} {e : Env} {G : GG} {d : Nat} {s : State} {mid : MethodId} {b : Nat} {below : List Frame} {meth : Method} {c : Code} {H : Heap} {locs : List Loc} {ls : Array Slot} {Q : State → Prop} {L : Nat} {xs : Nat → Int32} {i : Int32} {B cells slots : Nat} {mem : Mem} (hl0 : l.stackTraces = false) (C : Cx G p l room_1 d s mid #[.ref b] meth c code 8 RL) (hd : 299 ≤ d) (hN : NCS s) (hX : va_X b L xs s s.heap) (hbl : b < s.heap.size) (hbA : ¬ G.2.1 ≤ b) (hin : ∀ z : Int, 0 ≤ z → z ≤ 6 → vp_in (i + iI z) L) (hB : B ≤ 100000) (hI : Inv B mem) (hR : Rp G mr0 N0 mem s H locs) (hl : lv_has ls 8 (five G b i)) (hcs : cells + 1 ≤ 601024 ∧ slots + 6 ≤ 7293034) (kk : ∀ (H : Heap) (locs : List Loc) (ls : Array Slot) (mem : Mem), lv_has ls 8 (five G b i) → Rp G mr0 N0 mem s H locs → Inv (B + 101) mem → W p l e room_1 s mid #[.ref b] below meth c H locs (cells + 1) (slots + 6) Q (F0 mid 3285 ls [])) : W p l e room_1 s mid #[.ref b] below meth c H locs cells slots Q (F0 mid 1207 ls []) := by
  have hx := C.1.1
  have hb := C.1.2.1
  obtain ⟨x1a, ex1a⟩ : ∃ z : Int32, z = xs (i + (1 : Int32)).toNatClampNeg := ⟨_, rfl⟩
  obtain ⟨x2a, ex2a⟩ : ∃ z : Int32, z = xs (i + (2 : Int32)).toNatClampNeg := ⟨_, rfl⟩
  obtain ⟨o4, z4, m3, v4, m4, hW, e2, hz, hv, inv, hc4, hs4⟩ := P_worth l hl0 G hI hB x1a x2a
  refine lv_aload_n hx hb (dk DLaw10 28 rfl) rfl (lv_at hl 1 rfl) ?_
  refine r_arg (k := (1 : Int32)) C hX hbl hbA hR (lv_at hl 0 rfl) (lv_at hl 4 rfl) (hin 1 (by decide) (by decide)) ex1a.symm (dk DLaw10 29 rfl) (dk DLaw10 30 rfl) (dk DLaw10 31 rfl) (by decide) (dk DLaw10 32 rfl) (dk DLaw10 33 rfl) ?_
  refine r_arg (k := (2 : Int32)) C hX hbl hbA hR (lv_at hl 0 rfl) (lv_at hl 4 rfl) (hin 2 (by decide) (by decide)) ex2a.symm (dk DLaw10 34 rfl) (dk DLaw10 35 rfl) (dk DLaw10 36 rfl) (by decide) (dk DLaw10 37 rfl) (dk DLaw10 38 rfl) ?_
  refine lv_aload_n hx hb (dk DLaw10 39 rfl) rfl (lv_at hl 3 rfl) ?_
  refine r_callW (As := [.ref (G.2.1 + 0), .int x1a, .int x2a, .ref (G.2.1 + 91)]) (rest := []) C hN hR hW (by omega) (by decide) wS_227 rfl rfl (Nat.le_of_ble_eq_true rfl) hl.1 ⟨show cells + cxO o4 ≤ 601024 by omega, show slots + sxO o4 ≤ 7293034 by omega⟩ (dk DLaw10 40 rfl) (fun H locs hR => ?_)
  refine lv_istore (lv' := (5, .int z4) :: five G b i) hx hb (dk DLaw10 41 rfl) hl (by decide) rfl (fun ls hl => ?_)
  refine lv_aload_n hx hb (dk DLaw10 42 rfl) rfl (lv_at hl 3 rfl) ?_
  refine r_arg (k := (1 : Int32)) C hX hbl hbA hR (lv_at hl 1 rfl) (lv_at hl 5 rfl) (hin 1 (by decide) (by decide)) ex1a.symm (dk DLaw10 43 rfl) (dk DLaw10 44 rfl) (dk DLaw10 45 rfl) (by decide) (dk DLaw10 46 rfl) (dk DLaw10 47 rfl) ?_
  refine r_arg (k := (2 : Int32)) C hX hbl hbA hR (lv_at hl 1 rfl) (lv_at hl 5 rfl) (hin 2 (by decide) (by decide)) ex2a.symm (dk DLaw10 48 rfl) (dk DLaw10 49 rfl) (dk DLaw10 50 rfl) (by decide) (dk DLaw10 51 rfl) (dk DLaw10 52 rfl) ?_
  refine r_callVl (As := [.int x1a, .int x2a]) (rest := []) C hR (C_M_worth l hl0 G x1a x2a m3 v4 m4 e2) (by omega) (by decide) ob78 rfl wL_229 rfl rfl (Nat.le_of_ble_eq_true rfl) hl.1 ⟨show cells + cxO o4 ≤ 601024 by omega, show slots + sxO o4 ≤ 7293034 by omega⟩ (dk DLaw10 53 rfl) (fun H locs hR => ?_)
  refine T_long (b := b) (i := i) (tgt := 3285) hl0 C (by omega) hR hl hz hv ⟨show cells + cxO o4 ≤ 601024 by omega, show slots + sxO o4 ≤ 7293034 by omega⟩ wL_172 (dk DLaw10 54 rfl) (dk DLaw10 55 rfl) (dk DLaw10 56 rfl) (dk DLaw10 57 rfl) (dk DLaw10 58 rfl) (dk DLaw11 1 rfl) (dk DLaw11 2 rfl) (dk DLaw11 3 rfl) (dk DLaw11 4 rfl) (dk DLaw11 5 rfl) (dk DLaw11 6 rfl) (dk DLaw11 7 rfl) (dk DLaw11 8 rfl) (dk DLaw11 11 rfl) (by decide) (fun H locs ls hl hR => ?_)
  exact W.widen (by omega) (by omega) (kk H locs ls _ hl hR inv)
set_option maxRecDepth 20000 in
theorem K_19 {p : Program} {l : Launch} {e : Env} {G : GG} {d : Nat} {s : State} {mid : MethodId} {b : Nat} {below : List Frame} {meth : Method} {c : Code} {H : Heap} {locs : List Loc} {ls : Array Slot} {Q : State → Prop} {L : Nat} {xs : Nat → Int32} {i : Int32} {B cells slots : Nat} {mem : Mem} (hl0 : l.stackTraces = false) (C : Cx G p l room_1 d s mid #[.ref b] meth c code 8 RL) (hd : 299 ≤ d) (hN : NCS s) (hX : va_X b L xs s s.heap) (hbl : b < s.heap.size) (hbA : ¬ G.2.1 ≤ b) (hin : ∀ z : Int, 0 ≤ z → z ≤ 6 → vp_in (i + iI z) L) (hB : B ≤ 100000) (hI : Inv B mem) (hR : Rp G mr0 N0 mem s H locs) (hl : lv_has ls 8 (five G b i)) (hcs : cells + 1 ≤ 601024 ∧ slots + 6 ≤ 7293034) (kk : ∀ (H : Heap) (locs : List Loc) (ls : Array Slot) (mem : Mem), lv_has ls 8 (five G b i) → Rp G mr0 N0 mem s H locs → Inv (B + 101) mem → W p l e room_1 s mid #[.ref b] below meth c H locs (cells + 1) (slots + 6) Q (F0 mid 3285 ls [])) : W p l e room_1 s mid #[.ref b] below meth c H locs cells slots Q (F0 mid 1274 ls []) := by
  have hx := C.1.1
  have hb := C.1.2.1
  obtain ⟨x1a, ex1a⟩ : ∃ z : Int32, z = xs (i + (1 : Int32)).toNatClampNeg := ⟨_, rfl⟩
  obtain ⟨o4, z4, m3, v4, m4, hW, e2, hz, hv, inv, hc4, hs4⟩ := P_evens l hl0 G hI hB x1a
  refine lv_aload_n hx hb (dk DLaw11 12 rfl) rfl (lv_at hl 1 rfl) ?_
  refine r_arg (k := (1 : Int32)) C hX hbl hbA hR (lv_at hl 0 rfl) (lv_at hl 4 rfl) (hin 1 (by decide) (by decide)) ex1a.symm (dk DLaw11 13 rfl) (dk DLaw11 14 rfl) (dk DLaw11 15 rfl) (by decide) (dk DLaw11 16 rfl) (dk DLaw11 17 rfl) ?_
  refine lv_aload_n hx hb (dk DLaw11 18 rfl) rfl (lv_at hl 3 rfl) ?_
  refine r_callW (As := [.ref (G.2.1 + 0), .int x1a, .ref (G.2.1 + 91)]) (rest := []) C hN hR hW (by omega) (by decide) wS_230 rfl rfl (Nat.le_of_ble_eq_true rfl) hl.1 ⟨show cells + cxO o4 ≤ 601024 by omega, show slots + sxO o4 ≤ 7293034 by omega⟩ (dk DLaw11 19 rfl) (fun H locs hR => ?_)
  refine lv_istore (lv' := (5, .int z4) :: five G b i) hx hb (dk DLaw11 20 rfl) hl (by decide) rfl (fun ls hl => ?_)
  refine lv_aload_n hx hb (dk DLaw11 21 rfl) rfl (lv_at hl 3 rfl) ?_
  refine r_arg (k := (1 : Int32)) C hX hbl hbA hR (lv_at hl 1 rfl) (lv_at hl 5 rfl) (hin 1 (by decide) (by decide)) ex1a.symm (dk DLaw11 22 rfl) (dk DLaw11 23 rfl) (dk DLaw11 24 rfl) (by decide) (dk DLaw11 25 rfl) (dk DLaw11 26 rfl) ?_
  refine r_callVl (As := [.int x1a]) (rest := []) C hR (C_M_evens l hl0 G x1a m3 v4 m4 e2) (by omega) (by decide) ob78 rfl wL_232 rfl rfl (Nat.le_of_ble_eq_true rfl) hl.1 ⟨show cells + cxO o4 ≤ 601024 by omega, show slots + sxO o4 ≤ 7293034 by omega⟩ (dk DLaw11 27 rfl) (fun H locs hR => ?_)
  refine T_long (b := b) (i := i) (tgt := 3285) hl0 C (by omega) hR hl hz hv ⟨show cells + cxO o4 ≤ 601024 by omega, show slots + sxO o4 ≤ 7293034 by omega⟩ wL_172 (dk DLaw11 28 rfl) (dk DLaw11 29 rfl) (dk DLaw11 30 rfl) (dk DLaw11 31 rfl) (dk DLaw11 32 rfl) (dk DLaw11 35 rfl) (dk DLaw11 36 rfl) (dk DLaw11 37 rfl) (dk DLaw11 38 rfl) (dk DLaw11 39 rfl) (dk DLaw11 40 rfl) (dk DLaw11 41 rfl) (dk DLaw11 42 rfl) (dk DLaw11 45 rfl) (by decide) (fun H locs ls hl hR => ?_)
  exact W.widen (by omega) (by omega) (kk H locs ls _ hl hR inv)
set_option maxRecDepth 20000 in
theorem K_20 {p : Program} {l : Launch} {e : Env} {G : GG} {d : Nat} {s : State} {mid : MethodId} {b : Nat} {below : List Frame} {meth : Method} {c : Code} {H : Heap} {locs : List Loc} {ls : Array Slot} {Q : State → Prop} {L : Nat} {xs : Nat → Int32} {i : Int32} {B cells slots : Nat} {mem : Mem} (hl0 : l.stackTraces = false) (C : Cx G p l room_1 d s mid #[.ref b] meth c code 8 RL) (hd : 299 ≤ d) (hN : NCS s) (hX : va_X b L xs s s.heap) (hbl : b < s.heap.size) (hbA : ¬ G.2.1 ≤ b) (hin : ∀ z : Int, 0 ≤ z → z ≤ 6 → vp_in (i + iI z) L) (hB : B ≤ 100000) (hI : Inv B mem) (hR : Rp G mr0 N0 mem s H locs) (hl : lv_has ls 8 (five G b i)) (hcs : cells + 1 ≤ 601024 ∧ slots + 6 ≤ 7293034) (kk : ∀ (H : Heap) (locs : List Loc) (ls : Array Slot) (mem : Mem), lv_has ls 8 (five G b i) → Rp G mr0 N0 mem s H locs → Inv (B + 101) mem → W p l e room_1 s mid #[.ref b] below meth c H locs (cells + 1) (slots + 6) Q (F0 mid 3285 ls [])) : W p l e room_1 s mid #[.ref b] below meth c H locs cells slots Q (F0 mid 1329 ls []) := by
  have hx := C.1.1
  have hb := C.1.2.1
  obtain ⟨law, n, mg, wd, tx, bc, t, iv⟩ := hI
  obtain ⟨rT, m1, e1, rM, m2, e2, hv, inv⟩ := well_op iv (by omega) 
  have inv : Inv (B + 101) m2 := inv.up (by omega)
  refine lv_aload_n hx hb (dk DLaw11 46 rfl) rfl (lv_at hl 1 rfl) ?_
  refine r_callVi (As := []) (rest := []) C hR (C_T_well l hl0 G  mem rT m1 e1) (by omega) (by decide) ob0 rfl wL_233 rfl rfl (Nat.le_of_ble_eq_true rfl) hl.1 ⟨show cells ≤ 601024 by omega, show slots ≤ 7293034 by omega⟩ (dk DLaw11 47 rfl) (fun H locs hR => ?_)
  refine lv_aload_n hx hb (dk DLaw11 48 rfl) rfl (lv_at hl 2 rfl) ?_
  refine r_callVi (As := []) (rest := [.int rT]) C hR (C_M_well l hl0 G  m1 rM m2 e2) (by omega) (by decide) ob78 rfl wL_236 rfl rfl (Nat.le_of_ble_eq_true rfl) hl.1 ⟨show cells ≤ 601024 by omega, show slots ≤ 7293034 by omega⟩ (dk DLaw11 49 rfl) (fun H locs hR => ?_)
  refine lv_icmp_eq (tgt := 3285) hx hb (dk DLaw11 50 rfl) (by decide) (fun _ => ?_) (fun h => absurd (by rw [hv]) h)
  exact W.widen (by omega) (by omega) (kk H locs ls _ hl hR inv)
set_option maxRecDepth 20000 in
theorem K_21 {p : Program} {l : Launch} {e : Env} {G : GG} {d : Nat} {s : State} {mid : MethodId} {b : Nat} {below : List Frame} {meth : Method} {c : Code} {H : Heap} {locs : List Loc} {ls : Array Slot} {Q : State → Prop} {L : Nat} {xs : Nat → Int32} {i : Int32} {B cells slots : Nat} {mem : Mem} (hl0 : l.stackTraces = false) (C : Cx G p l room_1 d s mid #[.ref b] meth c code 8 RL) (hd : 299 ≤ d) (hN : NCS s) (hX : va_X b L xs s s.heap) (hbl : b < s.heap.size) (hbA : ¬ G.2.1 ≤ b) (hin : ∀ z : Int, 0 ≤ z → z ≤ 6 → vp_in (i + iI z) L) (hB : B ≤ 100000) (hI : Inv B mem) (hR : Rp G mr0 N0 mem s H locs) (hl : lv_has ls 8 (five G b i)) (hcs : cells + 1 ≤ 601024 ∧ slots + 6 ≤ 7293034) (kk : ∀ (H : Heap) (locs : List Loc) (ls : Array Slot) (mem : Mem), lv_has ls 8 (five G b i) → Rp G mr0 N0 mem s H locs → Inv (B + 101) mem → W p l e room_1 s mid #[.ref b] below meth c H locs (cells + 1) (slots + 6) Q (F0 mid 3285 ls [])) : W p l e room_1 s mid #[.ref b] below meth c H locs cells slots Q (F0 mid 1342 ls []) := by
  have hx := C.1.1
  have hb := C.1.2.1
  obtain ⟨x1a, ex1a⟩ : ∃ z : Int32, z = xs (i + (1 : Int32)).toNatClampNeg := ⟨_, rfl⟩
  obtain ⟨x2a, ex2a⟩ : ∃ z : Int32, z = xs (i + (2 : Int32)).toNatClampNeg := ⟨_, rfl⟩
  obtain ⟨o4, z4, m3, v4, m4, hW, e2, hz, hv, inv, hc4, hs4⟩ := P_after l hl0 G hI hB x1a x2a
  refine lv_aload_n hx hb (dk DLaw11 53 rfl) rfl (lv_at hl 1 rfl) ?_
  refine r_arg (k := (1 : Int32)) C hX hbl hbA hR (lv_at hl 0 rfl) (lv_at hl 4 rfl) (hin 1 (by decide) (by decide)) ex1a.symm (dk DLaw11 54 rfl) (dk DLaw11 55 rfl) (dk DLaw11 56 rfl) (by decide) (dk DLaw11 57 rfl) (dk DLaw11 58 rfl) ?_
  refine r_arg (k := (2 : Int32)) C hX hbl hbA hR (lv_at hl 0 rfl) (lv_at hl 4 rfl) (hin 2 (by decide) (by decide)) ex2a.symm (dk DLaw11 59 rfl) (dk DLaw12 0 rfl) (dk DLaw12 1 rfl) (by decide) (dk DLaw12 2 rfl) (dk DLaw12 3 rfl) ?_
  refine lv_aload_n hx hb (dk DLaw12 4 rfl) rfl (lv_at hl 3 rfl) ?_
  refine r_callW (As := [.ref (G.2.1 + 0), .int x1a, .int x2a, .ref (G.2.1 + 91)]) (rest := []) C hN hR hW (by omega) (by decide) wS_237 rfl rfl (Nat.le_of_ble_eq_true rfl) hl.1 ⟨show cells + cxO o4 ≤ 601024 by omega, show slots + sxO o4 ≤ 7293034 by omega⟩ (dk DLaw12 5 rfl) (fun H locs hR => ?_)
  refine lv_istore (lv' := (5, .int z4) :: five G b i) hx hb (dk DLaw12 6 rfl) hl (by decide) rfl (fun ls hl => ?_)
  refine lv_aload_n hx hb (dk DLaw12 7 rfl) rfl (lv_at hl 3 rfl) ?_
  refine r_arg (k := (1 : Int32)) C hX hbl hbA hR (lv_at hl 1 rfl) (lv_at hl 5 rfl) (hin 1 (by decide) (by decide)) ex1a.symm (dk DLaw12 8 rfl) (dk DLaw12 9 rfl) (dk DLaw12 10 rfl) (by decide) (dk DLaw12 11 rfl) (dk DLaw12 12 rfl) ?_
  refine r_arg (k := (2 : Int32)) C hX hbl hbA hR (lv_at hl 1 rfl) (lv_at hl 5 rfl) (hin 2 (by decide) (by decide)) ex2a.symm (dk DLaw12 13 rfl) (dk DLaw12 14 rfl) (dk DLaw12 15 rfl) (by decide) (dk DLaw12 16 rfl) (dk DLaw12 17 rfl) ?_
  refine r_callVl (As := [.int x1a, .int x2a]) (rest := []) C hR (C_M_after_IIJ l hl0 G x1a x2a m3 v4 m4 e2) (by omega) (by decide) ob78 rfl wL_239 rfl rfl (Nat.le_of_ble_eq_true rfl) hl.1 ⟨show cells + cxO o4 ≤ 601024 by omega, show slots + sxO o4 ≤ 7293034 by omega⟩ (dk DLaw12 18 rfl) (fun H locs hR => ?_)
  refine T_long (b := b) (i := i) (tgt := 3285) hl0 C (by omega) hR hl hz hv ⟨show cells + cxO o4 ≤ 601024 by omega, show slots + sxO o4 ≤ 7293034 by omega⟩ wL_172 (dk DLaw12 19 rfl) (dk DLaw12 20 rfl) (dk DLaw12 21 rfl) (dk DLaw12 22 rfl) (dk DLaw12 23 rfl) (dk DLaw12 26 rfl) (dk DLaw12 27 rfl) (dk DLaw12 28 rfl) (dk DLaw12 29 rfl) (dk DLaw12 30 rfl) (dk DLaw12 31 rfl) (dk DLaw12 32 rfl) (dk DLaw12 33 rfl) (dk DLaw12 36 rfl) (by decide) (fun H locs ls hl hR => ?_)
  exact W.widen (by omega) (by omega) (kk H locs ls _ hl hR inv)
set_option maxRecDepth 20000 in
theorem K_22 {p : Program} {l : Launch} {e : Env} {G : GG} {d : Nat} {s : State} {mid : MethodId} {b : Nat} {below : List Frame} {meth : Method} {c : Code} {H : Heap} {locs : List Loc} {ls : Array Slot} {Q : State → Prop} {L : Nat} {xs : Nat → Int32} {i : Int32} {B cells slots : Nat} {mem : Mem} (hl0 : l.stackTraces = false) (C : Cx G p l room_1 d s mid #[.ref b] meth c code 8 RL) (hd : 299 ≤ d) (hN : NCS s) (hX : va_X b L xs s s.heap) (hbl : b < s.heap.size) (hbA : ¬ G.2.1 ≤ b) (hin : ∀ z : Int, 0 ≤ z → z ≤ 6 → vp_in (i + iI z) L) (hB : B ≤ 100000) (hI : Inv B mem) (hR : Rp G mr0 N0 mem s H locs) (hl : lv_has ls 8 (five G b i)) (hcs : cells + 1 ≤ 601024 ∧ slots + 6 ≤ 7293034) (kk : ∀ (H : Heap) (locs : List Loc) (ls : Array Slot) (mem : Mem), lv_has ls 8 (five G b i) → Rp G mr0 N0 mem s H locs → Inv (B + 101) mem → W p l e room_1 s mid #[.ref b] below meth c H locs (cells + 1) (slots + 6) Q (F0 mid 3285 ls [])) : W p l e room_1 s mid #[.ref b] below meth c H locs cells slots Q (F0 mid 1409 ls []) := by
  have hx := C.1.1
  have hb := C.1.2.1
  obtain ⟨x1a, ex1a⟩ : ∃ z : Int32, z = xs (i + (1 : Int32)).toNatClampNeg := ⟨_, rfl⟩
  obtain ⟨z1a, ez1a⟩ : ∃ z : Bool, z = decide (x1a ≠ 0) := ⟨_, rfl⟩
  obtain ⟨o4, z4, m3, v4, m4, hW, e2, hz, hv, inv, hc4, hs4⟩ := P_turning l hl0 G hI hB z1a
  refine lv_aload_n hx hb (dk DLaw12 37 rfl) rfl (lv_at hl 1 rfl) ?_
  refine r_arg (k := (1 : Int32)) C hX hbl hbA hR (lv_at hl 0 rfl) (lv_at hl 4 rfl) (hin 1 (by decide) (by decide)) ex1a.symm (dk DLaw12 38 rfl) (dk DLaw12 39 rfl) (dk DLaw12 40 rfl) (by decide) (dk DLaw12 41 rfl) (dk DLaw12 42 rfl) ?_
  refine r_bool C ez1a (dk DLaw12 43 rfl) (dk DLaw12 44 rfl) (dk DLaw12 45 rfl) (dk DLaw12 46 rfl) ?_
  refine lv_aload_n hx hb (dk DLaw12 47 rfl) rfl (lv_at hl 3 rfl) ?_
  refine r_callW (As := [.ref (G.2.1 + 0), .int (b2i z1a), .ref (G.2.1 + 91)]) (rest := []) C hN hR hW (by omega) (by decide) wS_240 rfl rfl (Nat.le_of_ble_eq_true rfl) hl.1 ⟨show cells + cxO o4 ≤ 601024 by omega, show slots + sxO o4 ≤ 7293034 by omega⟩ (dk DLaw12 48 rfl) (fun H locs hR => ?_)
  refine lv_istore (lv' := (5, .int z4) :: five G b i) hx hb (dk DLaw12 49 rfl) hl (by decide) rfl (fun ls hl => ?_)
  refine lv_aload_n hx hb (dk DLaw12 50 rfl) rfl (lv_at hl 3 rfl) ?_
  refine r_arg (k := (1 : Int32)) C hX hbl hbA hR (lv_at hl 1 rfl) (lv_at hl 5 rfl) (hin 1 (by decide) (by decide)) ex1a.symm (dk DLaw12 51 rfl) (dk DLaw12 52 rfl) (dk DLaw12 53 rfl) (by decide) (dk DLaw12 54 rfl) (dk DLaw12 55 rfl) ?_
  refine r_bool C ez1a (dk DLaw12 56 rfl) (dk DLaw12 57 rfl) (dk DLaw12 58 rfl) (dk DLaw12 59 rfl) ?_
  refine r_callVi (As := [.int (b2i z1a)]) (rest := []) C hR (C_M_turning l hl0 G z1a m3 v4 m4 e2) (by omega) (by decide) ob78 rfl wL_243 rfl rfl (Nat.le_of_ble_eq_true rfl) hl.1 ⟨show cells + cxO o4 ≤ 601024 by omega, show slots + sxO o4 ≤ 7293034 by omega⟩ (dk DLaw13 0 rfl) (fun H locs hR => ?_)
  refine T_int (b := b) (i := i) (tgt := 3285) hl0 C (by omega) hR hl hz hv ⟨show cells + cxO o4 ≤ 601024 by omega, show slots + sxO o4 ≤ 7293034 by omega⟩ wL_172 (dk DLaw13 1 rfl) (dk DLaw13 2 rfl) (dk DLaw13 3 rfl) (dk DLaw13 4 rfl) (dk DLaw13 5 rfl) (dk DLaw13 8 rfl) (dk DLaw13 9 rfl) (dk DLaw13 10 rfl) (dk DLaw13 11 rfl) (dk DLaw13 12 rfl) (dk DLaw13 13 rfl) (dk DLaw13 14 rfl) (dk DLaw13 15 rfl) (dk DLaw13 16 rfl) (dk DLaw13 19 rfl) (by decide) (fun H locs ls hl hR => ?_)
  exact W.widen (by omega) (by omega) (kk H locs ls _ hl hR inv)
set_option maxRecDepth 20000 in
theorem K_23 {p : Program} {l : Launch} {e : Env} {G : GG} {d : Nat} {s : State} {mid : MethodId} {b : Nat} {below : List Frame} {meth : Method} {c : Code} {H : Heap} {locs : List Loc} {ls : Array Slot} {Q : State → Prop} {L : Nat} {xs : Nat → Int32} {i : Int32} {B cells slots : Nat} {mem : Mem} (hl0 : l.stackTraces = false) (C : Cx G p l room_1 d s mid #[.ref b] meth c code 8 RL) (hd : 299 ≤ d) (hN : NCS s) (hX : va_X b L xs s s.heap) (hbl : b < s.heap.size) (hbA : ¬ G.2.1 ≤ b) (hin : ∀ z : Int, 0 ≤ z → z ≤ 6 → vp_in (i + iI z) L) (hB : B ≤ 100000) (hI : Inv B mem) (hR : Rp G mr0 N0 mem s H locs) (hl : lv_has ls 8 (five G b i)) (hcs : cells + 1 ≤ 601024 ∧ slots + 6 ≤ 7293034) (kk : ∀ (H : Heap) (locs : List Loc) (ls : Array Slot) (mem : Mem), lv_has ls 8 (five G b i) → Rp G mr0 N0 mem s H locs → Inv (B + 101) mem → W p l e room_1 s mid #[.ref b] below meth c H locs (cells + 1) (slots + 6) Q (F0 mid 3285 ls [])) : W p l e room_1 s mid #[.ref b] below meth c H locs cells slots Q (F0 mid 1481 ls []) := by
  have hx := C.1.1
  have hb := C.1.2.1
  obtain ⟨x1a, ex1a⟩ : ∃ z : Int32, z = xs (i + (1 : Int32)).toNatClampNeg := ⟨_, rfl⟩
  obtain ⟨x2a, ex2a⟩ : ∃ z : Int32, z = xs (i + (2 : Int32)).toNatClampNeg := ⟨_, rfl⟩
  obtain ⟨x3a, ex3a⟩ : ∃ z : Int32, z = xs (i + (3 : Int32)).toNatClampNeg := ⟨_, rfl⟩
  obtain ⟨z3a, ez3a⟩ : ∃ z : Bool, z = decide (x3a ≠ 0) := ⟨_, rfl⟩
  obtain ⟨x4a, ex4a⟩ : ∃ z : Int32, z = xs (i + (4 : Int32)).toNatClampNeg := ⟨_, rfl⟩
  obtain ⟨x5a, ex5a⟩ : ∃ z : Int32, z = xs (i + (5 : Int32)).toNatClampNeg := ⟨_, rfl⟩
  obtain ⟨x6a, ex6a⟩ : ∃ z : Int32, z = xs (i + (6 : Int32)).toNatClampNeg := ⟨_, rfl⟩
  obtain ⟨o4, z4, m3, v4, m4, hW, e2, hz, hv, inv, hc4, hs4⟩ := P_wins l hl0 G hI hB x1a x2a z3a x4a x5a x6a
  refine lv_aload_n hx hb (dk DLaw13 20 rfl) rfl (lv_at hl 1 rfl) ?_
  refine r_arg (k := (1 : Int32)) C hX hbl hbA hR (lv_at hl 0 rfl) (lv_at hl 4 rfl) (hin 1 (by decide) (by decide)) ex1a.symm (dk DLaw13 21 rfl) (dk DLaw13 22 rfl) (dk DLaw13 23 rfl) (by decide) (dk DLaw13 24 rfl) (dk DLaw13 25 rfl) ?_
  refine r_arg (k := (2 : Int32)) C hX hbl hbA hR (lv_at hl 0 rfl) (lv_at hl 4 rfl) (hin 2 (by decide) (by decide)) ex2a.symm (dk DLaw13 26 rfl) (dk DLaw13 27 rfl) (dk DLaw13 28 rfl) (by decide) (dk DLaw13 29 rfl) (dk DLaw13 30 rfl) ?_
  refine r_arg (k := (3 : Int32)) C hX hbl hbA hR (lv_at hl 0 rfl) (lv_at hl 4 rfl) (hin 3 (by decide) (by decide)) ex3a.symm (dk DLaw13 31 rfl) (dk DLaw13 32 rfl) (dk DLaw13 33 rfl) (by decide) (dk DLaw13 34 rfl) (dk DLaw13 35 rfl) ?_
  refine r_bool C ez3a (dk DLaw13 36 rfl) (dk DLaw13 37 rfl) (dk DLaw13 38 rfl) (dk DLaw13 39 rfl) ?_
  refine r_arg (k := (4 : Int32)) C hX hbl hbA hR (lv_at hl 0 rfl) (lv_at hl 4 rfl) (hin 4 (by decide) (by decide)) ex4a.symm (dk DLaw13 40 rfl) (dk DLaw13 41 rfl) (dk DLaw13 42 rfl) (by decide) (dk DLaw13 43 rfl) (dk DLaw13 44 rfl) ?_
  refine r_arg (k := (5 : Int32)) C hX hbl hbA hR (lv_at hl 0 rfl) (lv_at hl 4 rfl) (hin 5 (by decide) (by decide)) ex5a.symm (dk DLaw13 45 rfl) (dk DLaw13 46 rfl) (dk DLaw13 47 rfl) (by decide) (dk DLaw13 48 rfl) (dk DLaw13 49 rfl) ?_
  refine r_argB (k := (6 : Int32)) C hX hbl hbA hR (lv_at hl 0 rfl) (lv_at hl 4 rfl) (hin 6 (by decide) (by decide)) ex6a.symm (dk DLaw13 50 rfl) (dk DLaw13 51 rfl) (dk DLaw13 52 rfl) (by decide) (dk DLaw13 53 rfl) (dk DLaw13 54 rfl) ?_
  refine lv_aload_n hx hb (dk DLaw13 55 rfl) rfl (lv_at hl 3 rfl) ?_
  refine r_callW (As := [.ref (G.2.1 + 0), .int x1a, .int x2a, .int (b2i z3a), .int x4a, .int x5a, .int x6a, .ref (G.2.1 + 91)]) (rest := []) C hN hR hW (by omega) (by decide) wS_244 rfl rfl (Nat.le_of_ble_eq_true rfl) hl.1 ⟨show cells + cxO o4 ≤ 601024 by omega, show slots + sxO o4 ≤ 7293034 by omega⟩ (dk DLaw13 56 rfl) (fun H locs hR => ?_)
  refine lv_istore (lv' := (5, .int z4) :: five G b i) hx hb (dk DLaw13 57 rfl) hl (by decide) rfl (fun ls hl => ?_)
  refine lv_aload_n hx hb (dk DLaw13 58 rfl) rfl (lv_at hl 3 rfl) ?_
  refine r_arg (k := (1 : Int32)) C hX hbl hbA hR (lv_at hl 1 rfl) (lv_at hl 5 rfl) (hin 1 (by decide) (by decide)) ex1a.symm (dk DLaw13 59 rfl) (dk DLaw14 0 rfl) (dk DLaw14 1 rfl) (by decide) (dk DLaw14 2 rfl) (dk DLaw14 3 rfl) ?_
  refine r_arg (k := (2 : Int32)) C hX hbl hbA hR (lv_at hl 1 rfl) (lv_at hl 5 rfl) (hin 2 (by decide) (by decide)) ex2a.symm (dk DLaw14 4 rfl) (dk DLaw14 5 rfl) (dk DLaw14 6 rfl) (by decide) (dk DLaw14 7 rfl) (dk DLaw14 8 rfl) ?_
  refine r_arg (k := (3 : Int32)) C hX hbl hbA hR (lv_at hl 1 rfl) (lv_at hl 5 rfl) (hin 3 (by decide) (by decide)) ex3a.symm (dk DLaw14 9 rfl) (dk DLaw14 10 rfl) (dk DLaw14 11 rfl) (by decide) (dk DLaw14 12 rfl) (dk DLaw14 13 rfl) ?_
  refine r_bool C ez3a (dk DLaw14 14 rfl) (dk DLaw14 15 rfl) (dk DLaw14 16 rfl) (dk DLaw14 17 rfl) ?_
  refine r_arg (k := (4 : Int32)) C hX hbl hbA hR (lv_at hl 1 rfl) (lv_at hl 5 rfl) (hin 4 (by decide) (by decide)) ex4a.symm (dk DLaw14 18 rfl) (dk DLaw14 19 rfl) (dk DLaw14 20 rfl) (by decide) (dk DLaw14 21 rfl) (dk DLaw14 22 rfl) ?_
  refine r_arg (k := (5 : Int32)) C hX hbl hbA hR (lv_at hl 1 rfl) (lv_at hl 5 rfl) (hin 5 (by decide) (by decide)) ex5a.symm (dk DLaw14 23 rfl) (dk DLaw14 24 rfl) (dk DLaw14 25 rfl) (by decide) (dk DLaw14 26 rfl) (dk DLaw14 27 rfl) ?_
  refine r_argB (k := (6 : Int32)) C hX hbl hbA hR (lv_at hl 1 rfl) (lv_at hl 5 rfl) (hin 6 (by decide) (by decide)) ex6a.symm (dk DLaw14 28 rfl) (dk DLaw14 29 rfl) (dk DLaw14 30 rfl) (by decide) (dk DLaw14 31 rfl) (dk DLaw14 32 rfl) ?_
  refine r_callVl (As := [.int x1a, .int x2a, .int (b2i z3a), .int x4a, .int x5a, .int x6a]) (rest := []) C hR (C_M_wins l hl0 G x1a x2a z3a x4a x5a x6a m3 v4 m4 e2) (by omega) (by decide) ob78 rfl wL_247 rfl rfl (Nat.le_of_ble_eq_true rfl) hl.1 ⟨show cells + cxO o4 ≤ 601024 by omega, show slots + sxO o4 ≤ 7293034 by omega⟩ (dk DLaw14 33 rfl) (fun H locs hR => ?_)
  refine T_long (b := b) (i := i) (tgt := 3285) hl0 C (by omega) hR hl hz hv ⟨show cells + cxO o4 ≤ 601024 by omega, show slots + sxO o4 ≤ 7293034 by omega⟩ wL_172 (dk DLaw14 34 rfl) (dk DLaw14 35 rfl) (dk DLaw14 36 rfl) (dk DLaw14 37 rfl) (dk DLaw14 38 rfl) (dk DLaw14 41 rfl) (dk DLaw14 42 rfl) (dk DLaw14 43 rfl) (dk DLaw14 44 rfl) (dk DLaw14 45 rfl) (dk DLaw14 46 rfl) (dk DLaw14 47 rfl) (dk DLaw14 48 rfl) (dk DLaw14 51 rfl) (by decide) (fun H locs ls hl hR => ?_)
  exact W.widen (by omega) (by omega) (kk H locs ls _ hl hR inv)
set_option maxRecDepth 20000 in
theorem K_24 {p : Program} {l : Launch} {e : Env} {G : GG} {d : Nat} {s : State} {mid : MethodId} {b : Nat} {below : List Frame} {meth : Method} {c : Code} {H : Heap} {locs : List Loc} {ls : Array Slot} {Q : State → Prop} {L : Nat} {xs : Nat → Int32} {i : Int32} {B cells slots : Nat} {mem : Mem} (hl0 : l.stackTraces = false) (C : Cx G p l room_1 d s mid #[.ref b] meth c code 8 RL) (hd : 299 ≤ d) (hN : NCS s) (hX : va_X b L xs s s.heap) (hbl : b < s.heap.size) (hbA : ¬ G.2.1 ≤ b) (hin : ∀ z : Int, 0 ≤ z → z ≤ 6 → vp_in (i + iI z) L) (hB : B ≤ 100000) (hI : Inv B mem) (hR : Rp G mr0 N0 mem s H locs) (hl : lv_has ls 8 (five G b i)) (hcs : cells + 1 ≤ 601024 ∧ slots + 6 ≤ 7293034) (kk : ∀ (H : Heap) (locs : List Loc) (ls : Array Slot) (mem : Mem), lv_has ls 8 (five G b i) → Rp G mr0 N0 mem s H locs → Inv (B + 101) mem → W p l e room_1 s mid #[.ref b] below meth c H locs (cells + 1) (slots + 6) Q (F0 mid 3285 ls [])) : W p l e room_1 s mid #[.ref b] below meth c H locs cells slots Q (F0 mid 1614 ls []) := by
  have hx := C.1.1
  have hb := C.1.2.1
  obtain ⟨x1a, ex1a⟩ : ∃ z : Int32, z = xs (i + (1 : Int32)).toNatClampNeg := ⟨_, rfl⟩
  obtain ⟨x2a, ex2a⟩ : ∃ z : Int32, z = xs (i + (2 : Int32)).toNatClampNeg := ⟨_, rfl⟩
  obtain ⟨x3a, ex3a⟩ : ∃ z : Int32, z = xs (i + (3 : Int32)).toNatClampNeg := ⟨_, rfl⟩
  obtain ⟨z3a, ez3a⟩ : ∃ z : Bool, z = decide (x3a ≠ 0) := ⟨_, rfl⟩
  obtain ⟨x4a, ex4a⟩ : ∃ z : Int32, z = xs (i + (4 : Int32)).toNatClampNeg := ⟨_, rfl⟩
  obtain ⟨x5a, ex5a⟩ : ∃ z : Int32, z = xs (i + (5 : Int32)).toNatClampNeg := ⟨_, rfl⟩
  obtain ⟨o4, z4, m3, v4, m4, hW, e2, hz, hv, inv, hc4, hs4⟩ := P_declares l hl0 G hI hB x1a x2a z3a x4a x5a
  refine lv_aload_n hx hb (dk DLaw14 52 rfl) rfl (lv_at hl 1 rfl) ?_
  refine r_arg (k := (1 : Int32)) C hX hbl hbA hR (lv_at hl 0 rfl) (lv_at hl 4 rfl) (hin 1 (by decide) (by decide)) ex1a.symm (dk DLaw14 53 rfl) (dk DLaw14 54 rfl) (dk DLaw14 55 rfl) (by decide) (dk DLaw14 56 rfl) (dk DLaw14 57 rfl) ?_
  refine r_arg (k := (2 : Int32)) C hX hbl hbA hR (lv_at hl 0 rfl) (lv_at hl 4 rfl) (hin 2 (by decide) (by decide)) ex2a.symm (dk DLaw14 58 rfl) (dk DLaw14 59 rfl) (dk DLaw15 0 rfl) (by decide) (dk DLaw15 1 rfl) (dk DLaw15 2 rfl) ?_
  refine r_arg (k := (3 : Int32)) C hX hbl hbA hR (lv_at hl 0 rfl) (lv_at hl 4 rfl) (hin 3 (by decide) (by decide)) ex3a.symm (dk DLaw15 3 rfl) (dk DLaw15 4 rfl) (dk DLaw15 5 rfl) (by decide) (dk DLaw15 6 rfl) (dk DLaw15 7 rfl) ?_
  refine r_bool C ez3a (dk DLaw15 8 rfl) (dk DLaw15 9 rfl) (dk DLaw15 10 rfl) (dk DLaw15 11 rfl) ?_
  refine r_arg (k := (4 : Int32)) C hX hbl hbA hR (lv_at hl 0 rfl) (lv_at hl 4 rfl) (hin 4 (by decide) (by decide)) ex4a.symm (dk DLaw15 12 rfl) (dk DLaw15 13 rfl) (dk DLaw15 14 rfl) (by decide) (dk DLaw15 15 rfl) (dk DLaw15 16 rfl) ?_
  refine r_arg (k := (5 : Int32)) C hX hbl hbA hR (lv_at hl 0 rfl) (lv_at hl 4 rfl) (hin 5 (by decide) (by decide)) ex5a.symm (dk DLaw15 17 rfl) (dk DLaw15 18 rfl) (dk DLaw15 19 rfl) (by decide) (dk DLaw15 20 rfl) (dk DLaw15 21 rfl) ?_
  refine lv_aload_n hx hb (dk DLaw15 22 rfl) rfl (lv_at hl 3 rfl) ?_
  refine r_callW (As := [.ref (G.2.1 + 0), .int x1a, .int x2a, .int (b2i z3a), .int x4a, .int x5a, .ref (G.2.1 + 91)]) (rest := []) C hN hR hW (by omega) (by decide) wS_248 rfl rfl (Nat.le_of_ble_eq_true rfl) hl.1 ⟨show cells + cxO o4 ≤ 601024 by omega, show slots + sxO o4 ≤ 7293034 by omega⟩ (dk DLaw15 23 rfl) (fun H locs hR => ?_)
  refine lv_istore (lv' := (5, .int z4) :: five G b i) hx hb (dk DLaw15 24 rfl) hl (by decide) rfl (fun ls hl => ?_)
  refine lv_aload_n hx hb (dk DLaw15 25 rfl) rfl (lv_at hl 3 rfl) ?_
  refine r_arg (k := (1 : Int32)) C hX hbl hbA hR (lv_at hl 1 rfl) (lv_at hl 5 rfl) (hin 1 (by decide) (by decide)) ex1a.symm (dk DLaw15 26 rfl) (dk DLaw15 27 rfl) (dk DLaw15 28 rfl) (by decide) (dk DLaw15 29 rfl) (dk DLaw15 30 rfl) ?_
  refine r_arg (k := (2 : Int32)) C hX hbl hbA hR (lv_at hl 1 rfl) (lv_at hl 5 rfl) (hin 2 (by decide) (by decide)) ex2a.symm (dk DLaw15 31 rfl) (dk DLaw15 32 rfl) (dk DLaw15 33 rfl) (by decide) (dk DLaw15 34 rfl) (dk DLaw15 35 rfl) ?_
  refine r_arg (k := (3 : Int32)) C hX hbl hbA hR (lv_at hl 1 rfl) (lv_at hl 5 rfl) (hin 3 (by decide) (by decide)) ex3a.symm (dk DLaw15 36 rfl) (dk DLaw15 37 rfl) (dk DLaw15 38 rfl) (by decide) (dk DLaw15 39 rfl) (dk DLaw15 40 rfl) ?_
  refine r_bool C ez3a (dk DLaw15 41 rfl) (dk DLaw15 42 rfl) (dk DLaw15 43 rfl) (dk DLaw15 44 rfl) ?_
  refine r_arg (k := (4 : Int32)) C hX hbl hbA hR (lv_at hl 1 rfl) (lv_at hl 5 rfl) (hin 4 (by decide) (by decide)) ex4a.symm (dk DLaw15 45 rfl) (dk DLaw15 46 rfl) (dk DLaw15 47 rfl) (by decide) (dk DLaw15 48 rfl) (dk DLaw15 49 rfl) ?_
  refine r_arg (k := (5 : Int32)) C hX hbl hbA hR (lv_at hl 1 rfl) (lv_at hl 5 rfl) (hin 5 (by decide) (by decide)) ex5a.symm (dk DLaw15 50 rfl) (dk DLaw15 51 rfl) (dk DLaw15 52 rfl) (by decide) (dk DLaw15 53 rfl) (dk DLaw15 54 rfl) ?_
  refine r_callVi (As := [.int x1a, .int x2a, .int (b2i z3a), .int x4a, .int x5a]) (rest := []) C hR (C_M_declares l hl0 G x1a x2a z3a x4a x5a m3 v4 m4 e2) (by omega) (by decide) ob78 rfl wL_251 rfl rfl (Nat.le_of_ble_eq_true rfl) hl.1 ⟨show cells + cxO o4 ≤ 601024 by omega, show slots + sxO o4 ≤ 7293034 by omega⟩ (dk DLaw15 55 rfl) (fun H locs hR => ?_)
  refine T_bool (b := b) (i := i) (tgt := 3285) hl0 C (by omega) hR hl hz hv ⟨show cells + cxO o4 ≤ 601024 by omega, show slots + sxO o4 ≤ 7293034 by omega⟩ wL_172 (dk DLaw15 56 rfl) (dk DLaw15 57 rfl) (dk DLaw15 58 rfl) (dk DLaw15 59 rfl) (dk DLaw16 0 rfl) (dk DLaw16 3 rfl) (dk DLaw16 4 rfl) (dk DLaw16 5 rfl) (dk DLaw16 6 rfl) (dk DLaw16 7 rfl) (dk DLaw16 8 rfl) (dk DLaw16 9 rfl) (dk DLaw16 10 rfl) (dk DLaw16 11 rfl) (dk DLaw16 12 rfl) (dk DLaw16 13 rfl) (dk DLaw16 14 rfl) (dk DLaw16 17 rfl) (by decide) (fun H locs ls hl hR => ?_)
  exact W.widen (by omega) (by omega) (kk H locs ls _ hl hR inv)
