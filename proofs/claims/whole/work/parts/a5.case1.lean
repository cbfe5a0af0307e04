set_option maxRecDepth 20000 in
theorem K_25 {p : Program} {l : Launch} {e : Env} {G : GG} {d : Nat} {s : State} {mid : MethodId} {b : Nat} {below : List Frame} {meth : Method} {c : Code} {H : Heap} {locs : List Loc} {ls : Array Slot} {Q : State → Prop} {L : Nat} {xs : Nat → Int32} {i : Int32} {B cells slots : Nat} {mem : Mem} (hl0 : l.stackTraces = false) (C : Cx G p l room_1 d s mid #[.ref b] meth c code 8 RL) (hd : 299 ≤ d) (hN : NCS s) (hX : va_X b L xs s s.heap) (hbl : b < s.heap.size) (hbA : ¬ G.2.1 ≤ b) (hin : ∀ z : Int, 0 ≤ z → z ≤ 6 → vp_in (i + iI z) L) (hB : B ≤ 100000) (hI : Inv B mem) (hR : Rp G mr0 N0 mem s H locs) (hl : lv_has ls 8 (five G b i)) (hcs : cells + 1 ≤ 601024 ∧ slots + 6 ≤ 7293034) (kk : ∀ (H : Heap) (locs : List Loc) (ls : Array Slot) (mem : Mem), lv_has ls 8 (five G b i) → Rp G mr0 N0 mem s H locs → Inv (B + 101) mem → W p l e room_1 s mid #[.ref b] below meth c H locs (cells + 1) (slots + 6) Q (F0 mid 3285 ls [])) : W p l e room_1 s mid #[.ref b] below meth c H locs cells slots Q (F0 mid 1741 ls []) := by
  have hx := C.1.1
  have hb := C.1.2.1
  obtain ⟨x1a, ex1a⟩ : ∃ z : Int32, z = xs (i + (1 : Int32)).toNatClampNeg := ⟨_, rfl⟩
  obtain ⟨x2a, ex2a⟩ : ∃ z : Int32, z = xs (i + (2 : Int32)).toNatClampNeg := ⟨_, rfl⟩
  obtain ⟨o4, z4, m3, v4, m4, hW, e2, hz, hv, inv, hc4, hs4⟩ := P_when l hl0 G hI hB x1a x2a
  refine lv_aload_n hx hb (dk DLaw16 18 rfl) rfl (lv_at hl 1 rfl) ?_
  refine r_arg (k := (1 : Int32)) C hX hbl hbA hR (lv_at hl 0 rfl) (lv_at hl 4 rfl) (hin 1 (by decide) (by decide)) ex1a.symm (dk DLaw16 19 rfl) (dk DLaw16 20 rfl) (dk DLaw16 21 rfl) (by decide) (dk DLaw16 22 rfl) (dk DLaw16 23 rfl) ?_
  refine r_arg (k := (2 : Int32)) C hX hbl hbA hR (lv_at hl 0 rfl) (lv_at hl 4 rfl) (hin 2 (by decide) (by decide)) ex2a.symm (dk DLaw16 24 rfl) (dk DLaw16 25 rfl) (dk DLaw16 26 rfl) (by decide) (dk DLaw16 27 rfl) (dk DLaw16 28 rfl) ?_
  refine lv_aload_n hx hb (dk DLaw16 29 rfl) rfl (lv_at hl 3 rfl) ?_
  refine r_callW (As := [.ref (G.2.1 + 0), .int x1a, .int x2a, .ref (G.2.1 + 91)]) (rest := []) C hN hR hW (by omega) (by decide) wS_252 rfl rfl (Nat.le_of_ble_eq_true rfl) hl.1 ⟨show cells + cxO o4 ≤ 601024 by omega, show slots + sxO o4 ≤ 7293034 by omega⟩ (dk DLaw16 30 rfl) (fun H locs hR => ?_)
  refine lv_istore (lv' := (5, .int z4) :: five G b i) hx hb (dk DLaw16 31 rfl) hl (by decide) rfl (fun ls hl => ?_)
  refine lv_aload_n hx hb (dk DLaw16 32 rfl) rfl (lv_at hl 3 rfl) ?_
  refine r_arg (k := (1 : Int32)) C hX hbl hbA hR (lv_at hl 1 rfl) (lv_at hl 5 rfl) (hin 1 (by decide) (by decide)) ex1a.symm (dk DLaw16 33 rfl) (dk DLaw16 34 rfl) (dk DLaw16 35 rfl) (by decide) (dk DLaw16 36 rfl) (dk DLaw16 37 rfl) ?_
  refine r_arg (k := (2 : Int32)) C hX hbl hbA hR (lv_at hl 1 rfl) (lv_at hl 5 rfl) (hin 2 (by decide) (by decide)) ex2a.symm (dk DLaw16 38 rfl) (dk DLaw16 39 rfl) (dk DLaw16 40 rfl) (by decide) (dk DLaw16 41 rfl) (dk DLaw16 42 rfl) ?_
  refine r_callVi (As := [.int x1a, .int x2a]) (rest := []) C hR (C_M_when l hl0 G x1a x2a m3 v4 m4 e2) (by omega) (by decide) ob78 rfl wL_254 rfl rfl (Nat.le_of_ble_eq_true rfl) hl.1 ⟨show cells + cxO o4 ≤ 601024 by omega, show slots + sxO o4 ≤ 7293034 by omega⟩ (dk DLaw16 43 rfl) (fun H locs hR => ?_)
  refine T_int (b := b) (i := i) (tgt := 3285) hl0 C (by omega) hR hl hz hv ⟨show cells + cxO o4 ≤ 601024 by omega, show slots + sxO o4 ≤ 7293034 by omega⟩ wL_172 (dk DLaw16 44 rfl) (dk DLaw16 45 rfl) (dk DLaw16 46 rfl) (dk DLaw16 47 rfl) (dk DLaw16 48 rfl) (dk DLaw16 51 rfl) (dk DLaw16 52 rfl) (dk DLaw16 53 rfl) (dk DLaw16 54 rfl) (dk DLaw16 55 rfl) (dk DLaw16 56 rfl) (dk DLaw16 57 rfl) (dk DLaw16 58 rfl) (dk DLaw16 59 rfl) (dk DLaw17 2 rfl) (by decide) (fun H locs ls hl hR => ?_)
  exact W.widen (by omega) (by omega) (kk H locs ls _ hl hR inv)
set_option maxRecDepth 20000 in
theorem K_26 {p : Program} {l : Launch} {e : Env} {G : GG} {d : Nat} {s : State} {mid : MethodId} {b : Nat} {below : List Frame} {meth : Method} {c : Code} {H : Heap} {locs : List Loc} {ls : Array Slot} {Q : State → Prop} {L : Nat} {xs : Nat → Int32} {i : Int32} {B cells slots : Nat} {mem : Mem} (hl0 : l.stackTraces = false) (C : Cx G p l room_1 d s mid #[.ref b] meth c code 8 RL) (hd : 299 ≤ d) (hN : NCS s) (hX : va_X b L xs s s.heap) (hbl : b < s.heap.size) (hbA : ¬ G.2.1 ≤ b) (hin : ∀ z : Int, 0 ≤ z → z ≤ 6 → vp_in (i + iI z) L) (hB : B ≤ 100000) (hI : Inv B mem) (hR : Rp G mr0 N0 mem s H locs) (hl : lv_has ls 8 (five G b i)) (hcs : cells + 1 ≤ 601024 ∧ slots + 6 ≤ 7293034) (kk : ∀ (H : Heap) (locs : List Loc) (ls : Array Slot) (mem : Mem), lv_has ls 8 (five G b i) → Rp G mr0 N0 mem s H locs → Inv (B + 101) mem → W p l e room_1 s mid #[.ref b] below meth c H locs (cells + 1) (slots + 6) Q (F0 mid 3285 ls [])) : W p l e room_1 s mid #[.ref b] below meth c H locs cells slots Q (F0 mid 1809 ls []) := by
  have hx := C.1.1
  have hb := C.1.2.1
  obtain ⟨x1a, ex1a⟩ : ∃ z : Int32, z = xs (i + (1 : Int32)).toNatClampNeg := ⟨_, rfl⟩
  obtain ⟨x2a, ex2a⟩ : ∃ z : Int32, z = xs (i + (2 : Int32)).toNatClampNeg := ⟨_, rfl⟩
  obtain ⟨o4, z4, m3, v4, m4, hW, e2, hz, hv, inv, hc4, hs4⟩ := P_enforces l hl0 G hI hB x1a x2a
  refine lv_aload_n hx hb (dk DLaw17 3 rfl) rfl (lv_at hl 1 rfl) ?_
  refine r_arg (k := (1 : Int32)) C hX hbl hbA hR (lv_at hl 0 rfl) (lv_at hl 4 rfl) (hin 1 (by decide) (by decide)) ex1a.symm (dk DLaw17 4 rfl) (dk DLaw17 5 rfl) (dk DLaw17 6 rfl) (by decide) (dk DLaw17 7 rfl) (dk DLaw17 8 rfl) ?_
  refine r_arg (k := (2 : Int32)) C hX hbl hbA hR (lv_at hl 0 rfl) (lv_at hl 4 rfl) (hin 2 (by decide) (by decide)) ex2a.symm (dk DLaw17 9 rfl) (dk DLaw17 10 rfl) (dk DLaw17 11 rfl) (by decide) (dk DLaw17 12 rfl) (dk DLaw17 13 rfl) ?_
  refine lv_aload_n hx hb (dk DLaw17 14 rfl) rfl (lv_at hl 3 rfl) ?_
  refine r_callW (As := [.ref (G.2.1 + 0), .int x1a, .int x2a, .ref (G.2.1 + 91)]) (rest := []) C hN hR hW (by omega) (by decide) wS_255 rfl rfl (Nat.le_of_ble_eq_true rfl) hl.1 ⟨show cells + cxO o4 ≤ 601024 by omega, show slots + sxO o4 ≤ 7293034 by omega⟩ (dk DLaw17 15 rfl) (fun H locs hR => ?_)
  refine lv_istore (lv' := (5, .int z4) :: five G b i) hx hb (dk DLaw17 16 rfl) hl (by decide) rfl (fun ls hl => ?_)
  refine lv_aload_n hx hb (dk DLaw17 17 rfl) rfl (lv_at hl 3 rfl) ?_
  refine r_arg (k := (1 : Int32)) C hX hbl hbA hR (lv_at hl 1 rfl) (lv_at hl 5 rfl) (hin 1 (by decide) (by decide)) ex1a.symm (dk DLaw17 18 rfl) (dk DLaw17 19 rfl) (dk DLaw17 20 rfl) (by decide) (dk DLaw17 21 rfl) (dk DLaw17 22 rfl) ?_
  refine r_arg (k := (2 : Int32)) C hX hbl hbA hR (lv_at hl 1 rfl) (lv_at hl 5 rfl) (hin 2 (by decide) (by decide)) ex2a.symm (dk DLaw17 23 rfl) (dk DLaw17 24 rfl) (dk DLaw17 25 rfl) (by decide) (dk DLaw17 26 rfl) (dk DLaw17 27 rfl) ?_
  refine r_callVi (As := [.int x1a, .int x2a]) (rest := []) C hR (C_M_enforces l hl0 G x1a x2a m3 v4 m4 e2) (by omega) (by decide) ob78 rfl wL_257 rfl rfl (Nat.le_of_ble_eq_true rfl) hl.1 ⟨show cells + cxO o4 ≤ 601024 by omega, show slots + sxO o4 ≤ 7293034 by omega⟩ (dk DLaw17 28 rfl) (fun H locs hR => ?_)
  refine T_bool (b := b) (i := i) (tgt := 3285) hl0 C (by omega) hR hl hz hv ⟨show cells + cxO o4 ≤ 601024 by omega, show slots + sxO o4 ≤ 7293034 by omega⟩ wL_172 (dk DLaw17 29 rfl) (dk DLaw17 30 rfl) (dk DLaw17 31 rfl) (dk DLaw17 32 rfl) (dk DLaw17 33 rfl) (dk DLaw17 36 rfl) (dk DLaw17 37 rfl) (dk DLaw17 38 rfl) (dk DLaw17 39 rfl) (dk DLaw17 40 rfl) (dk DLaw17 41 rfl) (dk DLaw17 42 rfl) (dk DLaw17 43 rfl) (dk DLaw17 44 rfl) (dk DLaw17 45 rfl) (dk DLaw17 46 rfl) (dk DLaw17 47 rfl) (dk DLaw17 50 rfl) (by decide) (fun H locs ls hl hR => ?_)
  exact W.widen (by omega) (by omega) (kk H locs ls _ hl hR inv)
set_option maxRecDepth 20000 in
theorem K_27 {p : Program} {l : Launch} {e : Env} {G : GG} {d : Nat} {s : State} {mid : MethodId} {b : Nat} {below : List Frame} {meth : Method} {c : Code} {H : Heap} {locs : List Loc} {ls : Array Slot} {Q : State → Prop} {L : Nat} {xs : Nat → Int32} {i : Int32} {B cells slots : Nat} {mem : Mem} (hl0 : l.stackTraces = false) (C : Cx G p l room_1 d s mid #[.ref b] meth c code 8 RL) (hd : 299 ≤ d) (hN : NCS s) (hX : va_X b L xs s s.heap) (hbl : b < s.heap.size) (hbA : ¬ G.2.1 ≤ b) (hin : ∀ z : Int, 0 ≤ z → z ≤ 6 → vp_in (i + iI z) L) (hB : B ≤ 100000) (hI : Inv B mem) (hR : Rp G mr0 N0 mem s H locs) (hl : lv_has ls 8 (five G b i)) (hcs : cells + 1 ≤ 601024 ∧ slots + 6 ≤ 7293034) (kk : ∀ (H : Heap) (locs : List Loc) (ls : Array Slot) (mem : Mem), lv_has ls 8 (five G b i) → Rp G mr0 N0 mem s H locs → Inv (B + 101) mem → W p l e room_1 s mid #[.ref b] below meth c H locs (cells + 1) (slots + 6) Q (F0 mid 3285 ls [])) : W p l e room_1 s mid #[.ref b] below meth c H locs cells slots Q (F0 mid 1884 ls []) := by
  have hx := C.1.1
  have hb := C.1.2.1
  obtain ⟨x1a, ex1a⟩ : ∃ z : Int32, z = xs (i + (1 : Int32)).toNatClampNeg := ⟨_, rfl⟩
  obtain ⟨o4, z4, m3, v4, m4, hW, e2, hz, hv, inv, hc4, hs4⟩ := P_chased l hl0 G hI hB x1a
  refine lv_aload_n hx hb (dk DLaw17 51 rfl) rfl (lv_at hl 1 rfl) ?_
  refine r_arg (k := (1 : Int32)) C hX hbl hbA hR (lv_at hl 0 rfl) (lv_at hl 4 rfl) (hin 1 (by decide) (by decide)) ex1a.symm (dk DLaw17 52 rfl) (dk DLaw17 53 rfl) (dk DLaw17 54 rfl) (by decide) (dk DLaw17 55 rfl) (dk DLaw17 56 rfl) ?_
  refine lv_aload_n hx hb (dk DLaw17 57 rfl) rfl (lv_at hl 3 rfl) ?_
  refine r_callW (As := [.ref (G.2.1 + 0), .int x1a, .ref (G.2.1 + 91)]) (rest := []) C hN hR hW (by omega) (by decide) wS_258 rfl rfl (Nat.le_of_ble_eq_true rfl) hl.1 ⟨show cells + cxO o4 ≤ 601024 by omega, show slots + sxO o4 ≤ 7293034 by omega⟩ (dk DLaw17 58 rfl) (fun H locs hR => ?_)
  refine lv_istore (lv' := (5, .int z4) :: five G b i) hx hb (dk DLaw17 59 rfl) hl (by decide) rfl (fun ls hl => ?_)
  refine lv_aload_n hx hb (dk DLaw18 0 rfl) rfl (lv_at hl 3 rfl) ?_
  refine r_arg (k := (1 : Int32)) C hX hbl hbA hR (lv_at hl 1 rfl) (lv_at hl 5 rfl) (hin 1 (by decide) (by decide)) ex1a.symm (dk DLaw18 1 rfl) (dk DLaw18 2 rfl) (dk DLaw18 3 rfl) (by decide) (dk DLaw18 4 rfl) (dk DLaw18 5 rfl) ?_
  refine r_callVi (As := [.int x1a]) (rest := []) C hR (C_M_chased l hl0 G x1a m3 v4 m4 e2) (by omega) (by decide) ob78 rfl wL_260 rfl rfl (Nat.le_of_ble_eq_true rfl) hl.1 ⟨show cells + cxO o4 ≤ 601024 by omega, show slots + sxO o4 ≤ 7293034 by omega⟩ (dk DLaw18 6 rfl) (fun H locs hR => ?_)
  refine T_int (b := b) (i := i) (tgt := 3285) hl0 C (by omega) hR hl hz hv ⟨show cells + cxO o4 ≤ 601024 by omega, show slots + sxO o4 ≤ 7293034 by omega⟩ wL_172 (dk DLaw18 7 rfl) (dk DLaw18 8 rfl) (dk DLaw18 9 rfl) (dk DLaw18 10 rfl) (dk DLaw18 11 rfl) (dk DLaw18 14 rfl) (dk DLaw18 15 rfl) (dk DLaw18 16 rfl) (dk DLaw18 17 rfl) (dk DLaw18 18 rfl) (dk DLaw18 19 rfl) (dk DLaw18 20 rfl) (dk DLaw18 21 rfl) (dk DLaw18 22 rfl) (dk DLaw18 25 rfl) (by decide) (fun H locs ls hl hR => ?_)
  exact W.widen (by omega) (by omega) (kk H locs ls _ hl hR inv)
set_option maxRecDepth 20000 in
theorem K_28 {p : Program} {l : Launch} {e : Env} {G : GG} {d : Nat} {s : State} {mid : MethodId} {b : Nat} {below : List Frame} {meth : Method} {c : Code} {H : Heap} {locs : List Loc} {ls : Array Slot} {Q : State → Prop} {L : Nat} {xs : Nat → Int32} {i : Int32} {B cells slots : Nat} {mem : Mem} (hl0 : l.stackTraces = false) (C : Cx G p l room_1 d s mid #[.ref b] meth c code 8 RL) (hd : 299 ≤ d) (hN : NCS s) (hX : va_X b L xs s s.heap) (hbl : b < s.heap.size) (hbA : ¬ G.2.1 ≤ b) (hin : ∀ z : Int, 0 ≤ z → z ≤ 6 → vp_in (i + iI z) L) (hB : B ≤ 100000) (hI : Inv B mem) (hR : Rp G mr0 N0 mem s H locs) (hl : lv_has ls 8 (five G b i)) (hcs : cells + 1 ≤ 601024 ∧ slots + 6 ≤ 7293034) (kk : ∀ (H : Heap) (locs : List Loc) (ls : Array Slot) (mem : Mem), lv_has ls 8 (five G b i) → Rp G mr0 N0 mem s H locs → Inv (B + 101) mem → W p l e room_1 s mid #[.ref b] below meth c H locs (cells + 1) (slots + 6) Q (F0 mid 3285 ls [])) : W p l e room_1 s mid #[.ref b] below meth c H locs cells slots Q (F0 mid 1940 ls []) := by
  have hx := C.1.1
  have hb := C.1.2.1
  obtain ⟨x1a, ex1a⟩ : ∃ z : Int32, z = xs (i + (1 : Int32)).toNatClampNeg := ⟨_, rfl⟩
  obtain ⟨x2a, ex2a⟩ : ∃ z : Int32, z = xs (i + (2 : Int32)).toNatClampNeg := ⟨_, rfl⟩
  obtain ⟨z2a, ez2a⟩ : ∃ z : Bool, z = decide (x2a ≠ 0) := ⟨_, rfl⟩
  obtain ⟨x3a, ex3a⟩ : ∃ z : Int32, z = xs (i + (3 : Int32)).toNatClampNeg := ⟨_, rfl⟩
  obtain ⟨x4a, ex4a⟩ : ∃ z : Int32, z = xs (i + (4 : Int32)).toNatClampNeg := ⟨_, rfl⟩
  obtain ⟨o4, z4, m3, v4, m4, hW, e2, hz, hv, inv, hc4, hs4⟩ := P_holds l hl0 G hI hB x1a z2a x3a x4a
  refine lv_aload_n hx hb (dk DLaw18 26 rfl) rfl (lv_at hl 1 rfl) ?_
  refine r_arg (k := (1 : Int32)) C hX hbl hbA hR (lv_at hl 0 rfl) (lv_at hl 4 rfl) (hin 1 (by decide) (by decide)) ex1a.symm (dk DLaw18 27 rfl) (dk DLaw18 28 rfl) (dk DLaw18 29 rfl) (by decide) (dk DLaw18 30 rfl) (dk DLaw18 31 rfl) ?_
  refine r_arg (k := (2 : Int32)) C hX hbl hbA hR (lv_at hl 0 rfl) (lv_at hl 4 rfl) (hin 2 (by decide) (by decide)) ex2a.symm (dk DLaw18 32 rfl) (dk DLaw18 33 rfl) (dk DLaw18 34 rfl) (by decide) (dk DLaw18 35 rfl) (dk DLaw18 36 rfl) ?_
  refine r_bool C ez2a (dk DLaw18 37 rfl) (dk DLaw18 38 rfl) (dk DLaw18 39 rfl) (dk DLaw18 40 rfl) ?_
  refine r_arg (k := (3 : Int32)) C hX hbl hbA hR (lv_at hl 0 rfl) (lv_at hl 4 rfl) (hin 3 (by decide) (by decide)) ex3a.symm (dk DLaw18 41 rfl) (dk DLaw18 42 rfl) (dk DLaw18 43 rfl) (by decide) (dk DLaw18 44 rfl) (dk DLaw18 45 rfl) ?_
  refine r_arg (k := (4 : Int32)) C hX hbl hbA hR (lv_at hl 0 rfl) (lv_at hl 4 rfl) (hin 4 (by decide) (by decide)) ex4a.symm (dk DLaw18 46 rfl) (dk DLaw18 47 rfl) (dk DLaw18 48 rfl) (by decide) (dk DLaw18 49 rfl) (dk DLaw18 50 rfl) ?_
  refine lv_aload_n hx hb (dk DLaw18 51 rfl) rfl (lv_at hl 3 rfl) ?_
  refine r_callW (As := [.ref (G.2.1 + 0), .int x1a, .int (b2i z2a), .int x3a, .int x4a, .ref (G.2.1 + 91)]) (rest := []) C hN hR hW (by omega) (by decide) wS_261 rfl rfl (Nat.le_of_ble_eq_true rfl) hl.1 ⟨show cells + cxO o4 ≤ 601024 by omega, show slots + sxO o4 ≤ 7293034 by omega⟩ (dk DLaw18 52 rfl) (fun H locs hR => ?_)
  refine lv_istore (lv' := (5, .int z4) :: five G b i) hx hb (dk DLaw18 53 rfl) hl (by decide) rfl (fun ls hl => ?_)
  refine lv_aload_n hx hb (dk DLaw18 54 rfl) rfl (lv_at hl 3 rfl) ?_
  refine r_arg (k := (1 : Int32)) C hX hbl hbA hR (lv_at hl 1 rfl) (lv_at hl 5 rfl) (hin 1 (by decide) (by decide)) ex1a.symm (dk DLaw18 55 rfl) (dk DLaw18 56 rfl) (dk DLaw18 57 rfl) (by decide) (dk DLaw18 58 rfl) (dk DLaw18 59 rfl) ?_
  refine r_arg (k := (2 : Int32)) C hX hbl hbA hR (lv_at hl 1 rfl) (lv_at hl 5 rfl) (hin 2 (by decide) (by decide)) ex2a.symm (dk DLaw19 0 rfl) (dk DLaw19 1 rfl) (dk DLaw19 2 rfl) (by decide) (dk DLaw19 3 rfl) (dk DLaw19 4 rfl) ?_
  refine r_bool C ez2a (dk DLaw19 5 rfl) (dk DLaw19 6 rfl) (dk DLaw19 7 rfl) (dk DLaw19 8 rfl) ?_
  refine r_arg (k := (3 : Int32)) C hX hbl hbA hR (lv_at hl 1 rfl) (lv_at hl 5 rfl) (hin 3 (by decide) (by decide)) ex3a.symm (dk DLaw19 9 rfl) (dk DLaw19 10 rfl) (dk DLaw19 11 rfl) (by decide) (dk DLaw19 12 rfl) (dk DLaw19 13 rfl) ?_
  refine r_arg (k := (4 : Int32)) C hX hbl hbA hR (lv_at hl 1 rfl) (lv_at hl 5 rfl) (hin 4 (by decide) (by decide)) ex4a.symm (dk DLaw19 14 rfl) (dk DLaw19 15 rfl) (dk DLaw19 16 rfl) (by decide) (dk DLaw19 17 rfl) (dk DLaw19 18 rfl) ?_
  refine r_callVi (As := [.int x1a, .int (b2i z2a), .int x3a, .int x4a]) (rest := []) C hR (C_M_holds l hl0 G x1a z2a x3a x4a m3 v4 m4 e2) (by omega) (by decide) ob78 rfl wL_264 rfl rfl (Nat.le_of_ble_eq_true rfl) hl.1 ⟨show cells + cxO o4 ≤ 601024 by omega, show slots + sxO o4 ≤ 7293034 by omega⟩ (dk DLaw19 19 rfl) (fun H locs hR => ?_)
  refine T_bool (b := b) (i := i) (tgt := 3285) hl0 C (by omega) hR hl hz hv ⟨show cells + cxO o4 ≤ 601024 by omega, show slots + sxO o4 ≤ 7293034 by omega⟩ wL_172 (dk DLaw19 20 rfl) (dk DLaw19 21 rfl) (dk DLaw19 22 rfl) (dk DLaw19 23 rfl) (dk DLaw19 24 rfl) (dk DLaw19 27 rfl) (dk DLaw19 28 rfl) (dk DLaw19 29 rfl) (dk DLaw19 30 rfl) (dk DLaw19 31 rfl) (dk DLaw19 32 rfl) (dk DLaw19 33 rfl) (dk DLaw19 34 rfl) (dk DLaw19 35 rfl) (dk DLaw19 36 rfl) (dk DLaw19 37 rfl) (dk DLaw19 38 rfl) (dk DLaw19 41 rfl) (by decide) (fun H locs ls hl hR => ?_)
  exact W.widen (by omega) (by omega) (kk H locs ls _ hl hR inv)
set_option maxRecDepth 20000 in
theorem K_29 {p : Program} {l : Launch} {e : Env} {G : GG} {d : Nat} {s : State} {mid : MethodId} {b : Nat} {below : List Frame} {meth : Method} {c : Code} {H : Heap} {locs : List Loc} {ls : Array Slot} {Q : State → Prop} {L : Nat} {xs : Nat → Int32} {i : Int32} {B cells slots : Nat} {mem : Mem} (hl0 : l.stackTraces = false) (C : Cx G p l room_1 d s mid #[.ref b] meth c code 8 RL) (hd : 299 ≤ d) (hN : NCS s) (hX : va_X b L xs s s.heap) (hbl : b < s.heap.size) (hbA : ¬ G.2.1 ≤ b) (hin : ∀ z : Int, 0 ≤ z → z ≤ 6 → vp_in (i + iI z) L) (hB : B ≤ 100000) (hI : Inv B mem) (hR : Rp G mr0 N0 mem s H locs) (hl : lv_has ls 8 (five G b i)) (hcs : cells + 1 ≤ 601024 ∧ slots + 6 ≤ 7293034) (kk : ∀ (H : Heap) (locs : List Loc) (ls : Array Slot) (mem : Mem), lv_has ls 8 (five G b i) → Rp G mr0 N0 mem s H locs → Inv (B + 101) mem → W p l e room_1 s mid #[.ref b] below meth c H locs (cells + 1) (slots + 6) Q (F0 mid 3285 ls [])) : W p l e room_1 s mid #[.ref b] below meth c H locs cells slots Q (F0 mid 2055 ls []) := by
  have hx := C.1.1
  have hb := C.1.2.1
  obtain ⟨x1a, ex1a⟩ : ∃ z : Int32, z = xs (i + (1 : Int32)).toNatClampNeg := ⟨_, rfl⟩
  obtain ⟨x2a, ex2a⟩ : ∃ z : Int32, z = xs (i + (2 : Int32)).toNatClampNeg := ⟨_, rfl⟩
  obtain ⟨o4, z4, m3, v4, m4, hW, e2, hz, hv, inv, hc4, hs4⟩ := P_turnover l hl0 G hI hB x1a x2a
  refine lv_aload_n hx hb (dk DLaw19 42 rfl) rfl (lv_at hl 1 rfl) ?_
  refine r_arg (k := (1 : Int32)) C hX hbl hbA hR (lv_at hl 0 rfl) (lv_at hl 4 rfl) (hin 1 (by decide) (by decide)) ex1a.symm (dk DLaw19 43 rfl) (dk DLaw19 44 rfl) (dk DLaw19 45 rfl) (by decide) (dk DLaw19 46 rfl) (dk DLaw19 47 rfl) ?_
  refine r_arg (k := (2 : Int32)) C hX hbl hbA hR (lv_at hl 0 rfl) (lv_at hl 4 rfl) (hin 2 (by decide) (by decide)) ex2a.symm (dk DLaw19 48 rfl) (dk DLaw19 49 rfl) (dk DLaw19 50 rfl) (by decide) (dk DLaw19 51 rfl) (dk DLaw19 52 rfl) ?_
  refine lv_aload_n hx hb (dk DLaw19 53 rfl) rfl (lv_at hl 3 rfl) ?_
  refine r_callW (As := [.ref (G.2.1 + 0), .int x1a, .int x2a, .ref (G.2.1 + 91)]) (rest := []) C hN hR hW (by omega) (by decide) wS_265 rfl rfl (Nat.le_of_ble_eq_true rfl) hl.1 ⟨show cells + cxO o4 ≤ 601024 by omega, show slots + sxO o4 ≤ 7293034 by omega⟩ (dk DLaw19 54 rfl) (fun H locs hR => ?_)
  refine lv_istore (lv' := (5, .int z4) :: five G b i) hx hb (dk DLaw19 55 rfl) hl (by decide) rfl (fun ls hl => ?_)
  refine lv_aload_n hx hb (dk DLaw19 56 rfl) rfl (lv_at hl 3 rfl) ?_
  refine r_arg (k := (1 : Int32)) C hX hbl hbA hR (lv_at hl 1 rfl) (lv_at hl 5 rfl) (hin 1 (by decide) (by decide)) ex1a.symm (dk DLaw19 57 rfl) (dk DLaw19 58 rfl) (dk DLaw19 59 rfl) (by decide) (dk DLaw20 0 rfl) (dk DLaw20 1 rfl) ?_
  refine r_arg (k := (2 : Int32)) C hX hbl hbA hR (lv_at hl 1 rfl) (lv_at hl 5 rfl) (hin 2 (by decide) (by decide)) ex2a.symm (dk DLaw20 2 rfl) (dk DLaw20 3 rfl) (dk DLaw20 4 rfl) (by decide) (dk DLaw20 5 rfl) (dk DLaw20 6 rfl) ?_
  refine r_callVi (As := [.int x1a, .int x2a]) (rest := []) C hR (C_M_turnover l hl0 G x1a x2a m3 v4 m4 e2) (by omega) (by decide) ob78 rfl wL_267 rfl rfl (Nat.le_of_ble_eq_true rfl) hl.1 ⟨show cells + cxO o4 ≤ 601024 by omega, show slots + sxO o4 ≤ 7293034 by omega⟩ (dk DLaw20 7 rfl) (fun H locs hR => ?_)
  refine T_int (b := b) (i := i) (tgt := 3285) hl0 C (by omega) hR hl hz hv ⟨show cells + cxO o4 ≤ 601024 by omega, show slots + sxO o4 ≤ 7293034 by omega⟩ wL_172 (dk DLaw20 8 rfl) (dk DLaw20 9 rfl) (dk DLaw20 10 rfl) (dk DLaw20 11 rfl) (dk DLaw20 12 rfl) (dk DLaw20 15 rfl) (dk DLaw20 16 rfl) (dk DLaw20 17 rfl) (dk DLaw20 18 rfl) (dk DLaw20 19 rfl) (dk DLaw20 20 rfl) (dk DLaw20 21 rfl) (dk DLaw20 22 rfl) (dk DLaw20 23 rfl) (dk DLaw20 26 rfl) (by decide) (fun H locs ls hl hR => ?_)
  exact W.widen (by omega) (by omega) (kk H locs ls _ hl hR inv)
set_option maxRecDepth 20000 in
theorem K_30 {p : Program} {l : Launch} {e : Env} {G : GG} {d : Nat} {s : State} {mid : MethodId} {b : Nat} {below : List Frame} {meth : Method} {c : Code} {H : Heap} {locs : List Loc} {ls : Array Slot} {Q : State → Prop} {L : Nat} {xs : Nat → Int32} {i : Int32} {B cells slots : Nat} {mem : Mem} (hl0 : l.stackTraces = false) (C : Cx G p l room_1 d s mid #[.ref b] meth c code 8 RL) (hd : 299 ≤ d) (hN : NCS s) (hX : va_X b L xs s s.heap) (hbl : b < s.heap.size) (hbA : ¬ G.2.1 ≤ b) (hin : ∀ z : Int, 0 ≤ z → z ≤ 6 → vp_in (i + iI z) L) (hB : B ≤ 100000) (hI : Inv B mem) (hR : Rp G mr0 N0 mem s H locs) (hl : lv_has ls 8 (five G b i)) (hcs : cells + 1 ≤ 601024 ∧ slots + 6 ≤ 7293034) (kk : ∀ (H : Heap) (locs : List Loc) (ls : Array Slot) (mem : Mem), lv_has ls 8 (five G b i) → Rp G mr0 N0 mem s H locs → Inv (B + 101) mem → W p l e room_1 s mid #[.ref b] below meth c H locs (cells + 1) (slots + 6) Q (F0 mid 3285 ls [])) : W p l e room_1 s mid #[.ref b] below meth c H locs cells slots Q (F0 mid 2123 ls []) := by
  have hx := C.1.1
  have hb := C.1.2.1
  obtain ⟨x1a, ex1a⟩ : ∃ z : Int32, z = xs (i + (1 : Int32)).toNatClampNeg := ⟨_, rfl⟩
  obtain ⟨x2a, ex2a⟩ : ∃ z : Int32, z = xs (i + (2 : Int32)).toNatClampNeg := ⟨_, rfl⟩
  obtain ⟨x3a, ex3a⟩ : ∃ z : Int32, z = xs (i + (3 : Int32)).toNatClampNeg := ⟨_, rfl⟩
  obtain ⟨z3a, ez3a⟩ : ∃ z : Bool, z = decide (x3a ≠ 0) := ⟨_, rfl⟩
  obtain ⟨x4a, ex4a⟩ : ∃ z : Int32, z = xs (i + (4 : Int32)).toNatClampNeg := ⟨_, rfl⟩
  obtain ⟨x5a, ex5a⟩ : ∃ z : Int32, z = xs (i + (5 : Int32)).toNatClampNeg := ⟨_, rfl⟩
  obtain ⟨o4, z4, m3, v4, m4, hW, e2, hz, hv, inv, hc4, hs4⟩ := P_line l hl0 G hI hB x1a x2a z3a x4a x5a
  refine lv_aload_n hx hb (dk DLaw20 27 rfl) rfl (lv_at hl 1 rfl) ?_
  refine r_arg (k := (1 : Int32)) C hX hbl hbA hR (lv_at hl 0 rfl) (lv_at hl 4 rfl) (hin 1 (by decide) (by decide)) ex1a.symm (dk DLaw20 28 rfl) (dk DLaw20 29 rfl) (dk DLaw20 30 rfl) (by decide) (dk DLaw20 31 rfl) (dk DLaw20 32 rfl) ?_
  refine r_arg (k := (2 : Int32)) C hX hbl hbA hR (lv_at hl 0 rfl) (lv_at hl 4 rfl) (hin 2 (by decide) (by decide)) ex2a.symm (dk DLaw20 33 rfl) (dk DLaw20 34 rfl) (dk DLaw20 35 rfl) (by decide) (dk DLaw20 36 rfl) (dk DLaw20 37 rfl) ?_
  refine r_arg (k := (3 : Int32)) C hX hbl hbA hR (lv_at hl 0 rfl) (lv_at hl 4 rfl) (hin 3 (by decide) (by decide)) ex3a.symm (dk DLaw20 38 rfl) (dk DLaw20 39 rfl) (dk DLaw20 40 rfl) (by decide) (dk DLaw20 41 rfl) (dk DLaw20 42 rfl) ?_
  refine r_bool C ez3a (dk DLaw20 43 rfl) (dk DLaw20 44 rfl) (dk DLaw20 45 rfl) (dk DLaw20 46 rfl) ?_
  refine r_arg (k := (4 : Int32)) C hX hbl hbA hR (lv_at hl 0 rfl) (lv_at hl 4 rfl) (hin 4 (by decide) (by decide)) ex4a.symm (dk DLaw20 47 rfl) (dk DLaw20 48 rfl) (dk DLaw20 49 rfl) (by decide) (dk DLaw20 50 rfl) (dk DLaw20 51 rfl) ?_
  refine r_arg (k := (5 : Int32)) C hX hbl hbA hR (lv_at hl 0 rfl) (lv_at hl 4 rfl) (hin 5 (by decide) (by decide)) ex5a.symm (dk DLaw20 52 rfl) (dk DLaw20 53 rfl) (dk DLaw20 54 rfl) (by decide) (dk DLaw20 55 rfl) (dk DLaw20 56 rfl) ?_
  refine lv_aload_n hx hb (dk DLaw20 57 rfl) rfl (lv_at hl 3 rfl) ?_
  refine r_callW (As := [.ref (G.2.1 + 0), .int x1a, .int x2a, .int (b2i z3a), .int x4a, .int x5a, .ref (G.2.1 + 91)]) (rest := []) C hN hR hW (by omega) (by decide) wS_268 rfl rfl (Nat.le_of_ble_eq_true rfl) hl.1 ⟨show cells + cxO o4 ≤ 601024 by omega, show slots + sxO o4 ≤ 7293034 by omega⟩ (dk DLaw20 58 rfl) (fun H locs hR => ?_)
  refine lv_istore (lv' := (5, .int z4) :: five G b i) hx hb (dk DLaw20 59 rfl) hl (by decide) rfl (fun ls hl => ?_)
  refine lv_aload_n hx hb (dk DLaw21 0 rfl) rfl (lv_at hl 3 rfl) ?_
  refine r_arg (k := (1 : Int32)) C hX hbl hbA hR (lv_at hl 1 rfl) (lv_at hl 5 rfl) (hin 1 (by decide) (by decide)) ex1a.symm (dk DLaw21 1 rfl) (dk DLaw21 2 rfl) (dk DLaw21 3 rfl) (by decide) (dk DLaw21 4 rfl) (dk DLaw21 5 rfl) ?_
  refine r_arg (k := (2 : Int32)) C hX hbl hbA hR (lv_at hl 1 rfl) (lv_at hl 5 rfl) (hin 2 (by decide) (by decide)) ex2a.symm (dk DLaw21 6 rfl) (dk DLaw21 7 rfl) (dk DLaw21 8 rfl) (by decide) (dk DLaw21 9 rfl) (dk DLaw21 10 rfl) ?_
  refine r_arg (k := (3 : Int32)) C hX hbl hbA hR (lv_at hl 1 rfl) (lv_at hl 5 rfl) (hin 3 (by decide) (by decide)) ex3a.symm (dk DLaw21 11 rfl) (dk DLaw21 12 rfl) (dk DLaw21 13 rfl) (by decide) (dk DLaw21 14 rfl) (dk DLaw21 15 rfl) ?_
  refine r_bool C ez3a (dk DLaw21 16 rfl) (dk DLaw21 17 rfl) (dk DLaw21 18 rfl) (dk DLaw21 19 rfl) ?_
  refine r_arg (k := (4 : Int32)) C hX hbl hbA hR (lv_at hl 1 rfl) (lv_at hl 5 rfl) (hin 4 (by decide) (by decide)) ex4a.symm (dk DLaw21 20 rfl) (dk DLaw21 21 rfl) (dk DLaw21 22 rfl) (by decide) (dk DLaw21 23 rfl) (dk DLaw21 24 rfl) ?_
  refine r_arg (k := (5 : Int32)) C hX hbl hbA hR (lv_at hl 1 rfl) (lv_at hl 5 rfl) (hin 5 (by decide) (by decide)) ex5a.symm (dk DLaw21 25 rfl) (dk DLaw21 26 rfl) (dk DLaw21 27 rfl) (by decide) (dk DLaw21 28 rfl) (dk DLaw21 29 rfl) ?_
  refine r_callVi (As := [.int x1a, .int x2a, .int (b2i z3a), .int x4a, .int x5a]) (rest := []) C hR (C_M_line l hl0 G x1a x2a z3a x4a x5a m3 v4 m4 e2) (by omega) (by decide) ob78 rfl wL_270 rfl rfl (Nat.le_of_ble_eq_true rfl) hl.1 ⟨show cells + cxO o4 ≤ 601024 by omega, show slots + sxO o4 ≤ 7293034 by omega⟩ (dk DLaw21 30 rfl) (fun H locs hR => ?_)
  refine T_int (b := b) (i := i) (tgt := 3285) hl0 C (by omega) hR hl hz hv ⟨show cells + cxO o4 ≤ 601024 by omega, show slots + sxO o4 ≤ 7293034 by omega⟩ wL_172 (dk DLaw21 31 rfl) (dk DLaw21 32 rfl) (dk DLaw21 33 rfl) (dk DLaw21 34 rfl) (dk DLaw21 35 rfl) (dk DLaw21 38 rfl) (dk DLaw21 39 rfl) (dk DLaw21 40 rfl) (dk DLaw21 41 rfl) (dk DLaw21 42 rfl) (dk DLaw21 43 rfl) (dk DLaw21 44 rfl) (dk DLaw21 45 rfl) (dk DLaw21 46 rfl) (dk DLaw21 49 rfl) (by decide) (fun H locs ls hl hR => ?_)
  exact W.widen (by omega) (by omega) (kk H locs ls _ hl hR inv)
set_option maxRecDepth 20000 in
theorem K_31 {p : Program} {l : Launch} {e : Env} {G : GG} {d : Nat} {s : State} {mid : MethodId} {b : Nat} {below : List Frame} {meth : Method} {c : Code} {H : Heap} {locs : List Loc} {ls : Array Slot} {Q : State → Prop} {L : Nat} {xs : Nat → Int32} {i : Int32} {B cells slots : Nat} {mem : Mem} (hl0 : l.stackTraces = false) (C : Cx G p l room_1 d s mid #[.ref b] meth c code 8 RL) (hd : 299 ≤ d) (hN : NCS s) (hX : va_X b L xs s s.heap) (hbl : b < s.heap.size) (hbA : ¬ G.2.1 ≤ b) (hin : ∀ z : Int, 0 ≤ z → z ≤ 6 → vp_in (i + iI z) L) (hB : B ≤ 100000) (hI : Inv B mem) (hR : Rp G mr0 N0 mem s H locs) (hl : lv_has ls 8 (five G b i)) (hcs : cells + 1 ≤ 601024 ∧ slots + 6 ≤ 7293034) (kk : ∀ (H : Heap) (locs : List Loc) (ls : Array Slot) (mem : Mem), lv_has ls 8 (five G b i) → Rp G mr0 N0 mem s H locs → Inv (B + 101) mem → W p l e room_1 s mid #[.ref b] below meth c H locs (cells + 1) (slots + 6) Q (F0 mid 3285 ls [])) : W p l e room_1 s mid #[.ref b] below meth c H locs cells slots Q (F0 mid 2243 ls []) := by
  have hx := C.1.1
  have hb := C.1.2.1
  obtain ⟨x1a, ex1a⟩ : ∃ z : Int32, z = xs (i + (1 : Int32)).toNatClampNeg := ⟨_, rfl⟩
  obtain ⟨o4, z4, m3, v4, m4, hW, e2, hz, hv, inv, hc4, hs4⟩ := P_cost l hl0 G hI hB x1a
  refine lv_aload_n hx hb (dk DLaw21 50 rfl) rfl (lv_at hl 1 rfl) ?_
  refine r_arg (k := (1 : Int32)) C hX hbl hbA hR (lv_at hl 0 rfl) (lv_at hl 4 rfl) (hin 1 (by decide) (by decide)) ex1a.symm (dk DLaw21 51 rfl) (dk DLaw21 52 rfl) (dk DLaw21 53 rfl) (by decide) (dk DLaw21 54 rfl) (dk DLaw21 55 rfl) ?_
  refine lv_aload_n hx hb (dk DLaw21 56 rfl) rfl (lv_at hl 3 rfl) ?_
  refine r_callW (As := [.ref (G.2.1 + 0), .int x1a, .ref (G.2.1 + 91)]) (rest := []) C hN hR hW (by omega) (by decide) wS_271 rfl rfl (Nat.le_of_ble_eq_true rfl) hl.1 ⟨show cells + cxO o4 ≤ 601024 by omega, show slots + sxO o4 ≤ 7293034 by omega⟩ (dk DLaw21 57 rfl) (fun H locs hR => ?_)
  refine lv_istore (lv' := (5, .int z4) :: five G b i) hx hb (dk DLaw21 58 rfl) hl (by decide) rfl (fun ls hl => ?_)
  refine lv_aload_n hx hb (dk DLaw21 59 rfl) rfl (lv_at hl 3 rfl) ?_
  refine r_arg (k := (1 : Int32)) C hX hbl hbA hR (lv_at hl 1 rfl) (lv_at hl 5 rfl) (hin 1 (by decide) (by decide)) ex1a.symm (dk DLaw22 0 rfl) (dk DLaw22 1 rfl) (dk DLaw22 2 rfl) (by decide) (dk DLaw22 3 rfl) (dk DLaw22 4 rfl) ?_
  refine r_callVl (As := [.int x1a]) (rest := []) C hR (C_M_cost l hl0 G x1a m3 v4 m4 e2) (by omega) (by decide) ob78 rfl wL_273 rfl rfl (Nat.le_of_ble_eq_true rfl) hl.1 ⟨show cells + cxO o4 ≤ 601024 by omega, show slots + sxO o4 ≤ 7293034 by omega⟩ (dk DLaw22 5 rfl) (fun H locs hR => ?_)
  refine T_long (b := b) (i := i) (tgt := 3285) hl0 C (by omega) hR hl hz hv ⟨show cells + cxO o4 ≤ 601024 by omega, show slots + sxO o4 ≤ 7293034 by omega⟩ wL_172 (dk DLaw22 6 rfl) (dk DLaw22 7 rfl) (dk DLaw22 8 rfl) (dk DLaw22 9 rfl) (dk DLaw22 10 rfl) (dk DLaw22 13 rfl) (dk DLaw22 14 rfl) (dk DLaw22 15 rfl) (dk DLaw22 16 rfl) (dk DLaw22 17 rfl) (dk DLaw22 18 rfl) (dk DLaw22 19 rfl) (dk DLaw22 20 rfl) (dk DLaw22 23 rfl) (by decide) (fun H locs ls hl hR => ?_)
  exact W.widen (by omega) (by omega) (kk H locs ls _ hl hR inv)
set_option maxRecDepth 20000 in
theorem K_32 {p : Program} {l : Launch} {e : Env} {G : GG} {d : Nat} {s : State} {mid : MethodId} {b : Nat} {below : List Frame} {meth : Method} {c : Code} {H : Heap} {locs : List Loc} {ls : Array Slot} {Q : State → Prop} {L : Nat} {xs : Nat → Int32} {i : Int32} {B cells slots : Nat} {mem : Mem} (hl0 : l.stackTraces = false) (C : Cx G p l room_1 d s mid #[.ref b] meth c code 8 RL) (hd : 299 ≤ d) (hN : NCS s) (hX : va_X b L xs s s.heap) (hbl : b < s.heap.size) (hbA : ¬ G.2.1 ≤ b) (hin : ∀ z : Int, 0 ≤ z → z ≤ 6 → vp_in (i + iI z) L) (hB : B ≤ 100000) (hI : Inv B mem) (hR : Rp G mr0 N0 mem s H locs) (hl : lv_has ls 8 (five G b i)) (hcs : cells + 1 ≤ 601024 ∧ slots + 6 ≤ 7293034) (kk : ∀ (H : Heap) (locs : List Loc) (ls : Array Slot) (mem : Mem), lv_has ls 8 (five G b i) → Rp G mr0 N0 mem s H locs → Inv (B + 101) mem → W p l e room_1 s mid #[.ref b] below meth c H locs (cells + 1) (slots + 6) Q (F0 mid 3285 ls [])) : W p l e room_1 s mid #[.ref b] below meth c H locs cells slots Q (F0 mid 2298 ls []) := by
  have hx := C.1.1
  have hb := C.1.2.1
  obtain ⟨o4, z4, m3, v4, m4, hW, e2, hz, hv, inv, hc4, hs4⟩ := P_swing l hl0 G hI hB 
  refine lv_aload_n hx hb (dk DLaw22 24 rfl) rfl (lv_at hl 1 rfl) ?_
  refine lv_aload_n hx hb (dk DLaw22 25 rfl) rfl (lv_at hl 3 rfl) ?_
  refine r_callW (As := [.ref (G.2.1 + 0), .ref (G.2.1 + 91)]) (rest := []) C hN hR hW (by omega) (by decide) wS_274 rfl rfl (Nat.le_of_ble_eq_true rfl) hl.1 ⟨show cells + cxO o4 ≤ 601024 by omega, show slots + sxO o4 ≤ 7293034 by omega⟩ (dk DLaw22 26 rfl) (fun H locs hR => ?_)
  refine lv_istore (lv' := (5, .int z4) :: five G b i) hx hb (dk DLaw22 27 rfl) hl (by decide) rfl (fun ls hl => ?_)
  refine lv_aload_n hx hb (dk DLaw22 28 rfl) rfl (lv_at hl 3 rfl) ?_
  refine r_callVi (As := []) (rest := []) C hR (C_M_swing l hl0 G  m3 v4 m4 e2) (by omega) (by decide) ob78 rfl wL_276 rfl rfl (Nat.le_of_ble_eq_true rfl) hl.1 ⟨show cells + cxO o4 ≤ 601024 by omega, show slots + sxO o4 ≤ 7293034 by omega⟩ (dk DLaw22 29 rfl) (fun H locs hR => ?_)
  refine T_int (b := b) (i := i) (tgt := 3285) hl0 C (by omega) hR hl hz hv ⟨show cells + cxO o4 ≤ 601024 by omega, show slots + sxO o4 ≤ 7293034 by omega⟩ wL_172 (dk DLaw22 30 rfl) (dk DLaw22 31 rfl) (dk DLaw22 32 rfl) (dk DLaw22 33 rfl) (dk DLaw22 34 rfl) (dk DLaw22 37 rfl) (dk DLaw22 38 rfl) (dk DLaw22 39 rfl) (dk DLaw22 40 rfl) (dk DLaw22 41 rfl) (dk DLaw22 42 rfl) (dk DLaw22 43 rfl) (dk DLaw22 44 rfl) (dk DLaw22 45 rfl) (dk DLaw22 48 rfl) (by decide) (fun H locs ls hl hR => ?_)
  exact W.widen (by omega) (by omega) (kk H locs ls _ hl hR inv)
set_option maxRecDepth 20000 in
theorem K_33 {p : Program} {l : Launch} {e : Env} {G : GG} {d : Nat} {s : State} {mid : MethodId} {b : Nat} {below : List Frame} {meth : Method} {c : Code} {H : Heap} {locs : List Loc} {ls : Array Slot} {Q : State → Prop} {L : Nat} {xs : Nat → Int32} {i : Int32} {B cells slots : Nat} {mem : Mem} (hl0 : l.stackTraces = false) (C : Cx G p l room_1 d s mid #[.ref b] meth c code 8 RL) (hd : 299 ≤ d) (hN : NCS s) (hX : va_X b L xs s s.heap) (hbl : b < s.heap.size) (hbA : ¬ G.2.1 ≤ b) (hin : ∀ z : Int, 0 ≤ z → z ≤ 6 → vp_in (i + iI z) L) (hB : B ≤ 100000) (hI : Inv B mem) (hR : Rp G mr0 N0 mem s H locs) (hl : lv_has ls 8 (five G b i)) (hcs : cells + 1 ≤ 601024 ∧ slots + 6 ≤ 7293034) (kk : ∀ (H : Heap) (locs : List Loc) (ls : Array Slot) (mem : Mem), lv_has ls 8 (five G b i) → Rp G mr0 N0 mem s H locs → Inv (B + 101) mem → W p l e room_1 s mid #[.ref b] below meth c H locs (cells + 1) (slots + 6) Q (F0 mid 3285 ls [])) : W p l e room_1 s mid #[.ref b] below meth c H locs cells slots Q (F0 mid 2342 ls []) := by
  have hx := C.1.1
  have hb := C.1.2.1
  obtain ⟨x1a, ex1a⟩ : ∃ z : Int32, z = xs (i + (1 : Int32)).toNatClampNeg := ⟨_, rfl⟩
  obtain ⟨o4, z4, m3, v4, m4, hW, e2, hz, hv, inv, hc4, hs4⟩ := P_book l hl0 G hI hB x1a
  refine lv_aload_n hx hb (dk DLaw22 49 rfl) rfl (lv_at hl 1 rfl) ?_
  refine r_arg (k := (1 : Int32)) C hX hbl hbA hR (lv_at hl 0 rfl) (lv_at hl 4 rfl) (hin 1 (by decide) (by decide)) ex1a.symm (dk DLaw22 50 rfl) (dk DLaw22 51 rfl) (dk DLaw22 52 rfl) (by decide) (dk DLaw22 53 rfl) (dk DLaw22 54 rfl) ?_
  refine lv_aload_n hx hb (dk DLaw22 55 rfl) rfl (lv_at hl 3 rfl) ?_
  refine r_callW (As := [.ref (G.2.1 + 0), .int x1a, .ref (G.2.1 + 91)]) (rest := []) C hN hR hW (by omega) (by decide) wS_277 rfl rfl (Nat.le_of_ble_eq_true rfl) hl.1 ⟨show cells + cxO o4 ≤ 601024 by omega, show slots + sxO o4 ≤ 7293034 by omega⟩ (dk DLaw22 56 rfl) (fun H locs hR => ?_)
  refine lv_istore (lv' := (5, .int z4) :: five G b i) hx hb (dk DLaw22 57 rfl) hl (by decide) rfl (fun ls hl => ?_)
  refine lv_aload_n hx hb (dk DLaw22 58 rfl) rfl (lv_at hl 3 rfl) ?_
  refine r_arg (k := (1 : Int32)) C hX hbl hbA hR (lv_at hl 1 rfl) (lv_at hl 5 rfl) (hin 1 (by decide) (by decide)) ex1a.symm (dk DLaw22 59 rfl) (dk DLaw23 0 rfl) (dk DLaw23 1 rfl) (by decide) (dk DLaw23 2 rfl) (dk DLaw23 3 rfl) ?_
  refine r_callVi (As := [.int x1a]) (rest := []) C hR (C_M_book l hl0 G x1a m3 v4 m4 e2) (by omega) (by decide) ob78 rfl wL_279 rfl rfl (Nat.le_of_ble_eq_true rfl) hl.1 ⟨show cells + cxO o4 ≤ 601024 by omega, show slots + sxO o4 ≤ 7293034 by omega⟩ (dk DLaw23 4 rfl) (fun H locs hR => ?_)
  refine T_int (b := b) (i := i) (tgt := 3285) hl0 C (by omega) hR hl hz hv ⟨show cells + cxO o4 ≤ 601024 by omega, show slots + sxO o4 ≤ 7293034 by omega⟩ wL_172 (dk DLaw23 5 rfl) (dk DLaw23 6 rfl) (dk DLaw23 7 rfl) (dk DLaw23 8 rfl) (dk DLaw23 9 rfl) (dk DLaw23 12 rfl) (dk DLaw23 13 rfl) (dk DLaw23 14 rfl) (dk DLaw23 15 rfl) (dk DLaw23 16 rfl) (dk DLaw23 17 rfl) (dk DLaw23 18 rfl) (dk DLaw23 19 rfl) (dk DLaw23 20 rfl) (dk DLaw23 23 rfl) (by decide) (fun H locs ls hl hR => ?_)
  exact W.widen (by omega) (by omega) (kk H locs ls _ hl hR inv)
set_option maxRecDepth 20000 in
theorem K_34 {p : Program} {l : Launch} {e : Env} {G : GG} {d : Nat} {s : State} {mid : MethodId} {b : Nat} {below : List Frame} {meth : Method} {c : Code} {H : Heap} {locs : List Loc} {ls : Array Slot} {Q : State → Prop} {L : Nat} {xs : Nat → Int32} {i : Int32} {B cells slots : Nat} {mem : Mem} (hl0 : l.stackTraces = false) (C : Cx G p l room_1 d s mid #[.ref b] meth c code 8 RL) (hd : 299 ≤ d) (hN : NCS s) (hX : va_X b L xs s s.heap) (hbl : b < s.heap.size) (hbA : ¬ G.2.1 ≤ b) (hin : ∀ z : Int, 0 ≤ z → z ≤ 6 → vp_in (i + iI z) L) (hB : B ≤ 100000) (hI : Inv B mem) (hR : Rp G mr0 N0 mem s H locs) (hl : lv_has ls 8 (five G b i)) (hcs : cells + 1 ≤ 601024 ∧ slots + 6 ≤ 7293034) (kk : ∀ (H : Heap) (locs : List Loc) (ls : Array Slot) (mem : Mem), lv_has ls 8 (five G b i) → Rp G mr0 N0 mem s H locs → Inv (B + 101) mem → W p l e room_1 s mid #[.ref b] below meth c H locs (cells + 1) (slots + 6) Q (F0 mid 3285 ls [])) : W p l e room_1 s mid #[.ref b] below meth c H locs cells slots Q (F0 mid 2398 ls []) := by
  have hx := C.1.1
  have hb := C.1.2.1
  obtain ⟨x1a, ex1a⟩ : ∃ z : Int32, z = xs (i + (1 : Int32)).toNatClampNeg := ⟨_, rfl⟩
  obtain ⟨x2a, ex2a⟩ : ∃ z : Int32, z = xs (i + (2 : Int32)).toNatClampNeg := ⟨_, rfl⟩
  obtain ⟨o4, z4, m3, v4, m4, hW, e2, hz, hv, inv, hc4, hs4⟩ := P_share l hl0 G hI hB x1a x2a
  refine lv_aload_n hx hb (dk DLaw23 24 rfl) rfl (lv_at hl 1 rfl) ?_
  refine r_arg (k := (1 : Int32)) C hX hbl hbA hR (lv_at hl 0 rfl) (lv_at hl 4 rfl) (hin 1 (by decide) (by decide)) ex1a.symm (dk DLaw23 25 rfl) (dk DLaw23 26 rfl) (dk DLaw23 27 rfl) (by decide) (dk DLaw23 28 rfl) (dk DLaw23 29 rfl) ?_
  refine r_arg (k := (2 : Int32)) C hX hbl hbA hR (lv_at hl 0 rfl) (lv_at hl 4 rfl) (hin 2 (by decide) (by decide)) ex2a.symm (dk DLaw23 30 rfl) (dk DLaw23 31 rfl) (dk DLaw23 32 rfl) (by decide) (dk DLaw23 33 rfl) (dk DLaw23 34 rfl) ?_
  refine lv_aload_n hx hb (dk DLaw23 35 rfl) rfl (lv_at hl 3 rfl) ?_
  refine r_callW (As := [.ref (G.2.1 + 0), .int x1a, .int x2a, .ref (G.2.1 + 91)]) (rest := []) C hN hR hW (by omega) (by decide) wS_280 rfl rfl (Nat.le_of_ble_eq_true rfl) hl.1 ⟨show cells + cxO o4 ≤ 601024 by omega, show slots + sxO o4 ≤ 7293034 by omega⟩ (dk DLaw23 36 rfl) (fun H locs hR => ?_)
  refine lv_istore (lv' := (5, .int z4) :: five G b i) hx hb (dk DLaw23 37 rfl) hl (by decide) rfl (fun ls hl => ?_)
  refine lv_aload_n hx hb (dk DLaw23 38 rfl) rfl (lv_at hl 3 rfl) ?_
  refine r_arg (k := (1 : Int32)) C hX hbl hbA hR (lv_at hl 1 rfl) (lv_at hl 5 rfl) (hin 1 (by decide) (by decide)) ex1a.symm (dk DLaw23 39 rfl) (dk DLaw23 40 rfl) (dk DLaw23 41 rfl) (by decide) (dk DLaw23 42 rfl) (dk DLaw23 43 rfl) ?_
  refine r_arg (k := (2 : Int32)) C hX hbl hbA hR (lv_at hl 1 rfl) (lv_at hl 5 rfl) (hin 2 (by decide) (by decide)) ex2a.symm (dk DLaw23 44 rfl) (dk DLaw23 45 rfl) (dk DLaw23 46 rfl) (by decide) (dk DLaw23 47 rfl) (dk DLaw23 48 rfl) ?_
  refine r_callVi (As := [.int x1a, .int x2a]) (rest := []) C hR (C_M_share l hl0 G x1a x2a m3 v4 m4 e2) (by omega) (by decide) ob78 rfl wL_282 rfl rfl (Nat.le_of_ble_eq_true rfl) hl.1 ⟨show cells + cxO o4 ≤ 601024 by omega, show slots + sxO o4 ≤ 7293034 by omega⟩ (dk DLaw23 49 rfl) (fun H locs hR => ?_)
  refine T_int (b := b) (i := i) (tgt := 3285) hl0 C (by omega) hR hl hz hv ⟨show cells + cxO o4 ≤ 601024 by omega, show slots + sxO o4 ≤ 7293034 by omega⟩ wL_172 (dk DLaw23 50 rfl) (dk DLaw23 51 rfl) (dk DLaw23 52 rfl) (dk DLaw23 53 rfl) (dk DLaw23 54 rfl) (dk DLaw23 57 rfl) (dk DLaw23 58 rfl) (dk DLaw23 59 rfl) (dk DLaw24 0 rfl) (dk DLaw24 1 rfl) (dk DLaw24 2 rfl) (dk DLaw24 3 rfl) (dk DLaw24 4 rfl) (dk DLaw24 5 rfl) (dk DLaw24 8 rfl) (by decide) (fun H locs ls hl hR => ?_)
  exact W.widen (by omega) (by omega) (kk H locs ls _ hl hR inv)
set_option maxRecDepth 20000 in
theorem K_35 {p : Program} {l : Launch} {e : Env} {G : GG} {d : Nat} {s : State} {mid : MethodId} {b : Nat} {below : List Frame} {meth : Method} {c : Code} {H : Heap} {locs : List Loc} {ls : Array Slot} {Q : State → Prop} {L : Nat} {xs : Nat → Int32} {i : Int32} {B cells slots : Nat} {mem : Mem} (hl0 : l.stackTraces = false) (C : Cx G p l room_1 d s mid #[.ref b] meth c code 8 RL) (hd : 299 ≤ d) (hN : NCS s) (hX : va_X b L xs s s.heap) (hbl : b < s.heap.size) (hbA : ¬ G.2.1 ≤ b) (hin : ∀ z : Int, 0 ≤ z → z ≤ 6 → vp_in (i + iI z) L) (hB : B ≤ 100000) (hI : Inv B mem) (hR : Rp G mr0 N0 mem s H locs) (hl : lv_has ls 8 (five G b i)) (hcs : cells + 1 ≤ 601024 ∧ slots + 6 ≤ 7293034) (kk : ∀ (H : Heap) (locs : List Loc) (ls : Array Slot) (mem : Mem), lv_has ls 8 (five G b i) → Rp G mr0 N0 mem s H locs → Inv (B + 101) mem → W p l e room_1 s mid #[.ref b] below meth c H locs (cells + 1) (slots + 6) Q (F0 mid 3285 ls [])) : W p l e room_1 s mid #[.ref b] below meth c H locs cells slots Q (F0 mid 2466 ls []) := by
  have hx := C.1.1
  have hb := C.1.2.1
  obtain ⟨x1a, ex1a⟩ : ∃ z : Int32, z = xs (i + (1 : Int32)).toNatClampNeg := ⟨_, rfl⟩
  obtain ⟨z1a, ez1a⟩ : ∃ z : Bool, z = decide (x1a ≠ 0) := ⟨_, rfl⟩
  obtain ⟨law, n, mg, wd, tx, bc, t, iv⟩ := hI
  obtain ⟨rT, m1, e1, rM, m2, e2, hv, inv⟩ := habit_op iv z1a
  have inv : Inv (B + 101) m2 := inv.up (by omega)
  refine lv_aload_n hx hb (dk DLaw24 9 rfl) rfl (lv_at hl 1 rfl) ?_
  refine r_arg (k := (1 : Int32)) C hX hbl hbA hR (lv_at hl 0 rfl) (lv_at hl 4 rfl) (hin 1 (by decide) (by decide)) ex1a.symm (dk DLaw24 10 rfl) (dk DLaw24 11 rfl) (dk DLaw24 12 rfl) (by decide) (dk DLaw24 13 rfl) (dk DLaw24 14 rfl) ?_
  refine r_bool C ez1a (dk DLaw24 15 rfl) (dk DLaw24 16 rfl) (dk DLaw24 17 rfl) (dk DLaw24 18 rfl) ?_
  refine r_callVi (As := [.int (b2i z1a)]) (rest := []) C hR (C_T_habit l hl0 G z1a mem rT m1 e1) (by omega) (by decide) ob0 rfl wL_283 rfl rfl (Nat.le_of_ble_eq_true rfl) hl.1 ⟨show cells ≤ 601024 by omega, show slots ≤ 7293034 by omega⟩ (dk DLaw24 19 rfl) (fun H locs hR => ?_)
  refine lv_aload_n hx hb (dk DLaw24 20 rfl) rfl (lv_at hl 2 rfl) ?_
  refine r_arg (k := (1 : Int32)) C hX hbl hbA hR (lv_at hl 0 rfl) (lv_at hl 4 rfl) (hin 1 (by decide) (by decide)) ex1a.symm (dk DLaw24 21 rfl) (dk DLaw24 22 rfl) (dk DLaw24 23 rfl) (by decide) (dk DLaw24 24 rfl) (dk DLaw24 25 rfl) ?_
  refine r_bool C ez1a (dk DLaw24 26 rfl) (dk DLaw24 27 rfl) (dk DLaw24 28 rfl) (dk DLaw24 29 rfl) ?_
  refine r_callVi (As := [.int (b2i z1a)]) (rest := [.int (b2i rT)]) C hR (C_M_habit l hl0 G z1a m1 rM m2 e2) (by omega) (by decide) ob78 rfl wL_287 rfl rfl (Nat.le_of_ble_eq_true rfl) hl.1 ⟨show cells ≤ 601024 by omega, show slots ≤ 7293034 by omega⟩ (dk DLaw24 30 rfl) (fun H locs hR => ?_)
  refine lv_icmp_eq (tgt := 3285) hx hb (dk DLaw24 31 rfl) (by decide) (fun _ => ?_) (fun h => absurd (by rw [hv]) h)
  exact W.widen (by omega) (by omega) (kk H locs ls _ hl hR inv)
set_option maxRecDepth 20000 in
theorem K_36 {p : Program} {l : Launch} {e : Env} {G : GG} {d : Nat} {s : State} {mid : MethodId} {b : Nat} {below : List Frame} {meth : Method} {c : Code} {H : Heap} {locs : List Loc} {ls : Array Slot} {Q : State → Prop} {L : Nat} {xs : Nat → Int32} {i : Int32} {B cells slots : Nat} {mem : Mem} (hl0 : l.stackTraces = false) (C : Cx G p l room_1 d s mid #[.ref b] meth c code 8 RL) (hd : 299 ≤ d) (hN : NCS s) (hX : va_X b L xs s s.heap) (hbl : b < s.heap.size) (hbA : ¬ G.2.1 ≤ b) (hin : ∀ z : Int, 0 ≤ z → z ≤ 6 → vp_in (i + iI z) L) (hB : B ≤ 100000) (hI : Inv B mem) (hR : Rp G mr0 N0 mem s H locs) (hl : lv_has ls 8 (five G b i)) (hcs : cells + 1 ≤ 601024 ∧ slots + 6 ≤ 7293034) (kk : ∀ (H : Heap) (locs : List Loc) (ls : Array Slot) (mem : Mem), lv_has ls 8 (five G b i) → Rp G mr0 N0 mem s H locs → Inv (B + 101) mem → W p l e room_1 s mid #[.ref b] below meth c H locs (cells + 1) (slots + 6) Q (F0 mid 3285 ls [])) : W p l e room_1 s mid #[.ref b] below meth c H locs cells slots Q (F0 mid 2507 ls []) := by
  have hx := C.1.1
  have hb := C.1.2.1
  obtain ⟨x1a, ex1a⟩ : ∃ z : Int32, z = xs (i + (1 : Int32)).toNatClampNeg := ⟨_, rfl⟩
  obtain ⟨x2a, ex2a⟩ : ∃ z : Int32, z = xs (i + (2 : Int32)).toNatClampNeg := ⟨_, rfl⟩
  obtain ⟨x3a, ex3a⟩ : ∃ z : Int32, z = xs (i + (3 : Int32)).toNatClampNeg := ⟨_, rfl⟩
  obtain ⟨z3a, ez3a⟩ : ∃ z : Bool, z = decide (x3a ≠ 0) := ⟨_, rfl⟩
  obtain ⟨o4, z4, m3, v4, m4, hW, e2, hz, hv, inv, hc4, hs4⟩ := P_signs l hl0 G hI hB x1a x2a z3a
  refine lv_aload_n hx hb (dk DLaw24 34 rfl) rfl (lv_at hl 1 rfl) ?_
  refine r_arg (k := (1 : Int32)) C hX hbl hbA hR (lv_at hl 0 rfl) (lv_at hl 4 rfl) (hin 1 (by decide) (by decide)) ex1a.symm (dk DLaw24 35 rfl) (dk DLaw24 36 rfl) (dk DLaw24 37 rfl) (by decide) (dk DLaw24 38 rfl) (dk DLaw24 39 rfl) ?_
  refine r_arg (k := (2 : Int32)) C hX hbl hbA hR (lv_at hl 0 rfl) (lv_at hl 4 rfl) (hin 2 (by decide) (by decide)) ex2a.symm (dk DLaw24 40 rfl) (dk DLaw24 41 rfl) (dk DLaw24 42 rfl) (by decide) (dk DLaw24 43 rfl) (dk DLaw24 44 rfl) ?_
  refine r_arg (k := (3 : Int32)) C hX hbl hbA hR (lv_at hl 0 rfl) (lv_at hl 4 rfl) (hin 3 (by decide) (by decide)) ex3a.symm (dk DLaw24 45 rfl) (dk DLaw24 46 rfl) (dk DLaw24 47 rfl) (by decide) (dk DLaw24 48 rfl) (dk DLaw24 49 rfl) ?_
  refine r_bool C ez3a (dk DLaw24 50 rfl) (dk DLaw24 51 rfl) (dk DLaw24 52 rfl) (dk DLaw24 53 rfl) ?_
  refine lv_aload_n hx hb (dk DLaw24 54 rfl) rfl (lv_at hl 3 rfl) ?_
  refine r_callW (As := [.ref (G.2.1 + 0), .int x1a, .int x2a, .int (b2i z3a), .ref (G.2.1 + 91)]) (rest := []) C hN hR hW (by omega) (by decide) wS_288 rfl rfl (Nat.le_of_ble_eq_true rfl) hl.1 ⟨show cells + cxO o4 ≤ 601024 by omega, show slots + sxO o4 ≤ 7293034 by omega⟩ (dk DLaw24 55 rfl) (fun H locs hR => ?_)
  refine lv_istore (lv' := (5, .int z4) :: five G b i) hx hb (dk DLaw24 56 rfl) hl (by decide) rfl (fun ls hl => ?_)
  refine lv_aload_n hx hb (dk DLaw24 57 rfl) rfl (lv_at hl 3 rfl) ?_
  refine r_arg (k := (1 : Int32)) C hX hbl hbA hR (lv_at hl 1 rfl) (lv_at hl 5 rfl) (hin 1 (by decide) (by decide)) ex1a.symm (dk DLaw24 58 rfl) (dk DLaw24 59 rfl) (dk DLaw25 0 rfl) (by decide) (dk DLaw25 1 rfl) (dk DLaw25 2 rfl) ?_
  refine r_arg (k := (2 : Int32)) C hX hbl hbA hR (lv_at hl 1 rfl) (lv_at hl 5 rfl) (hin 2 (by decide) (by decide)) ex2a.symm (dk DLaw25 3 rfl) (dk DLaw25 4 rfl) (dk DLaw25 5 rfl) (by decide) (dk DLaw25 6 rfl) (dk DLaw25 7 rfl) ?_
  refine r_arg (k := (3 : Int32)) C hX hbl hbA hR (lv_at hl 1 rfl) (lv_at hl 5 rfl) (hin 3 (by decide) (by decide)) ex3a.symm (dk DLaw25 8 rfl) (dk DLaw25 9 rfl) (dk DLaw25 10 rfl) (by decide) (dk DLaw25 11 rfl) (dk DLaw25 12 rfl) ?_
  refine r_bool C ez3a (dk DLaw25 13 rfl) (dk DLaw25 14 rfl) (dk DLaw25 15 rfl) (dk DLaw25 16 rfl) ?_
  refine r_callVi (As := [.int x1a, .int x2a, .int (b2i z3a)]) (rest := []) C hR (C_M_signs l hl0 G x1a x2a z3a m3 v4 m4 e2) (by omega) (by decide) ob78 rfl wL_290 rfl rfl (Nat.le_of_ble_eq_true rfl) hl.1 ⟨show cells + cxO o4 ≤ 601024 by omega, show slots + sxO o4 ≤ 7293034 by omega⟩ (dk DLaw25 17 rfl) (fun H locs hR => ?_)
  refine T_int (b := b) (i := i) (tgt := 3285) hl0 C (by omega) hR hl hz hv ⟨show cells + cxO o4 ≤ 601024 by omega, show slots + sxO o4 ≤ 7293034 by omega⟩ wL_172 (dk DLaw25 18 rfl) (dk DLaw25 19 rfl) (dk DLaw25 20 rfl) (dk DLaw25 21 rfl) (dk DLaw25 22 rfl) (dk DLaw25 25 rfl) (dk DLaw25 26 rfl) (dk DLaw25 27 rfl) (dk DLaw25 28 rfl) (dk DLaw25 29 rfl) (dk DLaw25 30 rfl) (dk DLaw25 31 rfl) (dk DLaw25 32 rfl) (dk DLaw25 33 rfl) (dk DLaw25 36 rfl) (by decide) (fun H locs ls hl hR => ?_)
  exact W.widen (by omega) (by omega) (kk H locs ls _ hl hR inv)
set_option maxRecDepth 20000 in
theorem K_37 {p : Program} {l : Launch} {e : Env} {G : GG} {d : Nat} {s : State} {mid : MethodId} {b : Nat} {below : List Frame} {meth : Method} {c : Code} {H : Heap} {locs : List Loc} {ls : Array Slot} {Q : State → Prop} {L : Nat} {xs : Nat → Int32} {i : Int32} {B cells slots : Nat} {mem : Mem} (hl0 : l.stackTraces = false) (C : Cx G p l room_1 d s mid #[.ref b] meth c code 8 RL) (hd : 299 ≤ d) (hN : NCS s) (hX : va_X b L xs s s.heap) (hbl : b < s.heap.size) (hbA : ¬ G.2.1 ≤ b) (hin : ∀ z : Int, 0 ≤ z → z ≤ 6 → vp_in (i + iI z) L) (hB : B ≤ 100000) (hI : Inv B mem) (hR : Rp G mr0 N0 mem s H locs) (hl : lv_has ls 8 (five G b i)) (hcs : cells + 1 ≤ 601024 ∧ slots + 6 ≤ 7293034) (kk : ∀ (H : Heap) (locs : List Loc) (ls : Array Slot) (mem : Mem), lv_has ls 8 (five G b i) → Rp G mr0 N0 mem s H locs → Inv (B + 101) mem → W p l e room_1 s mid #[.ref b] below meth c H locs (cells + 1) (slots + 6) Q (F0 mid 3285 ls [])) : W p l e room_1 s mid #[.ref b] below meth c H locs cells slots Q (F0 mid 2603 ls []) := by
  have hx := C.1.1
  have hb := C.1.2.1
  obtain ⟨x1a, ex1a⟩ : ∃ z : Int32, z = xs (i + (1 : Int32)).toNatClampNeg := ⟨_, rfl⟩
  obtain ⟨z1a, ez1a⟩ : ∃ z : Bool, z = decide (x1a ≠ 0) := ⟨_, rfl⟩
  obtain ⟨x2a, ex2a⟩ : ∃ z : Int32, z = xs (i + (2 : Int32)).toNatClampNeg := ⟨_, rfl⟩
  obtain ⟨z2a, ez2a⟩ : ∃ z : Bool, z = decide (x2a ≠ 0) := ⟨_, rfl⟩
  obtain ⟨o4, z4, m3, v4, m4, hW, e2, hz, hv, inv, hc4, hs4⟩ := P_best l hl0 G hI hB z1a z2a
  refine lv_aload_n hx hb (dk DLaw25 37 rfl) rfl (lv_at hl 1 rfl) ?_
  refine r_arg (k := (1 : Int32)) C hX hbl hbA hR (lv_at hl 0 rfl) (lv_at hl 4 rfl) (hin 1 (by decide) (by decide)) ex1a.symm (dk DLaw25 38 rfl) (dk DLaw25 39 rfl) (dk DLaw25 40 rfl) (by decide) (dk DLaw25 41 rfl) (dk DLaw25 42 rfl) ?_
  refine r_bool C ez1a (dk DLaw25 43 rfl) (dk DLaw25 44 rfl) (dk DLaw25 45 rfl) (dk DLaw25 46 rfl) ?_
  refine r_arg (k := (2 : Int32)) C hX hbl hbA hR (lv_at hl 0 rfl) (lv_at hl 4 rfl) (hin 2 (by decide) (by decide)) ex2a.symm (dk DLaw25 47 rfl) (dk DLaw25 48 rfl) (dk DLaw25 49 rfl) (by decide) (dk DLaw25 50 rfl) (dk DLaw25 51 rfl) ?_
  refine r_bool C ez2a (dk DLaw25 52 rfl) (dk DLaw25 53 rfl) (dk DLaw25 54 rfl) (dk DLaw25 55 rfl) ?_
  refine lv_aload_n hx hb (dk DLaw25 56 rfl) rfl (lv_at hl 3 rfl) ?_
  refine r_callW (As := [.ref (G.2.1 + 0), .int (b2i z1a), .int (b2i z2a), .ref (G.2.1 + 91)]) (rest := []) C hN hR hW (by omega) (by decide) wS_291 rfl rfl (Nat.le_of_ble_eq_true rfl) hl.1 ⟨show cells + cxO o4 ≤ 601024 by omega, show slots + sxO o4 ≤ 7293034 by omega⟩ (dk DLaw25 57 rfl) (fun H locs hR => ?_)
  refine lv_istore (lv' := (5, .int z4) :: five G b i) hx hb (dk DLaw25 58 rfl) hl (by decide) rfl (fun ls hl => ?_)
  refine lv_aload_n hx hb (dk DLaw25 59 rfl) rfl (lv_at hl 3 rfl) ?_
  refine r_arg (k := (1 : Int32)) C hX hbl hbA hR (lv_at hl 1 rfl) (lv_at hl 5 rfl) (hin 1 (by decide) (by decide)) ex1a.symm (dk DLaw26 0 rfl) (dk DLaw26 1 rfl) (dk DLaw26 2 rfl) (by decide) (dk DLaw26 3 rfl) (dk DLaw26 4 rfl) ?_
  refine r_bool C ez1a (dk DLaw26 5 rfl) (dk DLaw26 6 rfl) (dk DLaw26 7 rfl) (dk DLaw26 8 rfl) ?_
  refine r_arg (k := (2 : Int32)) C hX hbl hbA hR (lv_at hl 1 rfl) (lv_at hl 5 rfl) (hin 2 (by decide) (by decide)) ex2a.symm (dk DLaw26 9 rfl) (dk DLaw26 10 rfl) (dk DLaw26 11 rfl) (by decide) (dk DLaw26 12 rfl) (dk DLaw26 13 rfl) ?_
  refine r_bool C ez2a (dk DLaw26 14 rfl) (dk DLaw26 15 rfl) (dk DLaw26 16 rfl) (dk DLaw26 17 rfl) ?_
  refine r_callVi (As := [.int (b2i z1a), .int (b2i z2a)]) (rest := []) C hR (C_M_best l hl0 G z1a z2a m3 v4 m4 e2) (by omega) (by decide) ob78 rfl wL_294 rfl rfl (Nat.le_of_ble_eq_true rfl) hl.1 ⟨show cells + cxO o4 ≤ 601024 by omega, show slots + sxO o4 ≤ 7293034 by omega⟩ (dk DLaw26 18 rfl) (fun H locs hR => ?_)
  refine T_int (b := b) (i := i) (tgt := 3285) hl0 C (by omega) hR hl hz hv ⟨show cells + cxO o4 ≤ 601024 by omega, show slots + sxO o4 ≤ 7293034 by omega⟩ wL_172 (dk DLaw26 19 rfl) (dk DLaw26 20 rfl) (dk DLaw26 21 rfl) (dk DLaw26 22 rfl) (dk DLaw26 23 rfl) (dk DLaw26 26 rfl) (dk DLaw26 27 rfl) (dk DLaw26 28 rfl) (dk DLaw26 29 rfl) (dk DLaw26 30 rfl) (dk DLaw26 31 rfl) (dk DLaw26 32 rfl) (dk DLaw26 33 rfl) (dk DLaw26 34 rfl) (dk DLaw26 37 rfl) (by decide) (fun H locs ls hl hR => ?_)
  exact W.widen (by omega) (by omega) (kk H locs ls _ hl hR inv)
set_option maxRecDepth 20000 in
theorem K_38 {p : Program} {l : Launch} {e : Env} {G : GG} {d : Nat} {s : State} {mid : MethodId} {b : Nat} {below : List Frame} {meth : Method} {c : Code} {H : Heap} {locs : List Loc} {ls : Array Slot} {Q : State → Prop} {L : Nat} {xs : Nat → Int32} {i : Int32} {B cells slots : Nat} {mem : Mem} (hl0 : l.stackTraces = false) (C : Cx G p l room_1 d s mid #[.ref b] meth c code 8 RL) (hd : 299 ≤ d) (hN : NCS s) (hX : va_X b L xs s s.heap) (hbl : b < s.heap.size) (hbA : ¬ G.2.1 ≤ b) (hin : ∀ z : Int, 0 ≤ z → z ≤ 6 → vp_in (i + iI z) L) (hB : B ≤ 100000) (hI : Inv B mem) (hR : Rp G mr0 N0 mem s H locs) (hl : lv_has ls 8 (five G b i)) (hcs : cells + 1 ≤ 601024 ∧ slots + 6 ≤ 7293034) (kk : ∀ (H : Heap) (locs : List Loc) (ls : Array Slot) (mem : Mem), lv_has ls 8 (five G b i) → Rp G mr0 N0 mem s H locs → Inv (B + 101) mem → W p l e room_1 s mid #[.ref b] below meth c H locs (cells + 1) (slots + 6) Q (F0 mid 3285 ls [])) : W p l e room_1 s mid #[.ref b] below meth c H locs cells slots Q (F0 mid 2703 ls []) := by
  have hx := C.1.1
  have hb := C.1.2.1
  obtain ⟨x1a, ex1a⟩ : ∃ z : Int32, z = xs (i + (1 : Int32)).toNatClampNeg := ⟨_, rfl⟩
  obtain ⟨o4, z4, m3, v4, m4, hW, e2, hz, hv, inv, hc4, hs4⟩ := P_blind l hl0 G hI hB x1a
  refine lv_aload_n hx hb (dk DLaw26 38 rfl) rfl (lv_at hl 1 rfl) ?_
  refine r_arg (k := (1 : Int32)) C hX hbl hbA hR (lv_at hl 0 rfl) (lv_at hl 4 rfl) (hin 1 (by decide) (by decide)) ex1a.symm (dk DLaw26 39 rfl) (dk DLaw26 40 rfl) (dk DLaw26 41 rfl) (by decide) (dk DLaw26 42 rfl) (dk DLaw26 43 rfl) ?_
  refine lv_aload_n hx hb (dk DLaw26 44 rfl) rfl (lv_at hl 3 rfl) ?_
  refine r_callW (As := [.ref (G.2.1 + 0), .int x1a, .ref (G.2.1 + 91)]) (rest := []) C hN hR hW (by omega) (by decide) wS_295 rfl rfl (Nat.le_of_ble_eq_true rfl) hl.1 ⟨show cells + cxO o4 ≤ 601024 by omega, show slots + sxO o4 ≤ 7293034 by omega⟩ (dk DLaw26 45 rfl) (fun H locs hR => ?_)
  refine lv_istore (lv' := (5, .int z4) :: five G b i) hx hb (dk DLaw26 46 rfl) hl (by decide) rfl (fun ls hl => ?_)
  refine lv_aload_n hx hb (dk DLaw26 47 rfl) rfl (lv_at hl 3 rfl) ?_
  refine r_arg (k := (1 : Int32)) C hX hbl hbA hR (lv_at hl 1 rfl) (lv_at hl 5 rfl) (hin 1 (by decide) (by decide)) ex1a.symm (dk DLaw26 48 rfl) (dk DLaw26 49 rfl) (dk DLaw26 50 rfl) (by decide) (dk DLaw26 51 rfl) (dk DLaw26 52 rfl) ?_
  refine r_callVl (As := [.int x1a]) (rest := []) C hR (C_M_blind l hl0 G x1a m3 v4 m4 e2) (by omega) (by decide) ob78 rfl wL_297 rfl rfl (Nat.le_of_ble_eq_true rfl) hl.1 ⟨show cells + cxO o4 ≤ 601024 by omega, show slots + sxO o4 ≤ 7293034 by omega⟩ (dk DLaw26 53 rfl) (fun H locs hR => ?_)
  refine T_long (b := b) (i := i) (tgt := 3285) hl0 C (by omega) hR hl hz hv ⟨show cells + cxO o4 ≤ 601024 by omega, show slots + sxO o4 ≤ 7293034 by omega⟩ wL_172 (dk DLaw26 54 rfl) (dk DLaw26 55 rfl) (dk DLaw26 56 rfl) (dk DLaw26 57 rfl) (dk DLaw26 58 rfl) (dk DLaw27 1 rfl) (dk DLaw27 2 rfl) (dk DLaw27 3 rfl) (dk DLaw27 4 rfl) (dk DLaw27 5 rfl) (dk DLaw27 6 rfl) (dk DLaw27 7 rfl) (dk DLaw27 8 rfl) (dk DLaw27 11 rfl) (by decide) (fun H locs ls hl hR => ?_)
  exact W.widen (by omega) (by omega) (kk H locs ls _ hl hR inv)
set_option maxRecDepth 20000 in
theorem K_39 {p : Program} {l : Launch} {e : Env} {G : GG} {d : Nat} {s : State} {mid : MethodId} {b : Nat} {below : List Frame} {meth : Method} {c : Code} {H : Heap} {locs : List Loc} {ls : Array Slot} {Q : State → Prop} {L : Nat} {xs : Nat → Int32} {i : Int32} {B cells slots : Nat} {mem : Mem} (hl0 : l.stackTraces = false) (C : Cx G p l room_1 d s mid #[.ref b] meth c code 8 RL) (hd : 299 ≤ d) (hN : NCS s) (hX : va_X b L xs s s.heap) (hbl : b < s.heap.size) (hbA : ¬ G.2.1 ≤ b) (hin : ∀ z : Int, 0 ≤ z → z ≤ 6 → vp_in (i + iI z) L) (hB : B ≤ 100000) (hI : Inv B mem) (hR : Rp G mr0 N0 mem s H locs) (hl : lv_has ls 8 (five G b i)) (hcs : cells + 1 ≤ 601024 ∧ slots + 6 ≤ 7293034) (kk : ∀ (H : Heap) (locs : List Loc) (ls : Array Slot) (mem : Mem), lv_has ls 8 (five G b i) → Rp G mr0 N0 mem s H locs → Inv (B + 101) mem → W p l e room_1 s mid #[.ref b] below meth c H locs (cells + 1) (slots + 6) Q (F0 mid 3285 ls [])) : W p l e room_1 s mid #[.ref b] below meth c H locs cells slots Q (F0 mid 2758 ls []) := by
  have hx := C.1.1
  have hb := C.1.2.1
  obtain ⟨x1a, ex1a⟩ : ∃ z : Int32, z = xs (i + (1 : Int32)).toNatClampNeg := ⟨_, rfl⟩
  obtain ⟨z1a, ez1a⟩ : ∃ z : Bool, z = decide (x1a ≠ 0) := ⟨_, rfl⟩
  obtain ⟨o4, z4, m3, v4, m4, hW, e2, hz, hv, inv, hc4, hs4⟩ := P_target l hl0 G hI hB z1a
  refine lv_aload_n hx hb (dk DLaw27 12 rfl) rfl (lv_at hl 1 rfl) ?_
  refine r_arg (k := (1 : Int32)) C hX hbl hbA hR (lv_at hl 0 rfl) (lv_at hl 4 rfl) (hin 1 (by decide) (by decide)) ex1a.symm (dk DLaw27 13 rfl) (dk DLaw27 14 rfl) (dk DLaw27 15 rfl) (by decide) (dk DLaw27 16 rfl) (dk DLaw27 17 rfl) ?_
  refine r_bool C ez1a (dk DLaw27 18 rfl) (dk DLaw27 19 rfl) (dk DLaw27 20 rfl) (dk DLaw27 21 rfl) ?_
  refine lv_aload_n hx hb (dk DLaw27 22 rfl) rfl (lv_at hl 3 rfl) ?_
  refine r_callW (As := [.ref (G.2.1 + 0), .int (b2i z1a), .ref (G.2.1 + 91)]) (rest := []) C hN hR hW (by omega) (by decide) wS_298 rfl rfl (Nat.le_of_ble_eq_true rfl) hl.1 ⟨show cells + cxO o4 ≤ 601024 by omega, show slots + sxO o4 ≤ 7293034 by omega⟩ (dk DLaw27 23 rfl) (fun H locs hR => ?_)
  refine lv_istore (lv' := (5, .int z4) :: five G b i) hx hb (dk DLaw27 24 rfl) hl (by decide) rfl (fun ls hl => ?_)
  refine lv_aload_n hx hb (dk DLaw27 25 rfl) rfl (lv_at hl 3 rfl) ?_
  refine r_arg (k := (1 : Int32)) C hX hbl hbA hR (lv_at hl 1 rfl) (lv_at hl 5 rfl) (hin 1 (by decide) (by decide)) ex1a.symm (dk DLaw27 26 rfl) (dk DLaw27 27 rfl) (dk DLaw27 28 rfl) (by decide) (dk DLaw27 29 rfl) (dk DLaw27 30 rfl) ?_
  refine r_bool C ez1a (dk DLaw27 31 rfl) (dk DLaw27 32 rfl) (dk DLaw27 33 rfl) (dk DLaw27 34 rfl) ?_
  refine r_callVi (As := [.int (b2i z1a)]) (rest := []) C hR (C_M_target l hl0 G z1a m3 v4 m4 e2) (by omega) (by decide) ob78 rfl wL_300 rfl rfl (Nat.le_of_ble_eq_true rfl) hl.1 ⟨show cells + cxO o4 ≤ 601024 by omega, show slots + sxO o4 ≤ 7293034 by omega⟩ (dk DLaw27 35 rfl) (fun H locs hR => ?_)
  refine T_int (b := b) (i := i) (tgt := 3285) hl0 C (by omega) hR hl hz hv ⟨show cells + cxO o4 ≤ 601024 by omega, show slots + sxO o4 ≤ 7293034 by omega⟩ wL_172 (dk DLaw27 36 rfl) (dk DLaw27 37 rfl) (dk DLaw27 38 rfl) (dk DLaw27 39 rfl) (dk DLaw27 40 rfl) (dk DLaw27 43 rfl) (dk DLaw27 44 rfl) (dk DLaw27 45 rfl) (dk DLaw27 46 rfl) (dk DLaw27 47 rfl) (dk DLaw27 48 rfl) (dk DLaw27 49 rfl) (dk DLaw27 50 rfl) (dk DLaw27 51 rfl) (dk DLaw27 54 rfl) (by decide) (fun H locs ls hl hR => ?_)
  exact W.widen (by omega) (by omega) (kk H locs ls _ hl hR inv)
set_option maxRecDepth 20000 in
theorem K_40 {p : Program} {l : Launch} {e : Env} {G : GG} {d : Nat} {s : State} {mid : MethodId} {b : Nat} {below : List Frame} {meth : Method} {c : Code} {H : Heap} {locs : List Loc} {ls : Array Slot} {Q : State → Prop} {L : Nat} {xs : Nat → Int32} {i : Int32} {B cells slots : Nat} {mem : Mem} (hl0 : l.stackTraces = false) (C : Cx G p l room_1 d s mid #[.ref b] meth c code 8 RL) (hd : 299 ≤ d) (hN : NCS s) (hX : va_X b L xs s s.heap) (hbl : b < s.heap.size) (hbA : ¬ G.2.1 ≤ b) (hin : ∀ z : Int, 0 ≤ z → z ≤ 6 → vp_in (i + iI z) L) (hB : B ≤ 100000) (hI : Inv B mem) (hR : Rp G mr0 N0 mem s H locs) (hl : lv_has ls 8 (five G b i)) (hcs : cells + 1 ≤ 601024 ∧ slots + 6 ≤ 7293034) (kk : ∀ (H : Heap) (locs : List Loc) (ls : Array Slot) (mem : Mem), lv_has ls 8 (five G b i) → Rp G mr0 N0 mem s H locs → Inv (B + 101) mem → W p l e room_1 s mid #[.ref b] below meth c H locs (cells + 1) (slots + 6) Q (F0 mid 3285 ls [])) : W p l e room_1 s mid #[.ref b] below meth c H locs cells slots Q (F0 mid 2830 ls []) := by
  have hx := C.1.1
  have hb := C.1.2.1
  obtain ⟨x1a, ex1a⟩ : ∃ z : Int32, z = xs (i + (1 : Int32)).toNatClampNeg := ⟨_, rfl⟩
  obtain ⟨o4, z4, m3, v4, m4, hW, e2, hz, hv, inv, hc4, hs4⟩ := P_streak l hl0 G hI hB x1a
  refine lv_aload_n hx hb (dk DLaw27 55 rfl) rfl (lv_at hl 1 rfl) ?_
  refine r_arg (k := (1 : Int32)) C hX hbl hbA hR (lv_at hl 0 rfl) (lv_at hl 4 rfl) (hin 1 (by decide) (by decide)) ex1a.symm (dk DLaw27 56 rfl) (dk DLaw27 57 rfl) (dk DLaw27 58 rfl) (by decide) (dk DLaw27 59 rfl) (dk DLaw28 0 rfl) ?_
  refine lv_aload_n hx hb (dk DLaw28 1 rfl) rfl (lv_at hl 3 rfl) ?_
  refine r_callW (As := [.ref (G.2.1 + 0), .int x1a, .ref (G.2.1 + 91)]) (rest := []) C hN hR hW (by omega) (by decide) wS_301 rfl rfl (Nat.le_of_ble_eq_true rfl) hl.1 ⟨show cells + cxO o4 ≤ 601024 by omega, show slots + sxO o4 ≤ 7293034 by omega⟩ (dk DLaw28 2 rfl) (fun H locs hR => ?_)
  refine lv_istore (lv' := (5, .int z4) :: five G b i) hx hb (dk DLaw28 3 rfl) hl (by decide) rfl (fun ls hl => ?_)
  refine lv_aload_n hx hb (dk DLaw28 4 rfl) rfl (lv_at hl 3 rfl) ?_
  refine r_arg (k := (1 : Int32)) C hX hbl hbA hR (lv_at hl 1 rfl) (lv_at hl 5 rfl) (hin 1 (by decide) (by decide)) ex1a.symm (dk DLaw28 5 rfl) (dk DLaw28 6 rfl) (dk DLaw28 7 rfl) (by decide) (dk DLaw28 8 rfl) (dk DLaw28 9 rfl) ?_
  refine r_callVi (As := [.int x1a]) (rest := []) C hR (C_M_streak l hl0 G x1a m3 v4 m4 e2) (by omega) (by decide) ob78 rfl wL_303 rfl rfl (Nat.le_of_ble_eq_true rfl) hl.1 ⟨show cells + cxO o4 ≤ 601024 by omega, show slots + sxO o4 ≤ 7293034 by omega⟩ (dk DLaw28 10 rfl) (fun H locs hR => ?_)
  refine T_int (b := b) (i := i) (tgt := 3285) hl0 C (by omega) hR hl hz hv ⟨show cells + cxO o4 ≤ 601024 by omega, show slots + sxO o4 ≤ 7293034 by omega⟩ wL_172 (dk DLaw28 11 rfl) (dk DLaw28 12 rfl) (dk DLaw28 13 rfl) (dk DLaw28 14 rfl) (dk DLaw28 15 rfl) (dk DLaw28 18 rfl) (dk DLaw28 19 rfl) (dk DLaw28 20 rfl) (dk DLaw28 21 rfl) (dk DLaw28 22 rfl) (dk DLaw28 23 rfl) (dk DLaw28 24 rfl) (dk DLaw28 25 rfl) (dk DLaw28 26 rfl) (dk DLaw28 29 rfl) (by decide) (fun H locs ls hl hR => ?_)
  exact W.widen (by omega) (by omega) (kk H locs ls _ hl hR inv)
set_option maxRecDepth 20000 in
theorem K_41 {p : Program} {l : Launch} {e : Env} {G : GG} {d : Nat} {s : State} {mid : MethodId} {b : Nat} {below : List Frame} {meth : Method} {c : Code} {H : Heap} {locs : List Loc} {ls : Array Slot} {Q : State → Prop} {L : Nat} {xs : Nat → Int32} {i : Int32} {B cells slots : Nat} {mem : Mem} (hl0 : l.stackTraces = false) (C : Cx G p l room_1 d s mid #[.ref b] meth c code 8 RL) (hd : 299 ≤ d) (hN : NCS s) (hX : va_X b L xs s s.heap) (hbl : b < s.heap.size) (hbA : ¬ G.2.1 ≤ b) (hin : ∀ z : Int, 0 ≤ z → z ≤ 6 → vp_in (i + iI z) L) (hB : B ≤ 100000) (hI : Inv B mem) (hR : Rp G mr0 N0 mem s H locs) (hl : lv_has ls 8 (five G b i)) (hcs : cells + 1 ≤ 601024 ∧ slots + 6 ≤ 7293034) (kk : ∀ (H : Heap) (locs : List Loc) (ls : Array Slot) (mem : Mem), lv_has ls 8 (five G b i) → Rp G mr0 N0 mem s H locs → Inv (B + 101) mem → W p l e room_1 s mid #[.ref b] below meth c H locs (cells + 1) (slots + 6) Q (F0 mid 3285 ls [])) : W p l e room_1 s mid #[.ref b] below meth c H locs cells slots Q (F0 mid 2886 ls []) := by
  have hx := C.1.1
  have hb := C.1.2.1
  obtain ⟨x1a, ex1a⟩ : ∃ z : Int32, z = xs (i + (1 : Int32)).toNatClampNeg := ⟨_, rfl⟩
  obtain ⟨x2a, ex2a⟩ : ∃ z : Int32, z = xs (i + (2 : Int32)).toNatClampNeg := ⟨_, rfl⟩
  obtain ⟨x3a, ex3a⟩ : ∃ z : Int32, z = xs (i + (3 : Int32)).toNatClampNeg := ⟨_, rfl⟩
  obtain ⟨x4a, ex4a⟩ : ∃ z : Int32, z = xs (i + (4 : Int32)).toNatClampNeg := ⟨_, rfl⟩
  obtain ⟨z4a, ez4a⟩ : ∃ z : Bool, z = decide (x4a ≠ 0) := ⟨_, rfl⟩
  obtain ⟨o4, z4, m3, v4, m4, hW, e2, hz, hv, inv, hc4, hs4⟩ := P_table l hl0 G hI hB x1a x2a x3a z4a
  refine lv_aload_n hx hb (dk DLaw28 30 rfl) rfl (lv_at hl 1 rfl) ?_
  refine r_arg (k := (1 : Int32)) C hX hbl hbA hR (lv_at hl 0 rfl) (lv_at hl 4 rfl) (hin 1 (by decide) (by decide)) ex1a.symm (dk DLaw28 31 rfl) (dk DLaw28 32 rfl) (dk DLaw28 33 rfl) (by decide) (dk DLaw28 34 rfl) (dk DLaw28 35 rfl) ?_
  refine r_arg (k := (2 : Int32)) C hX hbl hbA hR (lv_at hl 0 rfl) (lv_at hl 4 rfl) (hin 2 (by decide) (by decide)) ex2a.symm (dk DLaw28 36 rfl) (dk DLaw28 37 rfl) (dk DLaw28 38 rfl) (by decide) (dk DLaw28 39 rfl) (dk DLaw28 40 rfl) ?_
  refine r_arg (k := (3 : Int32)) C hX hbl hbA hR (lv_at hl 0 rfl) (lv_at hl 4 rfl) (hin 3 (by decide) (by decide)) ex3a.symm (dk DLaw28 41 rfl) (dk DLaw28 42 rfl) (dk DLaw28 43 rfl) (by decide) (dk DLaw28 44 rfl) (dk DLaw28 45 rfl) ?_
  refine r_arg (k := (4 : Int32)) C hX hbl hbA hR (lv_at hl 0 rfl) (lv_at hl 4 rfl) (hin 4 (by decide) (by decide)) ex4a.symm (dk DLaw28 46 rfl) (dk DLaw28 47 rfl) (dk DLaw28 48 rfl) (by decide) (dk DLaw28 49 rfl) (dk DLaw28 50 rfl) ?_
  refine r_bool C ez4a (dk DLaw28 51 rfl) (dk DLaw28 52 rfl) (dk DLaw28 53 rfl) (dk DLaw28 54 rfl) ?_
  refine lv_aload_n hx hb (dk DLaw28 55 rfl) rfl (lv_at hl 3 rfl) ?_
  refine r_callW (As := [.ref (G.2.1 + 0), .int x1a, .int x2a, .int x3a, .int (b2i z4a), .ref (G.2.1 + 91)]) (rest := []) C hN hR hW (by omega) (by decide) wS_304 rfl rfl (Nat.le_of_ble_eq_true rfl) hl.1 ⟨show cells + cxO o4 ≤ 601024 by omega, show slots + sxO o4 ≤ 7293034 by omega⟩ (dk DLaw28 56 rfl) (fun H locs hR => ?_)
  refine lv_istore (lv' := (5, .int z4) :: five G b i) hx hb (dk DLaw28 57 rfl) hl (by decide) rfl (fun ls hl => ?_)
  refine lv_aload_n hx hb (dk DLaw28 58 rfl) rfl (lv_at hl 3 rfl) ?_
  refine r_arg (k := (1 : Int32)) C hX hbl hbA hR (lv_at hl 1 rfl) (lv_at hl 5 rfl) (hin 1 (by decide) (by decide)) ex1a.symm (dk DLaw28 59 rfl) (dk DLaw29 0 rfl) (dk DLaw29 1 rfl) (by decide) (dk DLaw29 2 rfl) (dk DLaw29 3 rfl) ?_
  refine r_arg (k := (2 : Int32)) C hX hbl hbA hR (lv_at hl 1 rfl) (lv_at hl 5 rfl) (hin 2 (by decide) (by decide)) ex2a.symm (dk DLaw29 4 rfl) (dk DLaw29 5 rfl) (dk DLaw29 6 rfl) (by decide) (dk DLaw29 7 rfl) (dk DLaw29 8 rfl) ?_
  refine r_arg (k := (3 : Int32)) C hX hbl hbA hR (lv_at hl 1 rfl) (lv_at hl 5 rfl) (hin 3 (by decide) (by decide)) ex3a.symm (dk DLaw29 9 rfl) (dk DLaw29 10 rfl) (dk DLaw29 11 rfl) (by decide) (dk DLaw29 12 rfl) (dk DLaw29 13 rfl) ?_
  refine r_arg (k := (4 : Int32)) C hX hbl hbA hR (lv_at hl 1 rfl) (lv_at hl 5 rfl) (hin 4 (by decide) (by decide)) ex4a.symm (dk DLaw29 14 rfl) (dk DLaw29 15 rfl) (dk DLaw29 16 rfl) (by decide) (dk DLaw29 17 rfl) (dk DLaw29 18 rfl) ?_
  refine r_bool C ez4a (dk DLaw29 19 rfl) (dk DLaw29 20 rfl) (dk DLaw29 21 rfl) (dk DLaw29 22 rfl) ?_
  refine r_callVi (As := [.int x1a, .int x2a, .int x3a, .int (b2i z4a)]) (rest := []) C hR (C_M_table l hl0 G x1a x2a x3a z4a m3 v4 m4 e2) (by omega) (by decide) ob78 rfl wL_307 rfl rfl (Nat.le_of_ble_eq_true rfl) hl.1 ⟨show cells + cxO o4 ≤ 601024 by omega, show slots + sxO o4 ≤ 7293034 by omega⟩ (dk DLaw29 23 rfl) (fun H locs hR => ?_)
  refine T_int (b := b) (i := i) (tgt := 3285) hl0 C (by omega) hR hl hz hv ⟨show cells + cxO o4 ≤ 601024 by omega, show slots + sxO o4 ≤ 7293034 by omega⟩ wL_172 (dk DLaw29 24 rfl) (dk DLaw29 25 rfl) (dk DLaw29 26 rfl) (dk DLaw29 27 rfl) (dk DLaw29 28 rfl) (dk DLaw29 31 rfl) (dk DLaw29 32 rfl) (dk DLaw29 33 rfl) (dk DLaw29 34 rfl) (dk DLaw29 35 rfl) (dk DLaw29 36 rfl) (dk DLaw29 37 rfl) (dk DLaw29 38 rfl) (dk DLaw29 39 rfl) (dk DLaw29 42 rfl) (by decide) (fun H locs ls hl hR => ?_)
  exact W.widen (by omega) (by omega) (kk H locs ls _ hl hR inv)
set_option maxRecDepth 20000 in
theorem K_42 {p : Program} {l : Launch} {e : Env} {G : GG} {d : Nat} {s : State} {mid : MethodId} {b : Nat} {below : List Frame} {meth : Method} {c : Code} {H : Heap} {locs : List Loc} {ls : Array Slot} {Q : State → Prop} {L : Nat} {xs : Nat → Int32} {i : Int32} {B cells slots : Nat} {mem : Mem} (hl0 : l.stackTraces = false) (C : Cx G p l room_1 d s mid #[.ref b] meth c code 8 RL) (hd : 299 ≤ d) (hN : NCS s) (hX : va_X b L xs s s.heap) (hbl : b < s.heap.size) (hbA : ¬ G.2.1 ≤ b) (hin : ∀ z : Int, 0 ≤ z → z ≤ 6 → vp_in (i + iI z) L) (hB : B ≤ 100000) (hI : Inv B mem) (hR : Rp G mr0 N0 mem s H locs) (hl : lv_has ls 8 (five G b i)) (hcs : cells + 1 ≤ 601024 ∧ slots + 6 ≤ 7293034) (kk : ∀ (H : Heap) (locs : List Loc) (ls : Array Slot) (mem : Mem), lv_has ls 8 (five G b i) → Rp G mr0 N0 mem s H locs → Inv (B + 101) mem → W p l e room_1 s mid #[.ref b] below meth c H locs (cells + 1) (slots + 6) Q (F0 mid 3285 ls [])) : W p l e room_1 s mid #[.ref b] below meth c H locs cells slots Q (F0 mid 2994 ls []) := by
  have hx := C.1.1
  have hb := C.1.2.1
  obtain ⟨x1a, ex1a⟩ : ∃ z : Int32, z = xs (i + (1 : Int32)).toNatClampNeg := ⟨_, rfl⟩
  obtain ⟨x2a, ex2a⟩ : ∃ z : Int32, z = xs (i + (2 : Int32)).toNatClampNeg := ⟨_, rfl⟩
  obtain ⟨o4, z4, m3, v4, m4, hW, e2, hz, hv, inv, hc4, hs4⟩ := P_form l hl0 G hI hB x1a x2a
  refine lv_aload_n hx hb (dk DLaw29 43 rfl) rfl (lv_at hl 1 rfl) ?_
  refine r_arg (k := (1 : Int32)) C hX hbl hbA hR (lv_at hl 0 rfl) (lv_at hl 4 rfl) (hin 1 (by decide) (by decide)) ex1a.symm (dk DLaw29 44 rfl) (dk DLaw29 45 rfl) (dk DLaw29 46 rfl) (by decide) (dk DLaw29 47 rfl) (dk DLaw29 48 rfl) ?_
  refine r_arg (k := (2 : Int32)) C hX hbl hbA hR (lv_at hl 0 rfl) (lv_at hl 4 rfl) (hin 2 (by decide) (by decide)) ex2a.symm (dk DLaw29 49 rfl) (dk DLaw29 50 rfl) (dk DLaw29 51 rfl) (by decide) (dk DLaw29 52 rfl) (dk DLaw29 53 rfl) ?_
  refine lv_aload_n hx hb (dk DLaw29 54 rfl) rfl (lv_at hl 3 rfl) ?_
  refine r_callW (As := [.ref (G.2.1 + 0), .int x1a, .int x2a, .ref (G.2.1 + 91)]) (rest := []) C hN hR hW (by omega) (by decide) wS_308 rfl rfl (Nat.le_of_ble_eq_true rfl) hl.1 ⟨show cells + cxO o4 ≤ 601024 by omega, show slots + sxO o4 ≤ 7293034 by omega⟩ (dk DLaw29 55 rfl) (fun H locs hR => ?_)
  refine lv_istore (lv' := (5, .int z4) :: five G b i) hx hb (dk DLaw29 56 rfl) hl (by decide) rfl (fun ls hl => ?_)
  refine lv_aload_n hx hb (dk DLaw29 57 rfl) rfl (lv_at hl 3 rfl) ?_
  refine r_arg (k := (1 : Int32)) C hX hbl hbA hR (lv_at hl 1 rfl) (lv_at hl 5 rfl) (hin 1 (by decide) (by decide)) ex1a.symm (dk DLaw29 58 rfl) (dk DLaw29 59 rfl) (dk DLaw30 0 rfl) (by decide) (dk DLaw30 1 rfl) (dk DLaw30 2 rfl) ?_
  refine r_arg (k := (2 : Int32)) C hX hbl hbA hR (lv_at hl 1 rfl) (lv_at hl 5 rfl) (hin 2 (by decide) (by decide)) ex2a.symm (dk DLaw30 3 rfl) (dk DLaw30 4 rfl) (dk DLaw30 5 rfl) (by decide) (dk DLaw30 6 rfl) (dk DLaw30 7 rfl) ?_
  refine r_callVi (As := [.int x1a, .int x2a]) (rest := []) C hR (C_M_form l hl0 G x1a x2a m3 v4 m4 e2) (by omega) (by decide) ob78 rfl wL_310 rfl rfl (Nat.le_of_ble_eq_true rfl) hl.1 ⟨show cells + cxO o4 ≤ 601024 by omega, show slots + sxO o4 ≤ 7293034 by omega⟩ (dk DLaw30 8 rfl) (fun H locs hR => ?_)
  refine T_int (b := b) (i := i) (tgt := 3285) hl0 C (by omega) hR hl hz hv ⟨show cells + cxO o4 ≤ 601024 by omega, show slots + sxO o4 ≤ 7293034 by omega⟩ wL_172 (dk DLaw30 9 rfl) (dk DLaw30 10 rfl) (dk DLaw30 11 rfl) (dk DLaw30 12 rfl) (dk DLaw30 13 rfl) (dk DLaw30 16 rfl) (dk DLaw30 17 rfl) (dk DLaw30 18 rfl) (dk DLaw30 19 rfl) (dk DLaw30 20 rfl) (dk DLaw30 21 rfl) (dk DLaw30 22 rfl) (dk DLaw30 23 rfl) (dk DLaw30 24 rfl) (dk DLaw30 27 rfl) (by decide) (fun H locs ls hl hR => ?_)
  exact W.widen (by omega) (by omega) (kk H locs ls _ hl hR inv)
set_option maxRecDepth 20000 in
theorem K_43 {p : Program} {l : Launch} {e : Env} {G : GG} {d : Nat} {s : State} {mid : MethodId} {b : Nat} {below : List Frame} {meth : Method} {c : Code} {H : Heap} {locs : List Loc} {ls : Array Slot} {Q : State → Prop} {L : Nat} {xs : Nat → Int32} {i : Int32} {B cells slots : Nat} {mem : Mem} (hl0 : l.stackTraces = false) (C : Cx G p l room_1 d s mid #[.ref b] meth c code 8 RL) (hd : 299 ≤ d) (hN : NCS s) (hX : va_X b L xs s s.heap) (hbl : b < s.heap.size) (hbA : ¬ G.2.1 ≤ b) (hin : ∀ z : Int, 0 ≤ z → z ≤ 6 → vp_in (i + iI z) L) (hB : B ≤ 100000) (hI : Inv B mem) (hR : Rp G mr0 N0 mem s H locs) (hl : lv_has ls 8 (five G b i)) (hcs : cells + 1 ≤ 601024 ∧ slots + 6 ≤ 7293034) (kk : ∀ (H : Heap) (locs : List Loc) (ls : Array Slot) (mem : Mem), lv_has ls 8 (five G b i) → Rp G mr0 N0 mem s H locs → Inv (B + 101) mem → W p l e room_1 s mid #[.ref b] below meth c H locs (cells + 1) (slots + 6) Q (F0 mid 3285 ls [])) : W p l e room_1 s mid #[.ref b] below meth c H locs cells slots Q (F0 mid 3062 ls []) := by
  have hx := C.1.1
  have hb := C.1.2.1
  obtain ⟨x1a, ex1a⟩ : ∃ z : Int32, z = xs (i + (1 : Int32)).toNatClampNeg := ⟨_, rfl⟩
  obtain ⟨x2a, ex2a⟩ : ∃ z : Int32, z = xs (i + (2 : Int32)).toNatClampNeg := ⟨_, rfl⟩
  obtain ⟨o4, z4, m3, v4, m4, hW, e2, hz, hv, inv, hc4, hs4⟩ := P_hardest l hl0 G hI hB x1a x2a
  refine lv_aload_n hx hb (dk DLaw30 28 rfl) rfl (lv_at hl 1 rfl) ?_
  refine r_arg (k := (1 : Int32)) C hX hbl hbA hR (lv_at hl 0 rfl) (lv_at hl 4 rfl) (hin 1 (by decide) (by decide)) ex1a.symm (dk DLaw30 29 rfl) (dk DLaw30 30 rfl) (dk DLaw30 31 rfl) (by decide) (dk DLaw30 32 rfl) (dk DLaw30 33 rfl) ?_
  refine r_arg (k := (2 : Int32)) C hX hbl hbA hR (lv_at hl 0 rfl) (lv_at hl 4 rfl) (hin 2 (by decide) (by decide)) ex2a.symm (dk DLaw30 34 rfl) (dk DLaw30 35 rfl) (dk DLaw30 36 rfl) (by decide) (dk DLaw30 37 rfl) (dk DLaw30 38 rfl) ?_
  refine lv_aload_n hx hb (dk DLaw30 39 rfl) rfl (lv_at hl 3 rfl) ?_
  refine r_callW (As := [.ref (G.2.1 + 0), .int x1a, .int x2a, .ref (G.2.1 + 91)]) (rest := []) C hN hR hW (by omega) (by decide) wS_311 rfl rfl (Nat.le_of_ble_eq_true rfl) hl.1 ⟨show cells + cxO o4 ≤ 601024 by omega, show slots + sxO o4 ≤ 7293034 by omega⟩ (dk DLaw30 40 rfl) (fun H locs hR => ?_)
  refine lv_istore (lv' := (5, .int z4) :: five G b i) hx hb (dk DLaw30 41 rfl) hl (by decide) rfl (fun ls hl => ?_)
  refine lv_aload_n hx hb (dk DLaw30 42 rfl) rfl (lv_at hl 3 rfl) ?_
  refine r_arg (k := (1 : Int32)) C hX hbl hbA hR (lv_at hl 1 rfl) (lv_at hl 5 rfl) (hin 1 (by decide) (by decide)) ex1a.symm (dk DLaw30 43 rfl) (dk DLaw30 44 rfl) (dk DLaw30 45 rfl) (by decide) (dk DLaw30 46 rfl) (dk DLaw30 47 rfl) ?_
  refine r_arg (k := (2 : Int32)) C hX hbl hbA hR (lv_at hl 1 rfl) (lv_at hl 5 rfl) (hin 2 (by decide) (by decide)) ex2a.symm (dk DLaw30 48 rfl) (dk DLaw30 49 rfl) (dk DLaw30 50 rfl) (by decide) (dk DLaw30 51 rfl) (dk DLaw30 52 rfl) ?_
  refine r_callVi (As := [.int x1a, .int x2a]) (rest := []) C hR (C_M_hardest l hl0 G x1a x2a m3 v4 m4 e2) (by omega) (by decide) ob78 rfl wL_313 rfl rfl (Nat.le_of_ble_eq_true rfl) hl.1 ⟨show cells + cxO o4 ≤ 601024 by omega, show slots + sxO o4 ≤ 7293034 by omega⟩ (dk DLaw30 53 rfl) (fun H locs hR => ?_)
  refine T_int (b := b) (i := i) (tgt := 3285) hl0 C (by omega) hR hl hz hv ⟨show cells + cxO o4 ≤ 601024 by omega, show slots + sxO o4 ≤ 7293034 by omega⟩ wL_172 (dk DLaw30 54 rfl) (dk DLaw30 55 rfl) (dk DLaw30 56 rfl) (dk DLaw30 57 rfl) (dk DLaw30 58 rfl) (dk DLaw31 1 rfl) (dk DLaw31 2 rfl) (dk DLaw31 3 rfl) (dk DLaw31 4 rfl) (dk DLaw31 5 rfl) (dk DLaw31 6 rfl) (dk DLaw31 7 rfl) (dk DLaw31 8 rfl) (dk DLaw31 9 rfl) (dk DLaw31 12 rfl) (by decide) (fun H locs ls hl hR => ?_)
  exact W.widen (by omega) (by omega) (kk H locs ls _ hl hR inv)
set_option maxRecDepth 20000 in
theorem K_44 {p : Program} {l : Launch} {e : Env} {G : GG} {d : Nat} {s : State} {mid : MethodId} {b : Nat} {below : List Frame} {meth : Method} {c : Code} {H : Heap} {locs : List Loc} {ls : Array Slot} {Q : State → Prop} {L : Nat} {xs : Nat → Int32} {i : Int32} {B cells slots : Nat} {mem : Mem} (hl0 : l.stackTraces = false) (C : Cx G p l room_1 d s mid #[.ref b] meth c code 8 RL) (hd : 299 ≤ d) (hN : NCS s) (hX : va_X b L xs s s.heap) (hbl : b < s.heap.size) (hbA : ¬ G.2.1 ≤ b) (hin : ∀ z : Int, 0 ≤ z → z ≤ 6 → vp_in (i + iI z) L) (hB : B ≤ 100000) (hI : Inv B mem) (hR : Rp G mr0 N0 mem s H locs) (hl : lv_has ls 8 (five G b i)) (hcs : cells + 1 ≤ 601024 ∧ slots + 6 ≤ 7293034) (kk : ∀ (H : Heap) (locs : List Loc) (ls : Array Slot) (mem : Mem), lv_has ls 8 (five G b i) → Rp G mr0 N0 mem s H locs → Inv (B + 101) mem → W p l e room_1 s mid #[.ref b] below meth c H locs (cells + 1) (slots + 6) Q (F0 mid 3285 ls [])) : W p l e room_1 s mid #[.ref b] below meth c H locs cells slots Q (F0 mid 3130 ls []) := by
  have hx := C.1.1
  have hb := C.1.2.1
  obtain ⟨x1a, ex1a⟩ : ∃ z : Int32, z = xs (i + (1 : Int32)).toNatClampNeg := ⟨_, rfl⟩
  obtain ⟨x2a, ex2a⟩ : ∃ z : Int32, z = xs (i + (2 : Int32)).toNatClampNeg := ⟨_, rfl⟩
  obtain ⟨o4, z4, m3, v4, m4, hW, e2, hz, hv, inv, hc4, hs4⟩ := P_log l hl0 G hI hB x1a x2a
  refine lv_aload_n hx hb (dk DLaw31 13 rfl) rfl (lv_at hl 1 rfl) ?_
  refine r_arg (k := (1 : Int32)) C hX hbl hbA hR (lv_at hl 0 rfl) (lv_at hl 4 rfl) (hin 1 (by decide) (by decide)) ex1a.symm (dk DLaw31 14 rfl) (dk DLaw31 15 rfl) (dk DLaw31 16 rfl) (by decide) (dk DLaw31 17 rfl) (dk DLaw31 18 rfl) ?_
  refine r_arg (k := (2 : Int32)) C hX hbl hbA hR (lv_at hl 0 rfl) (lv_at hl 4 rfl) (hin 2 (by decide) (by decide)) ex2a.symm (dk DLaw31 19 rfl) (dk DLaw31 20 rfl) (dk DLaw31 21 rfl) (by decide) (dk DLaw31 22 rfl) (dk DLaw31 23 rfl) ?_
  refine lv_aload_n hx hb (dk DLaw31 24 rfl) rfl (lv_at hl 3 rfl) ?_
  refine r_callW (As := [.ref (G.2.1 + 0), .int x1a, .int x2a, .ref (G.2.1 + 91)]) (rest := []) C hN hR hW (by omega) (by decide) wS_314 rfl rfl (Nat.le_of_ble_eq_true rfl) hl.1 ⟨show cells + cxO o4 ≤ 601024 by omega, show slots + sxO o4 ≤ 7293034 by omega⟩ (dk DLaw31 25 rfl) (fun H locs hR => ?_)
  refine lv_istore (lv' := (5, .int z4) :: five G b i) hx hb (dk DLaw31 26 rfl) hl (by decide) rfl (fun ls hl => ?_)
  refine lv_aload_n hx hb (dk DLaw31 27 rfl) rfl (lv_at hl 3 rfl) ?_
  refine r_arg (k := (1 : Int32)) C hX hbl hbA hR (lv_at hl 1 rfl) (lv_at hl 5 rfl) (hin 1 (by decide) (by decide)) ex1a.symm (dk DLaw31 28 rfl) (dk DLaw31 29 rfl) (dk DLaw31 30 rfl) (by decide) (dk DLaw31 31 rfl) (dk DLaw31 32 rfl) ?_
  refine r_arg (k := (2 : Int32)) C hX hbl hbA hR (lv_at hl 1 rfl) (lv_at hl 5 rfl) (hin 2 (by decide) (by decide)) ex2a.symm (dk DLaw31 33 rfl) (dk DLaw31 34 rfl) (dk DLaw31 35 rfl) (by decide) (dk DLaw31 36 rfl) (dk DLaw31 37 rfl) ?_
  refine r_callVi (As := [.int x1a, .int x2a]) (rest := []) C hR (C_M_log l hl0 G x1a x2a m3 v4 m4 e2) (by omega) (by decide) ob78 rfl wL_316 rfl rfl (Nat.le_of_ble_eq_true rfl) hl.1 ⟨show cells + cxO o4 ≤ 601024 by omega, show slots + sxO o4 ≤ 7293034 by omega⟩ (dk DLaw31 38 rfl) (fun H locs hR => ?_)
  refine T_int (b := b) (i := i) (tgt := 3285) hl0 C (by omega) hR hl hz hv ⟨show cells + cxO o4 ≤ 601024 by omega, show slots + sxO o4 ≤ 7293034 by omega⟩ wL_172 (dk DLaw31 39 rfl) (dk DLaw31 40 rfl) (dk DLaw31 41 rfl) (dk DLaw31 42 rfl) (dk DLaw31 43 rfl) (dk DLaw31 46 rfl) (dk DLaw31 47 rfl) (dk DLaw31 48 rfl) (dk DLaw31 49 rfl) (dk DLaw31 50 rfl) (dk DLaw31 51 rfl) (dk DLaw31 52 rfl) (dk DLaw31 53 rfl) (dk DLaw31 54 rfl) (dk DLaw31 57 rfl) (by decide) (fun H locs ls hl hR => ?_)
  exact W.widen (by omega) (by omega) (kk H locs ls _ hl hR inv)
set_option maxRecDepth 20000 in
theorem K_45 {p : Program} {l : Launch} {e : Env} {G : GG} {d : Nat} {s : State} {mid : MethodId} {b : Nat} {below : List Frame} {meth : Method} {c : Code} {H : Heap} {locs : List Loc} {ls : Array Slot} {Q : State → Prop} {L : Nat} {xs : Nat → Int32} {i : Int32} {B cells slots : Nat} {mem : Mem} (hl0 : l.stackTraces = false) (C : Cx G p l room_1 d s mid #[.ref b] meth c code 8 RL) (hd : 299 ≤ d) (hN : NCS s) (hX : va_X b L xs s s.heap) (hbl : b < s.heap.size) (hbA : ¬ G.2.1 ≤ b) (hin : ∀ z : Int, 0 ≤ z → z ≤ 6 → vp_in (i + iI z) L) (hB : B ≤ 100000) (hI : Inv B mem) (hR : Rp G mr0 N0 mem s H locs) (hl : lv_has ls 8 (five G b i)) (hcs : cells + 1 ≤ 601024 ∧ slots + 6 ≤ 7293034) (kk : ∀ (H : Heap) (locs : List Loc) (ls : Array Slot) (mem : Mem), lv_has ls 8 (five G b i) → Rp G mr0 N0 mem s H locs → Inv (B + 101) mem → W p l e room_1 s mid #[.ref b] below meth c H locs (cells + 1) (slots + 6) Q (F0 mid 3285 ls [])) : W p l e room_1 s mid #[.ref b] below meth c H locs cells slots Q (F0 mid 3198 ls []) := by
  have hx := C.1.1
  have hb := C.1.2.1
  obtain ⟨x1a, ex1a⟩ : ∃ z : Int32, z = xs (i + (1 : Int32)).toNatClampNeg := ⟨_, rfl⟩
  obtain ⟨law, n, mg, wd, tx, bc, t, iv⟩ := hI
  obtain ⟨rT, m1, e1, rM, m2, e2, hv, inv⟩ := seed_op iv x1a
  have inv : Inv (B + 101) m2 := inv.up (by omega)
  refine lv_aload_n hx hb (dk DLaw31 58 rfl) rfl (lv_at hl 1 rfl) ?_
  refine r_arg (k := (1 : Int32)) C hX hbl hbA hR (lv_at hl 0 rfl) (lv_at hl 4 rfl) (hin 1 (by decide) (by decide)) ex1a.symm (dk DLaw31 59 rfl) (dk DLaw32 0 rfl) (dk DLaw32 1 rfl) (by decide) (dk DLaw32 2 rfl) (dk DLaw32 3 rfl) ?_
  refine r_callVi (As := [.int x1a]) (rest := []) C hR (C_T_seed l hl0 G x1a mem rT m1 e1) (by omega) (by decide) ob0 rfl wL_317 rfl rfl (Nat.le_of_ble_eq_true rfl) hl.1 ⟨show cells ≤ 601024 by omega, show slots ≤ 7293034 by omega⟩ (dk DLaw32 4 rfl) (fun H locs hR => ?_)
  refine lv_aload_n hx hb (dk DLaw32 5 rfl) rfl (lv_at hl 2 rfl) ?_
  refine r_arg (k := (1 : Int32)) C hX hbl hbA hR (lv_at hl 0 rfl) (lv_at hl 4 rfl) (hin 1 (by decide) (by decide)) ex1a.symm (dk DLaw32 6 rfl) (dk DLaw32 7 rfl) (dk DLaw32 8 rfl) (by decide) (dk DLaw32 9 rfl) (dk DLaw32 10 rfl) ?_
  refine r_callVi (As := [.int x1a]) (rest := [.int rT]) C hR (C_M_seed l hl0 G x1a m1 rM m2 e2) (by omega) (by decide) ob78 rfl wL_320 rfl rfl (Nat.le_of_ble_eq_true rfl) hl.1 ⟨show cells ≤ 601024 by omega, show slots ≤ 7293034 by omega⟩ (dk DLaw32 11 rfl) (fun H locs hR => ?_)
  refine lv_icmp_eq (tgt := 3285) hx hb (dk DLaw32 12 rfl) (by decide) (fun _ => ?_) (fun h => absurd (by rw [hv]) h)
  exact W.widen (by omega) (by omega) (kk H locs ls _ hl hR inv)
set_option maxRecDepth 20000 in
theorem K_46 {p : Program} {l : Launch} {e : Env} {G : GG} {d : Nat} {s : State} {mid : MethodId} {b : Nat} {below : List Frame} {meth : Method} {c : Code} {H : Heap} {locs : List Loc} {ls : Array Slot} {Q : State → Prop} {L : Nat} {xs : Nat → Int32} {i : Int32} {B cells slots : Nat} {mem : Mem} (hl0 : l.stackTraces = false) (C : Cx G p l room_1 d s mid #[.ref b] meth c code 8 RL) (hd : 299 ≤ d) (hN : NCS s) (hX : va_X b L xs s s.heap) (hbl : b < s.heap.size) (hbA : ¬ G.2.1 ≤ b) (hin : ∀ z : Int, 0 ≤ z → z ≤ 6 → vp_in (i + iI z) L) (hB : B ≤ 100000) (hI : Inv B mem) (hR : Rp G mr0 N0 mem s H locs) (hl : lv_has ls 8 (five G b i)) (hcs : cells + 1 ≤ 601024 ∧ slots + 6 ≤ 7293034) (kk : ∀ (H : Heap) (locs : List Loc) (ls : Array Slot) (mem : Mem), lv_has ls 8 (five G b i) → Rp G mr0 N0 mem s H locs → Inv (B + 101) mem → W p l e room_1 s mid #[.ref b] below meth c H locs (cells + 1) (slots + 6) Q (F0 mid 3285 ls [])) : W p l e room_1 s mid #[.ref b] below meth c H locs cells slots Q (F0 mid 3223 ls []) := by
  have hx := C.1.1
  have hb := C.1.2.1
  obtain ⟨law, n, mg, wd, tx, bc, t, iv⟩ := hI
  obtain ⟨rT, m1, e1, rM, m2, e2, hv, inv⟩ := undo_op iv 
  have inv : Inv (B + 101) m2 := inv.up (by omega)
  refine lv_aload_n hx hb (dk DLaw32 15 rfl) rfl (lv_at hl 1 rfl) ?_
  refine r_callVi (As := []) (rest := []) C hR (C_T_undo l hl0 G  mem rT m1 e1) (by omega) (by decide) ob0 rfl wL_321 rfl rfl (Nat.le_of_ble_eq_true rfl) hl.1 ⟨show cells ≤ 601024 by omega, show slots ≤ 7293034 by omega⟩ (dk DLaw32 16 rfl) (fun H locs hR => ?_)
  refine lv_aload_n hx hb (dk DLaw32 17 rfl) rfl (lv_at hl 2 rfl) ?_
  refine r_callVi (As := []) (rest := [.int (b2i rT)]) C hR (C_M_undo l hl0 G  m1 rM m2 e2) (by omega) (by decide) ob78 rfl wL_325 rfl rfl (Nat.le_of_ble_eq_true rfl) hl.1 ⟨show cells ≤ 601024 by omega, show slots ≤ 7293034 by omega⟩ (dk DLaw32 18 rfl) (fun H locs hR => ?_)
  refine lv_icmp_eq (tgt := 3285) hx hb (dk DLaw32 19 rfl) (by decide) (fun _ => ?_) (fun h => absurd (by rw [hv]) h)
  exact W.widen (by omega) (by omega) (kk H locs ls _ hl hR inv)
set_option maxRecDepth 20000 in
theorem K_47 {p : Program} {l : Launch} {e : Env} {G : GG} {d : Nat} {s : State} {mid : MethodId} {b : Nat} {below : List Frame} {meth : Method} {c : Code} {H : Heap} {locs : List Loc} {ls : Array Slot} {Q : State → Prop} {L : Nat} {xs : Nat → Int32} {i : Int32} {B cells slots : Nat} {mem : Mem} (hl0 : l.stackTraces = false) (C : Cx G p l room_1 d s mid #[.ref b] meth c code 8 RL) (hd : 299 ≤ d) (hN : NCS s) (hX : va_X b L xs s s.heap) (hbl : b < s.heap.size) (hbA : ¬ G.2.1 ≤ b) (hin : ∀ z : Int, 0 ≤ z → z ≤ 6 → vp_in (i + iI z) L) (hB : B ≤ 100000) (hI : Inv B mem) (hR : Rp G mr0 N0 mem s H locs) (hl : lv_has ls 8 (five G b i)) (hcs : cells + 1 ≤ 601024 ∧ slots + 6 ≤ 7293034) (kk : ∀ (H : Heap) (locs : List Loc) (ls : Array Slot) (mem : Mem), lv_has ls 8 (five G b i) → Rp G mr0 N0 mem s H locs → Inv (B + 101) mem → W p l e room_1 s mid #[.ref b] below meth c H locs (cells + 1) (slots + 6) Q (F0 mid 3285 ls [])) : W p l e room_1 s mid #[.ref b] below meth c H locs cells slots Q (F0 mid 3236 ls []) := by
  have hx := C.1.1
  have hb := C.1.2.1
  obtain ⟨law, n, mg, wd, tx, bc, t, iv⟩ := hI
  obtain ⟨rT, m1, e1, rM, m2, e2, inv⟩ := image_op iv 
  have inv : Inv (B + 101) m2 := inv.up (by omega)
  refine lv_aload_n hx hb (dk DLaw32 22 rfl) rfl (lv_at hl 1 rfl) ?_
  refine r_callVv (As := []) (rest := []) C hR (C_T_image l hl0 G  mem rT m1 e1) (by omega) (by decide) ob0 rfl wL_326 rfl rfl (Nat.le_of_ble_eq_true rfl) hl.1 ⟨show cells ≤ 601024 by omega, show slots ≤ 7293034 by omega⟩ (dk DLaw32 23 rfl) (fun H locs hR => ?_)
  refine lv_aload_n hx hb (dk DLaw32 24 rfl) rfl (lv_at hl 2 rfl) ?_
  refine r_callVv (As := []) (rest := []) C hR (C_M_image l hl0 G  m1 rM m2 e2) (by omega) (by decide) ob78 rfl wL_329 rfl rfl (Nat.le_of_ble_eq_true rfl) hl.1 ⟨show cells ≤ 601024 by omega, show slots ≤ 7293034 by omega⟩ (dk DLaw32 25 rfl) (fun H locs hR => ?_)
  refine lv_goto (tgt := 3285) hx hb (dk DLaw32 26 rfl) (by decide) ?_
  exact W.widen (by omega) (by omega) (kk H locs ls _ hl hR inv)
set_option maxRecDepth 20000 in
theorem K_48 {p : Program} {l : Launch} {e : Env} {G : GG} {d : Nat} {s : State} {mid : MethodId} {b : Nat} {below : List Frame} {meth : Method} {c : Code} {H : Heap} {locs : List Loc} {ls : Array Slot} {Q : State → Prop} {L : Nat} {xs : Nat → Int32} {i : Int32} {B cells slots : Nat} {mem : Mem} (hl0 : l.stackTraces = false) (C : Cx G p l room_1 d s mid #[.ref b] meth c code 8 RL) (hd : 299 ≤ d) (hN : NCS s) (hX : va_X b L xs s s.heap) (hbl : b < s.heap.size) (hbA : ¬ G.2.1 ≤ b) (hin : ∀ z : Int, 0 ≤ z → z ≤ 6 → vp_in (i + iI z) L) (hB : B ≤ 100000) (hI : Inv B mem) (hR : Rp G mr0 N0 mem s H locs) (hl : lv_has ls 8 (five G b i)) (hcs : cells + 1 ≤ 601024 ∧ slots + 6 ≤ 7293034) (kk : ∀ (H : Heap) (locs : List Loc) (ls : Array Slot) (mem : Mem), lv_has ls 8 (five G b i) → Rp G mr0 N0 mem s H locs → Inv (B + 101) mem → W p l e room_1 s mid #[.ref b] below meth c H locs (cells + 1) (slots + 6) Q (F0 mid 3285 ls [])) : W p l e room_1 s mid #[.ref b] below meth c H locs cells slots Q (F0 mid 3247 ls []) := by
  have hx := C.1.1
  have hb := C.1.2.1
  obtain ⟨law, n, mg, wd, tx, bc, t, iv⟩ := hI
  obtain ⟨rT, m1, e1, rM, m2, e2, hv, inv⟩ := back_op iv 
  have inv : Inv (B + 101) m2 := inv.up (by omega)
  refine lv_aload_n hx hb (dk DLaw32 27 rfl) rfl (lv_at hl 1 rfl) ?_
  refine r_callVi (As := []) (rest := []) C hR (C_T_back l hl0 G  mem rT m1 e1) (by omega) (by decide) ob0 rfl wL_330 rfl rfl (Nat.le_of_ble_eq_true rfl) hl.1 ⟨show cells ≤ 601024 by omega, show slots ≤ 7293034 by omega⟩ (dk DLaw32 28 rfl) (fun H locs hR => ?_)
  refine lv_aload_n hx hb (dk DLaw32 29 rfl) rfl (lv_at hl 2 rfl) ?_
  refine r_callVi (As := []) (rest := [.int (b2i rT)]) C hR (C_M_back l hl0 G  m1 rM m2 e2) (by omega) (by decide) ob78 rfl wL_333 rfl rfl (Nat.le_of_ble_eq_true rfl) hl.1 ⟨show cells ≤ 601024 by omega, show slots ≤ 7293034 by omega⟩ (dk DLaw32 30 rfl) (fun H locs hR => ?_)
  refine lv_icmp_eq (tgt := 3285) hx hb (dk DLaw32 31 rfl) (by decide) (fun _ => ?_) (fun h => absurd (by rw [hv]) h)
  exact W.widen (by omega) (by omega) (kk H locs ls _ hl hR inv)
set_option maxRecDepth 20000 in
theorem K_49 {p : Program} {l : Launch} {e : Env} {G : GG} {d : Nat} {s : State} {mid : MethodId} {b : Nat} {below : List Frame} {meth : Method} {c : Code} {H : Heap} {locs : List Loc} {ls : Array Slot} {Q : State → Prop} {L : Nat} {xs : Nat → Int32} {i : Int32} {B cells slots : Nat} {mem : Mem} (hl0 : l.stackTraces = false) (C : Cx G p l room_1 d s mid #[.ref b] meth c code 8 RL) (hd : 299 ≤ d) (hN : NCS s) (hX : va_X b L xs s s.heap) (hbl : b < s.heap.size) (hbA : ¬ G.2.1 ≤ b) (hin : ∀ z : Int, 0 ≤ z → z ≤ 6 → vp_in (i + iI z) L) (hB : B ≤ 100000) (hI : Inv B mem) (hR : Rp G mr0 N0 mem s H locs) (hl : lv_has ls 8 (five G b i)) (hcs : cells + 1 ≤ 601024 ∧ slots + 6 ≤ 7293034) (kk : ∀ (H : Heap) (locs : List Loc) (ls : Array Slot) (mem : Mem), lv_has ls 8 (five G b i) → Rp G mr0 N0 mem s H locs → Inv (B + 101) mem → W p l e room_1 s mid #[.ref b] below meth c H locs (cells + 1) (slots + 6) Q (F0 mid 3285 ls [])) : W p l e room_1 s mid #[.ref b] below meth c H locs cells slots Q (F0 mid 3260 ls []) := by
  have hx := C.1.1
  have hb := C.1.2.1
  obtain ⟨x1a, ex1a⟩ : ∃ z : Int32, z = xs (i + (1 : Int32)).toNatClampNeg := ⟨_, rfl⟩
  obtain ⟨law, n, mg, wd, tx, bc, t, iv⟩ := hI
  obtain ⟨rT, m1, e1, rM, m2, e2, hv, inv⟩ := count_op iv x1a
  have inv : Inv (B + 101) m2 := inv.up (by omega)
  refine lv_aload_n hx hb (dk DLaw32 34 rfl) rfl (lv_at hl 1 rfl) ?_
  refine r_arg (k := (1 : Int32)) C hX hbl hbA hR (lv_at hl 0 rfl) (lv_at hl 4 rfl) (hin 1 (by decide) (by decide)) ex1a.symm (dk DLaw32 35 rfl) (dk DLaw32 36 rfl) (dk DLaw32 37 rfl) (by decide) (dk DLaw32 38 rfl) (dk DLaw32 39 rfl) ?_
  refine r_callVi (As := [.int x1a]) (rest := []) C hR (C_T_count l hl0 G x1a mem rT m1 e1) (by omega) (by decide) ob0 rfl wL_334 rfl rfl (Nat.le_of_ble_eq_true rfl) hl.1 ⟨show cells ≤ 601024 by omega, show slots ≤ 7293034 by omega⟩ (dk DLaw32 40 rfl) (fun H locs hR => ?_)
  refine lv_aload_n hx hb (dk DLaw32 41 rfl) rfl (lv_at hl 2 rfl) ?_
  refine r_arg (k := (1 : Int32)) C hX hbl hbA hR (lv_at hl 0 rfl) (lv_at hl 4 rfl) (hin 1 (by decide) (by decide)) ex1a.symm (dk DLaw32 42 rfl) (dk DLaw32 43 rfl) (dk DLaw32 44 rfl) (by decide) (dk DLaw32 45 rfl) (dk DLaw32 46 rfl) ?_
  refine r_callVi (As := [.int x1a]) (rest := [.int rT]) C hR (C_M_count l hl0 G x1a m1 rM m2 e2) (by omega) (by decide) ob78 rfl wL_337 rfl rfl (Nat.le_of_ble_eq_true rfl) hl.1 ⟨show cells ≤ 601024 by omega, show slots ≤ 7293034 by omega⟩ (dk DLaw32 47 rfl) (fun H locs hR => ?_)
  refine lv_icmp_eq (tgt := 3285) hx hb (dk DLaw32 48 rfl) (by decide) (fun _ => ?_) (fun h => absurd (by rw [hv]) h)
  exact W.widen (by omega) (by omega) (kk H locs ls _ hl hR inv)
