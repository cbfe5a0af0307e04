set_option maxHeartbeats 4000000 in
set_option maxRecDepth 100000 in
theorem C_T_mustBeBelow (l : Launch) (hl0 : l.stackTraces = false) (G : GG) (a1 : Int32) (a2 : Int32) (m0 : Mem) (v : Nat ⊕ Unit) (m' : Mem) (hF : F_T_mustBeBelow a1 a2 m0 = some (v, m')) : CtX l G mr0 N0 yX10_mustBeBelow cX10_mustBeBelow 3 none 8 [.ref (G.2.1 + 0), .int a1, .int a2] m0 (ouV v) m' := by
  refine CtX_of hl0 (by decide) (Nat.le_of_ble_eq_true rfl) ?_
  intro p e s mid args below meth c ls C hrt hex hl hR
  have hx := C.1.1
  have hb := C.1.2.1
  have hl : lv_has ls 3 [(0, .ref (G.2.1 + 0)), (1, .int a1), (2, .int a2)] := hl
  unfold F_T_mustBeBelow at hF
  refine lv_iload_n hx hb (dk DX10_mustBeBelow 0 rfl) rfl (lv_at hl 1 rfl) ?_
  obtain ⟨k9_1, ek9_1, hF⟩ := lt_ex hF
  have J9 : ∀ (m1 : Mem) (H : Heap) (locs : List Loc) (ls : Array Slot), lv_has ls 3 [] → Rp G mr0 N0 m1 s H locs → k9_1  m1 = some (v, m') → W p l e (rmX 8 (ouV v)) s mid args below meth c H locs 0 0 (ZX below G mr0 N0 (ouV v) m' args s) (F0 mid 9 ls []) := by
    intro  m1 H locs ls hl hR hF
    rw [ek9_1] at hF
    cases hF
    exact r_throwW C hex hR tX10_422 strm_X10_420 (by decide) (Nat.le_of_ble_eq_true rfl) hl.1 (dk DX10_mustBeBelow 5 rfl) (dk DX10_mustBeBelow 6 rfl) (dk DX10_mustBeBelow 7 rfl) (dk DX10_mustBeBelow 8 rfl) (dk DX10_mustBeBelow 9 rfl)
  refine lv_if_lt (tgt := 9) hx hb (dk DX10_mustBeBelow 1 rfl) (by decide) (fun c1 => ?_) (fun c1 => ?_)
  · have hF := if_t c1 hF
    exact J9 m0 _ _ ls (lv_sub hl [] rfl) hR hF
  · have hF := if_f c1 hF
    refine lv_iload_n hx hb (dk DX10_mustBeBelow 2 rfl) rfl (lv_at hl 1 rfl) ?_
    refine lv_iload_n hx hb (dk DX10_mustBeBelow 3 rfl) rfl (lv_at hl 2 rfl) ?_
    refine lv_icmp_lt (tgt := 20) hx hb (dk DX10_mustBeBelow 4 rfl) (by decide) (fun c6 => ?_) (fun c6 => ?_)
    · have hF := if_t c6 hF
      cases hF
      exact x_vret C hrt hR (dk DX10_mustBeBelow 10 rfl)
    · have hF := if_f c6 hF
      exact J9 m0 _ _ ls (lv_sub hl [] rfl) hR hF
set_option maxHeartbeats 4000000 in
set_option maxRecDepth 100000 in
theorem C_Ma_isOn (l : Launch) (hl0 : l.stackTraces = false) (G : GG) (m0 : Mem) (v : Bool) (m' : Mem) (hF : F_Ma_isOn m0 = some (v, m')) : Ct l G mr0 N0 yX5_isOn cX5_isOn 1 (some .boolean) 1 [.ref (G.2.1 + 16)] m0 (some (.int (b2i v))) m' := by
  refine Ct_of hl0 (by decide) (Nat.le_of_ble_eq_true rfl) ?_
  intro p e s mid args below meth c ls C hrt hl hR
  have hx := C.1.1
  have hb := C.1.2.1
  have hl : lv_has ls 1 [(0, .ref (G.2.1 + 16))] := hl
  unfold F_Ma_isOn at hF
  refine lv_aload_n hx hb (dk DX5_isOn 0 rfl) rfl (lv_at hl 0 rfl) ?_
  refine gX5_9 C hR ob16 (dk DX5_isOn 1 rfl) ?_
  refine lv_iconst (v := (-1 : Int32)) hx hb (dk DX5_isOn 2 rfl) (by decide) ?_
  refine lv_icmp_eq (tgt := 20) hx hb (dk DX5_isOn 3 rfl) (by decide) (fun c5 => ?_) (fun c5 => ?_)
  · have hF := if_t c5 hF
    refine lv_iconst (v := (0 : Int32)) hx hb (dk DX5_isOn 10 rfl) (by decide) ?_
    cases hF
    exact r_zret (v := false) C hrt hR (dk DX5_isOn 11 rfl)
  · have hF := if_f c5 hF
    refine lv_aload_n hx hb (dk DX5_isOn 4 rfl) rfl (lv_at hl 0 rfl) ?_
    refine gX5_24 C hR ob16 (dk DX5_isOn 5 rfl) ?_
    refine lv_iconst (v := (-1 : Int32)) hx hb (dk DX5_isOn 6 rfl) (by decide) ?_
    refine lv_icmp_ne (tgt := 20) hx hb (dk DX5_isOn 7 rfl) (by decide) (fun c13 => ?_) (fun c13 => ?_)
    · have hF := if_f c13 hF
      refine lv_iconst (v := (0 : Int32)) hx hb (dk DX5_isOn 10 rfl) (by decide) ?_
      cases hF
      exact r_zret (v := false) C hrt hR (dk DX5_isOn 11 rfl)
    · have hF := if_t c13 hF
      refine lv_iconst (v := (1 : Int32)) hx hb (dk DX5_isOn 8 rfl) (by decide) ?_
      refine lv_goto (tgt := 21) hx hb (dk DX5_isOn 9 rfl) (by decide) ?_
      cases hF
      exact r_zret (v := true) C hrt hR (dk DX5_isOn 11 rfl)
set_option maxHeartbeats 4000000 in
set_option maxRecDepth 100000 in
theorem C_T_mustBeOn (l : Launch) (hl0 : l.stackTraces = false) (G : GG) (m0 : Mem) (v : Nat ⊕ Unit) (m' : Mem) (hF : F_T_mustBeOn m0 = some (v, m')) : CtX l G mr0 N0 yX10_mustBeOn cX10_mustBeOn 1 none 8 [.ref (G.2.1 + 0)] m0 (ouV v) m' := by
  refine CtX_of hl0 (by decide) (Nat.le_of_ble_eq_true rfl) ?_
  intro p e s mid args below meth c ls C hrt hex hl hR
  have hx := C.1.1
  have hb := C.1.2.1
  have hl : lv_has ls 1 [(0, .ref (G.2.1 + 0))] := hl
  unfold F_T_mustBeOn at hF
  refine lv_aload_n hx hb (dk DX10_mustBeOn 0 rfl) rfl (lv_at hl 0 rfl) ?_
  refine gX10_37 C hR ob0 rf0_5 (dk DX10_mustBeOn 1 rfl) ?_
  obtain ⟨z3, m1, hz2, hF⟩ := bnd_ex hF
  refine r_callVi (As := []) (rest := []) C hR (C_Ma_isOn l hl0 G m0 _ _ hz2) (by decide) (by decide) ob16 rfl wX10_215 rfl rfl (Nat.le_of_ble_eq_true rfl) hl.1 ⟨Nat.zero_le _, Nat.zero_le _⟩ (dk DX10_mustBeOn 2 rfl) (fun H locs hR => ?_)
  refine z_ifne (tgt := 21) hx hb (dk DX10_mustBeOn 3 rfl) (by decide) (fun c7 => ?_) (fun c7 => ?_)
  · have hF := if_t c7 hF
    cases hF
    exact x_vret C hrt hR (dk DX10_mustBeOn 9 rfl)
  · have hF := if_f c7 hF
    cases hF
    exact r_throwW C hex hR tX10_239 strm_X10_423 (by decide) (Nat.le_of_ble_eq_true rfl) hl.1 (dk DX10_mustBeOn 4 rfl) (dk DX10_mustBeOn 5 rfl) (dk DX10_mustBeOn 6 rfl) (dk DX10_mustBeOn 7 rfl) (dk DX10_mustBeOn 8 rfl)
set_option maxHeartbeats 4000000 in
set_option maxRecDepth 100000 in
theorem C_Od_ready (l : Launch) (hl0 : l.stackTraces = false) (G : GG) (a1 : Int32) (a2 : Int32) (a3 : Bool) (m0 : Mem) (v : Unit) (m' : Mem) (hF : F_Od_ready a1 a2 a3 m0 = some (v, m')) : Ct l G mr0 N0 yX7_ready cX7_ready 4 none 1 [.ref (G.2.1 + 2), .int a1, .int a2, .int (b2i a3)] m0 none m' := by
  refine Ct_of hl0 (by decide) (Nat.le_of_ble_eq_true rfl) ?_
  intro p e s mid args below meth c ls C hrt hl hR
  have hx := C.1.1
  have hb := C.1.2.1
  have hl : lv_has ls 4 [(0, .ref (G.2.1 + 2)), (1, .int a1), (2, .int a2), (3, .int (b2i a3))] := hl
  unfold F_Od_ready at hF
  refine lv_aload_n hx hb (dk DX7_ready 0 rfl) rfl (lv_at hl 0 rfl) ?_
  refine gX7_27 C hR ob2 (dk DX7_ready 1 rfl) ?_
  obtain ⟨k31_1, ek31_1, hF⟩ := lt_ex hF
  have J31 : ∀ (m1 : Mem) (H : Heap) (locs : List Loc) (ls : Array Slot), lv_has ls 4 [(0, .ref (G.2.1 + 2)), (1, .int a1), (2, .int a2), (3, .int (b2i a3))] → Rp G mr0 N0 m1 s H locs → k31_1  m1 = some (v, m') → W p l e (rmD 1) s mid args below meth c H locs 0 0 (MQ below (QR G mr0 N0 none m') args s 0 0 (fun q => G.2.1 ≤ q)) (F0 mid 31 ls []) := by
    intro  m1 H locs ls hl hR hF
    rw [ek31_1] at hF
    refine lv_aload_n hx hb (dk DX7_ready 15 rfl) rfl (lv_at hl 0 rfl) ?_
    refine lv_dup hx hb (dk DX7_ready 16 rfl) rfl ?_
    refine gX7_23 C hR ob2 (dk DX7_ready 17 rfl) ?_
    refine lv_lconst (v := (1 : Int64)) hx hb (dk DX7_ready 18 rfl) (by decide) ?_
    refine lv_ladd hx hb (dk DX7_ready 19 rfl) ?_
    refine pX7_23 (x := (gL m1 2 2) + (1 : Int64)) C hR ob2 (dk DX7_ready 20 rfl) (fun H locs hR => ?_)
    obtain ⟨m2, em2, hF⟩ := lt_ex hF
    have hR := Rp_at em2 hR
    refine lv_aload_n hx hb (dk DX7_ready 21 rfl) rfl (lv_at hl 0 rfl) ?_
    refine lv_iconst (v := (0 : Int32)) hx hb (dk DX7_ready 22 rfl) (by decide) ?_
    refine pX7_27 (x := false) C hR ob2 (dk DX7_ready 23 rfl) (fun H locs hR => ?_)
    obtain ⟨m3, em3, hF⟩ := lt_ex hF
    have hR := Rp_at em3 hR
    refine lv_aload_n hx hb (dk DX7_ready 24 rfl) rfl (lv_at hl 0 rfl) ?_
    refine lv_iload_n hx hb (dk DX7_ready 25 rfl) rfl (lv_at hl 1 rfl) ?_
    refine pX7_31 (x := a1) C hR ob2 (dk DX7_ready 26 rfl) (fun H locs hR => ?_)
    obtain ⟨m4, em4, hF⟩ := lt_ex hF
    have hR := Rp_at em4 hR
    refine lv_aload_n hx hb (dk DX7_ready 27 rfl) rfl (lv_at hl 0 rfl) ?_
    refine lv_iload_n hx hb (dk DX7_ready 28 rfl) rfl (lv_at hl 2 rfl) ?_
    refine pX7_35 (x := a2) C hR ob2 (dk DX7_ready 29 rfl) (fun H locs hR => ?_)
    obtain ⟨m5, em5, hF⟩ := lt_ex hF
    have hR := Rp_at em5 hR
    refine lv_aload_n hx hb (dk DX7_ready 30 rfl) rfl (lv_at hl 0 rfl) ?_
    refine lv_iload_n hx hb (dk DX7_ready 31 rfl) rfl (lv_at hl 3 rfl) ?_
    refine pX7_38 (x := a3) C hR ob2 (dk DX7_ready 32 rfl) (fun H locs hR => ?_)
    obtain ⟨m6, em6, hF⟩ := lt_ex hF
    have hR := Rp_at em6 hR
    cases hF
    exact r_vret C hrt hR (dk DX7_ready 33 rfl)
  refine z_ifne (tgt := 31) hx hb (dk DX7_ready 2 rfl) (by decide) (fun c4 => ?_) (fun c4 => ?_)
  · have hF := if_t c4 hF
    exact J31 m0 _ _ ls (lv_sub hl [0, 1, 2, 3] rfl) hR hF
  · have hF := if_f c4 hF
    refine lv_aload_n hx hb (dk DX7_ready 3 rfl) rfl (lv_at hl 0 rfl) ?_
    refine gX7_31 C hR ob2 (dk DX7_ready 4 rfl) ?_
    refine lv_iload_n hx hb (dk DX7_ready 5 rfl) rfl (lv_at hl 1 rfl) ?_
    refine lv_icmp_ne (tgt := 31) hx hb (dk DX7_ready 6 rfl) (by decide) (fun c12 => ?_) (fun c12 => ?_)
    · have hF := if_f c12 hF
      exact J31 m0 _ _ ls (lv_sub hl [0, 1, 2, 3] rfl) hR hF
    · have hF := if_t c12 hF
      refine lv_aload_n hx hb (dk DX7_ready 7 rfl) rfl (lv_at hl 0 rfl) ?_
      refine gX7_35 C hR ob2 (dk DX7_ready 8 rfl) ?_
      refine lv_iload_n hx hb (dk DX7_ready 9 rfl) rfl (lv_at hl 2 rfl) ?_
      refine lv_icmp_ne (tgt := 31) hx hb (dk DX7_ready 10 rfl) (by decide) (fun c20 => ?_) (fun c20 => ?_)
      · have hF := if_f c20 hF
        exact J31 m0 _ _ ls (lv_sub hl [0, 1, 2, 3] rfl) hR hF
      · have hF := if_t c20 hF
        refine lv_aload_n hx hb (dk DX7_ready 11 rfl) rfl (lv_at hl 0 rfl) ?_
        refine gX7_38 C hR ob2 (dk DX7_ready 12 rfl) ?_
        refine lv_iload_n hx hb (dk DX7_ready 13 rfl) rfl (lv_at hl 3 rfl) ?_
        refine lv_icmp_eq (tgt := 61) hx hb (dk DX7_ready 14 rfl) (by decide) (fun c28 => ?_) (fun c28 => ?_)
        · have hF := if_t c28 hF
          cases hF
          exact r_vret C hrt hR (dk DX7_ready 33 rfl)
        · have hF := if_f c28 hF
          exact J31 m0 _ _ ls (lv_sub hl [0, 1, 2, 3] rfl) hR hF
set_option maxHeartbeats 4000000 in
set_option maxRecDepth 100000 in
theorem C_Od_kindOf (l : Launch) (hl0 : l.stackTraces = false) (G : GG) (a0 : Int32) (a1 : Bool) (m0 : Mem) (v : Int32) (m' : Mem) (hF : F_Od_kindOf a0 a1 m0 = some (v, m')) : Ct l G mr0 N0 yX7_kindOf cX7_kindOf 2 (some .int) 1 [.int a0, .int (b2i a1)] m0 (some (.int v)) m' := by
  refine Ct_of hl0 (by decide) (Nat.le_of_ble_eq_true rfl) ?_
  intro p e s mid args below meth c ls C hrt hl hR
  have hx := C.1.1
  have hb := C.1.2.1
  have hl : lv_has ls 2 [(0, .int a0), (1, .int (b2i a1))] := hl
  unfold F_Od_kindOf at hF
  refine lv_iload_n hx hb (dk DX7_kindOf 0 rfl) rfl (lv_at hl 1 rfl) ?_
  refine z_ifeq (tgt := 15) hx hb (dk DX7_kindOf 1 rfl) (by decide) (fun c1 => ?_) (fun c1 => ?_)
  · have hF := if_f c1 hF
    refine lv_iload_n hx hb (dk DX7_kindOf 9 rfl) rfl (lv_at hl 0 rfl) ?_
    cases hF
    exact r_iret (v := a0) C hrt hR (dk DX7_kindOf 10 rfl)
  · have hF := if_t c1 hF
    refine lv_iload_n hx hb (dk DX7_kindOf 2 rfl) rfl (lv_at hl 0 rfl) ?_
    refine lv_iconst (v := (2 : Int32)) hx hb (dk DX7_kindOf 3 rfl) (by decide) ?_
    refine lv_icmp_lt (tgt := 15) hx hb (dk DX7_kindOf 4 rfl) (by decide) (fun c6 => ?_) (fun c6 => ?_)
    · have hF := if_t c6 hF
      refine lv_iload_n hx hb (dk DX7_kindOf 9 rfl) rfl (lv_at hl 0 rfl) ?_
      cases hF
      exact r_iret (v := a0) C hrt hR (dk DX7_kindOf 10 rfl)
    · have hF := if_f c6 hF
      refine lv_iload_n hx hb (dk DX7_kindOf 5 rfl) rfl (lv_at hl 0 rfl) ?_
      refine lv_iconst (v := (2 : Int32)) hx hb (dk DX7_kindOf 6 rfl) (by decide) ?_
      refine lv_iadd hx hb (dk DX7_kindOf 7 rfl) ?_
      refine lv_goto (tgt := 16) hx hb (dk DX7_kindOf 8 rfl) (by decide) ?_
      cases hF
      exact r_iret (v := a0 + (2 : Int32)) C hrt hR (dk DX7_kindOf 10 rfl)
set_option maxHeartbeats 4000000 in
set_option maxRecDepth 100000 in
theorem C_Ma_kind (l : Launch) (hl0 : l.stackTraces = false) (G : GG) (m0 : Mem) (v : Int32) (m' : Mem) (hF : F_Ma_kind m0 = some (v, m')) : Ct l G mr0 N0 yX5_kind cX5_kind 1 (some .int) 2 [.ref (G.2.1 + 16)] m0 (some (.int v)) m' := by
  refine Ct_of hl0 (by decide) (Nat.le_of_ble_eq_true rfl) ?_
  intro p e s mid args below meth c ls C hrt hl hR
  have hx := C.1.1
  have hb := C.1.2.1
  have hl : lv_has ls 1 [(0, .ref (G.2.1 + 16))] := hl
  unfold F_Ma_kind at hF
  refine lv_aload_n hx hb (dk DX5_kind 0 rfl) rfl (lv_at hl 0 rfl) ?_
  refine gX5_15 C hR ob16 (dk DX5_kind 1 rfl) ?_
  refine lv_aload_n hx hb (dk DX5_kind 2 rfl) rfl (lv_at hl 0 rfl) ?_
  refine gX5_27 C hR ob16 (dk DX5_kind 3 rfl) ?_
  obtain ⟨x3, m1, hz2, hF⟩ := bnd_ex hF
  refine r_callSi (As := [.int (gI m0 16 1), .int (b2i (gZ m0 16 5))]) (rest := []) C hR (C_Od_kindOf l hl0 G (gI m0 16 1) (gZ m0 16 5) m0 _ _ hz2) (by decide) (by decide) wX5_47 rfl rfl (Nat.le_of_ble_eq_true rfl) hl.1 ⟨Nat.zero_le _, Nat.zero_le _⟩ (dk DX5_kind 4 rfl) (fun H locs hR => ?_)
  cases hF
  exact r_iret (v := x3) C hrt hR (dk DX5_kind 5 rfl)
set_option maxHeartbeats 4000000 in
set_option maxRecDepth 100000 in
theorem C_Ma_leadOf (l : Launch) (hl0 : l.stackTraces = false) (G : GG) (a1 : Int32) (m0 : Mem) (v : Int32) (m' : Mem) (hF : F_Ma_leadOf a1 m0 = some (v, m')) : Ct l G mr0 N0 yX5_leadOf cX5_leadOf 2 (some .int) 1 [.ref (G.2.1 + 16), .int a1] m0 (some (.int v)) m' := by
  refine Ct_of hl0 (by decide) (Nat.le_of_ble_eq_true rfl) ?_
  intro p e s mid args below meth c ls C hrt hl hR
  have hx := C.1.1
  have hb := C.1.2.1
  have hl : lv_has ls 2 [(0, .ref (G.2.1 + 16)), (1, .int a1)] := hl
  unfold F_Ma_leadOf at hF
  refine lv_iload_n hx hb (dk DX5_leadOf 0 rfl) rfl (lv_at hl 1 rfl) ?_
  refine lv_if_ne (tgt := 16) hx hb (dk DX5_leadOf 1 rfl) (by decide) (fun c1 => ?_) (fun c1 => ?_)
  · have hF := if_f c1 hF
    refine lv_aload_n hx hb (dk DX5_leadOf 8 rfl) rfl (lv_at hl 0 rfl) ?_
    refine gX5_40 C hR ob16 (dk DX5_leadOf 9 rfl) ?_
    refine lv_aload_n hx hb (dk DX5_leadOf 10 rfl) rfl (lv_at hl 0 rfl) ?_
    refine gX5_37 C hR ob16 (dk DX5_leadOf 11 rfl) ?_
    refine lv_isub hx hb (dk DX5_leadOf 12 rfl) ?_
    cases hF
    exact r_iret (v := (gI m0 16 9) - (gI m0 16 8)) C hrt hR (dk DX5_leadOf 13 rfl)
  · have hF := if_t c1 hF
    refine lv_aload_n hx hb (dk DX5_leadOf 2 rfl) rfl (lv_at hl 0 rfl) ?_
    refine gX5_37 C hR ob16 (dk DX5_leadOf 3 rfl) ?_
    refine lv_aload_n hx hb (dk DX5_leadOf 4 rfl) rfl (lv_at hl 0 rfl) ?_
    refine gX5_40 C hR ob16 (dk DX5_leadOf 5 rfl) ?_
    refine lv_isub hx hb (dk DX5_leadOf 6 rfl) ?_
    refine lv_goto (tgt := 25) hx hb (dk DX5_leadOf 7 rfl) (by decide) ?_
    cases hF
    exact r_iret (v := (gI m0 16 8) - (gI m0 16 9)) C hrt hR (dk DX5_leadOf 13 rfl)
set_option maxHeartbeats 4000000 in
set_option maxRecDepth 100000 in
theorem C_Od_firstBats (l : Launch) (hl0 : l.stackTraces = false) (G : GG) (a0 : Int32) (m0 : Mem) (v : Bool) (m' : Mem) (hF : F_Od_firstBats a0 m0 = some (v, m')) : Ct l G mr0 N0 yX7_firstBats cX7_firstBats 1 (some .boolean) 1 [.int a0] m0 (some (.int (b2i v))) m' := by
  refine Ct_of hl0 (by decide) (Nat.le_of_ble_eq_true rfl) ?_
  intro p e s mid args below meth c ls C hrt hl hR
  have hx := C.1.1
  have hb := C.1.2.1
  have hl : lv_has ls 1 [(0, .int a0)] := hl
  unfold F_Od_firstBats at hF
  refine lv_iload_n hx hb (dk DX7_firstBats 0 rfl) rfl (lv_at hl 0 rfl) ?_
  refine lv_if_eq (tgt := 14) hx hb (dk DX7_firstBats 1 rfl) (by decide) (fun c1 => ?_) (fun c1 => ?_)
  · have hF := if_t c1 hF
    refine lv_iconst (v := (1 : Int32)) hx hb (dk DX7_firstBats 8 rfl) (by decide) ?_
    refine lv_goto (tgt := 19) hx hb (dk DX7_firstBats 9 rfl) (by decide) ?_
    cases hF
    exact r_zret (v := true) C hrt hR (dk DX7_firstBats 11 rfl)
  · have hF := if_f c1 hF
    refine lv_iload_n hx hb (dk DX7_firstBats 2 rfl) rfl (lv_at hl 0 rfl) ?_
    refine lv_iconst (v := (2 : Int32)) hx hb (dk DX7_firstBats 3 rfl) (by decide) ?_
    refine lv_icmp_eq (tgt := 14) hx hb (dk DX7_firstBats 4 rfl) (by decide) (fun c6 => ?_) (fun c6 => ?_)
    · have hF := if_t c6 hF
      refine lv_iconst (v := (1 : Int32)) hx hb (dk DX7_firstBats 8 rfl) (by decide) ?_
      refine lv_goto (tgt := 19) hx hb (dk DX7_firstBats 9 rfl) (by decide) ?_
      cases hF
      exact r_zret (v := true) C hrt hR (dk DX7_firstBats 11 rfl)
    · have hF := if_f c6 hF
      refine lv_iload_n hx hb (dk DX7_firstBats 5 rfl) rfl (lv_at hl 0 rfl) ?_
      refine lv_iconst (v := (5 : Int32)) hx hb (dk DX7_firstBats 6 rfl) (by decide) ?_
      refine lv_icmp_ne (tgt := 18) hx hb (dk DX7_firstBats 7 rfl) (by decide) (fun c11 => ?_) (fun c11 => ?_)
      · have hF := if_f c11 hF
        refine lv_iconst (v := (0 : Int32)) hx hb (dk DX7_firstBats 10 rfl) (by decide) ?_
        cases hF
        exact r_zret (v := false) C hrt hR (dk DX7_firstBats 11 rfl)
      · have hF := if_t c11 hF
        refine lv_iconst (v := (1 : Int32)) hx hb (dk DX7_firstBats 8 rfl) (by decide) ?_
        refine lv_goto (tgt := 19) hx hb (dk DX7_firstBats 9 rfl) (by decide) ?_
        cases hF
        exact r_zret (v := true) C hrt hR (dk DX7_firstBats 11 rfl)
set_option maxHeartbeats 4000000 in
set_option maxRecDepth 100000 in
theorem C_Od_inningsOf (l : Launch) (hl0 : l.stackTraces = false) (G : GG) (a0 : Int32) (m0 : Mem) (v : Int32) (m' : Mem) (hF : F_Od_inningsOf a0 m0 = some (v, m')) : Ct l G mr0 N0 yX7_inningsOf cX7_inningsOf 1 (some .int) 1 [.int a0] m0 (some (.int v)) m' := by
  refine Ct_of hl0 (by decide) (Nat.le_of_ble_eq_true rfl) ?_
  intro p e s mid args below meth c ls C hrt hl hR
  have hx := C.1.1
  have hb := C.1.2.1
  have hl : lv_has ls 1 [(0, .int a0)] := hl
  unfold F_Od_inningsOf at hF
  refine lv_iload_n hx hb (dk DX7_inningsOf 0 rfl) rfl (lv_at hl 0 rfl) ?_
  refine lv_iconst (v := (3 : Int32)) hx hb (dk DX7_inningsOf 1 rfl) (by decide) ?_
  refine lv_icmp_le (tgt := 11) hx hb (dk DX7_inningsOf 2 rfl) (by decide) (fun c2 => ?_) (fun c2 => ?_)
  · have hF := if_t c2 hF
    refine lv_iload_n hx hb (dk DX7_inningsOf 7 rfl) rfl (lv_at hl 0 rfl) ?_
    cases hF
    exact r_iret (v := a0) C hrt hR (dk DX7_inningsOf 8 rfl)
  · have hF := if_f c2 hF
    refine lv_iload_n hx hb (dk DX7_inningsOf 3 rfl) rfl (lv_at hl 0 rfl) ?_
    refine lv_iconst (v := (2 : Int32)) hx hb (dk DX7_inningsOf 4 rfl) (by decide) ?_
    refine lv_isub hx hb (dk DX7_inningsOf 5 rfl) ?_
    refine lv_goto (tgt := 12) hx hb (dk DX7_inningsOf 6 rfl) (by decide) ?_
    cases hF
    exact r_iret (v := a0 - (2 : Int32)) C hrt hR (dk DX7_inningsOf 8 rfl)
set_option maxHeartbeats 4000000 in
set_option maxRecDepth 100000 in
theorem C_Lw_stand (l : Launch) (hl0 : l.stackTraces = false) (G : GG) (a1 : Int32) (a2 : Int32) (a3 : Int32) (m0 : Mem) (v : Unit) (m' : Mem) (hF : F_Lw_stand a1 a2 a3 m0 = some (v, m')) : Ct l G mr0 N0 yX3_stand cX3_stand 4 none 1 [.ref (G.2.1 + 8), .int a1, .int a2, .int a3] m0 none m' := by
  refine Ct_of hl0 (by decide) (Nat.le_of_ble_eq_true rfl) ?_
  intro p e s mid args below meth c ls C hrt hl hR
  have hx := C.1.1
  have hb := C.1.2.1
  have hl : lv_has ls 4 [(0, .ref (G.2.1 + 8)), (1, .int a1), (2, .int a2), (3, .int a3)] := hl
  unfold F_Lw_stand at hF
  refine lv_aload_n hx hb (dk DX3_stand 0 rfl) rfl (lv_at hl 0 rfl) ?_
  refine gX3_22 C hR ob8 rf8_3 (dk DX3_stand 1 rfl) ?_
  refine lv_iconst (v := (0 : Int32)) hx hb (dk DX3_stand 2 rfl) (by decide) ?_
  refine lv_iload_n hx hb (dk DX3_stand 3 rfl) rfl (lv_at hl 1 rfl) ?_
  refine r_iast C hR ob10 rfl (dk DX3_stand 4 rfl) (fun H locs hR => ?_)
  obtain ⟨m1, em1, hF⟩ := lt_ex hF
  have hR := Rp_at em1 hR
  refine lv_aload_n hx hb (dk DX3_stand 5 rfl) rfl (lv_at hl 0 rfl) ?_
  refine gX3_22 C hR ob8 rf8_3 (dk DX3_stand 6 rfl) ?_
  refine lv_iconst (v := (1 : Int32)) hx hb (dk DX3_stand 7 rfl) (by decide) ?_
  refine lv_iload_n hx hb (dk DX3_stand 8 rfl) rfl (lv_at hl 1 rfl) ?_
  refine lv_iconst (v := (3 : Int32)) hx hb (dk DX3_stand 9 rfl) (by decide) ?_
  refine lv_idiv hx hb (dk DX3_stand 10 rfl) (by decide) ?_
  refine r_iast C hR ob10 rfl (dk DX3_stand 11 rfl) (fun H locs hR => ?_)
  obtain ⟨m2, em2, hF⟩ := lt_ex hF
  have hR := Rp_at em2 hR
  refine lv_aload_n hx hb (dk DX3_stand 12 rfl) rfl (lv_at hl 0 rfl) ?_
  refine gX3_22 C hR ob8 rf8_3 (dk DX3_stand 13 rfl) ?_
  refine lv_iconst (v := (2 : Int32)) hx hb (dk DX3_stand 14 rfl) (by decide) ?_
  refine lv_iload_n hx hb (dk DX3_stand 15 rfl) rfl (lv_at hl 2 rfl) ?_
  refine r_iast C hR ob10 rfl (dk DX3_stand 16 rfl) (fun H locs hR => ?_)
  obtain ⟨m3, em3, hF⟩ := lt_ex hF
  have hR := Rp_at em3 hR
  refine lv_aload_n hx hb (dk DX3_stand 17 rfl) rfl (lv_at hl 0 rfl) ?_
  refine gX3_22 C hR ob8 rf8_3 (dk DX3_stand 18 rfl) ?_
  refine lv_iconst (v := (3 : Int32)) hx hb (dk DX3_stand 19 rfl) (by decide) ?_
  refine lv_iload_n hx hb (dk DX3_stand 20 rfl) rfl (lv_at hl 3 rfl) ?_
  refine r_iast C hR ob10 rfl (dk DX3_stand 21 rfl) (fun H locs hR => ?_)
  obtain ⟨m4, em4, hF⟩ := lt_ex hF
  have hR := Rp_at em4 hR
  cases hF
  exact r_vret C hrt hR (dk DX3_stand 22 rfl)
set_option maxHeartbeats 4000000 in
set_option maxRecDepth 100000 in
theorem C_Gr_batOf (l : Launch) (hl0 : l.stackTraces = false) (G : GG) (a1 : Int32) (m0 : Mem) (v : Int32) (m' : Mem) (hF : F_Gr_batOf a1 m0 = some (v, m')) : Ct l G mr0 N0 yX1_batOf cX1_batOf 2 (some .int) 1 [.ref (G.2.1 + 3), .int a1] m0 (some (.int v)) m' := by
  refine Ct_of hl0 (by decide) (Nat.le_of_ble_eq_true rfl) ?_
  intro p e s mid args below meth c ls C hrt hl hR
  have hx := C.1.1
  have hb := C.1.2.1
  have hl : lv_has ls 2 [(0, .ref (G.2.1 + 3)), (1, .int a1)] := hl
  unfold F_Gr_batOf at hF
  refine lv_iload_n hx hb (dk DX1_batOf 0 rfl) rfl (lv_at hl 1 rfl) ?_
  refine lv_if_ne (tgt := 13) hx hb (dk DX1_batOf 1 rfl) (by decide) (fun c1 => ?_) (fun c1 => ?_)
  · have hF := if_f c1 hF
    refine lv_aload_n hx hb (dk DX1_batOf 7 rfl) rfl (lv_at hl 0 rfl) ?_
    refine gX1_33 C hR ob3 rf3_7 (dk DX1_batOf 8 rfl) ?_
    refine lv_iconst (v := (1 : Int32)) hx hb (dk DX1_batOf 9 rfl) (by decide) ?_
    refine r_iald C hR ob4 rfl (dk DX1_batOf 10 rfl) ?_
    cases hF
    exact r_iret (v := gI m0 4 1) C hrt hR (dk DX1_batOf 11 rfl)
  · have hF := if_t c1 hF
    refine lv_aload_n hx hb (dk DX1_batOf 2 rfl) rfl (lv_at hl 0 rfl) ?_
    refine gX1_33 C hR ob3 rf3_7 (dk DX1_batOf 3 rfl) ?_
    refine lv_iconst (v := (0 : Int32)) hx hb (dk DX1_batOf 4 rfl) (by decide) ?_
    refine r_iald C hR ob4 rfl (dk DX1_batOf 5 rfl) ?_
    refine lv_goto (tgt := 19) hx hb (dk DX1_batOf 6 rfl) (by decide) ?_
    cases hF
    exact r_iret (v := gI m0 4 0) C hrt hR (dk DX1_batOf 11 rfl)
set_option maxHeartbeats 4000000 in
set_option maxRecDepth 100000 in
theorem C_Gr_bowlOf (l : Launch) (hl0 : l.stackTraces = false) (G : GG) (a1 : Int32) (m0 : Mem) (v : Int32) (m' : Mem) (hF : F_Gr_bowlOf a1 m0 = some (v, m')) : Ct l G mr0 N0 yX1_bowlOf cX1_bowlOf 2 (some .int) 1 [.ref (G.2.1 + 3), .int a1] m0 (some (.int v)) m' := by
  refine Ct_of hl0 (by decide) (Nat.le_of_ble_eq_true rfl) ?_
  intro p e s mid args below meth c ls C hrt hl hR
  have hx := C.1.1
  have hb := C.1.2.1
  have hl : lv_has ls 2 [(0, .ref (G.2.1 + 3)), (1, .int a1)] := hl
  unfold F_Gr_bowlOf at hF
  refine lv_iload_n hx hb (dk DX1_bowlOf 0 rfl) rfl (lv_at hl 1 rfl) ?_
  refine lv_if_ne (tgt := 13) hx hb (dk DX1_bowlOf 1 rfl) (by decide) (fun c1 => ?_) (fun c1 => ?_)
  · have hF := if_f c1 hF
    refine lv_aload_n hx hb (dk DX1_bowlOf 7 rfl) rfl (lv_at hl 0 rfl) ?_
    refine gX1_37 C hR ob3 rf3_8 (dk DX1_bowlOf 8 rfl) ?_
    refine lv_iconst (v := (1 : Int32)) hx hb (dk DX1_bowlOf 9 rfl) (by decide) ?_
    refine r_iald C hR ob5 rfl (dk DX1_bowlOf 10 rfl) ?_
    cases hF
    exact r_iret (v := gI m0 5 1) C hrt hR (dk DX1_bowlOf 11 rfl)
  · have hF := if_t c1 hF
    refine lv_aload_n hx hb (dk DX1_bowlOf 2 rfl) rfl (lv_at hl 0 rfl) ?_
    refine gX1_37 C hR ob3 rf3_8 (dk DX1_bowlOf 3 rfl) ?_
    refine lv_iconst (v := (0 : Int32)) hx hb (dk DX1_bowlOf 4 rfl) (by decide) ?_
    refine r_iald C hR ob5 rfl (dk DX1_bowlOf 5 rfl) ?_
    refine lv_goto (tgt := 19) hx hb (dk DX1_bowlOf 6 rfl) (by decide) ?_
    cases hF
    exact r_iret (v := gI m0 5 0) C hrt hR (dk DX1_bowlOf 11 rfl)
set_option maxHeartbeats 4000000 in
set_option maxRecDepth 100000 in
theorem C_Lw_standSides (l : Launch) (hl0 : l.stackTraces = false) (G : GG) (a1 : Int32) (a2 : Int32) (m0 : Mem) (v : Unit) (m' : Mem) (hF : F_Lw_standSides a1 a2 m0 = some (v, m')) : Ct l G mr0 N0 yX3_standSides cX3_standSides 3 none 1 [.ref (G.2.1 + 8), .int a1, .int a2] m0 none m' := by
  refine Ct_of hl0 (by decide) (Nat.le_of_ble_eq_true rfl) ?_
  intro p e s mid args below meth c ls C hrt hl hR
  have hx := C.1.1
  have hb := C.1.2.1
  have hl : lv_has ls 3 [(0, .ref (G.2.1 + 8)), (1, .int a1), (2, .int a2)] := hl
  unfold F_Lw_standSides at hF
  refine lv_aload_n hx hb (dk DX3_standSides 0 rfl) rfl (lv_at hl 0 rfl) ?_
  refine gX3_22 C hR ob8 rf8_3 (dk DX3_standSides 1 rfl) ?_
  refine lv_iconst (v := (4 : Int32)) hx hb (dk DX3_standSides 2 rfl) (by decide) ?_
  refine lv_iload_n hx hb (dk DX3_standSides 3 rfl) rfl (lv_at hl 1 rfl) ?_
  refine r_iast C hR ob10 rfl (dk DX3_standSides 4 rfl) (fun H locs hR => ?_)
  obtain ⟨m1, em1, hF⟩ := lt_ex hF
  have hR := Rp_at em1 hR
  refine lv_aload_n hx hb (dk DX3_standSides 5 rfl) rfl (lv_at hl 0 rfl) ?_
  refine gX3_22 C hR ob8 rf8_3 (dk DX3_standSides 6 rfl) ?_
  refine lv_iconst (v := (5 : Int32)) hx hb (dk DX3_standSides 7 rfl) (by decide) ?_
  refine lv_iload_n hx hb (dk DX3_standSides 8 rfl) rfl (lv_at hl 2 rfl) ?_
  refine r_iast C hR ob10 rfl (dk DX3_standSides 9 rfl) (fun H locs hR => ?_)
  obtain ⟨m2, em2, hF⟩ := lt_ex hF
  have hR := Rp_at em2 hR
  cases hF
  exact r_vret C hrt hR (dk DX3_standSides 10 rfl)
set_option maxHeartbeats 4000000 in
set_option maxRecDepth 100000 in
theorem C_T_bitOf (l : Launch) (hl0 : l.stackTraces = false) (G : GG) (a0 : Int32) (a1 : Int32) (m0 : Mem) (v : Int32) (m' : Mem) (hF : F_T_bitOf a0 a1 m0 = some (v, m')) : Ct l G mr0 N0 yX10_bitOf cX10_bitOf 2 (some .int) 1 [.int a0, .int a1] m0 (some (.int v)) m' := by
  refine Ct_of hl0 (by decide) (Nat.le_of_ble_eq_true rfl) ?_
  intro p e s mid args below meth c ls C hrt hl hR
  have hx := C.1.1
  have hb := C.1.2.1
  have hl : lv_has ls 2 [(0, .int a0), (1, .int a1)] := hl
  unfold F_T_bitOf at hF
  refine lv_iload_n hx hb (dk DX10_bitOf 0 rfl) rfl (lv_at hl 0 rfl) ?_
  refine lv_iload_n hx hb (dk DX10_bitOf 1 rfl) rfl (lv_at hl 1 rfl) ?_
  refine lv_iushr hx hb (dk DX10_bitOf 2 rfl) rfl ?_
  refine lv_topi (fun x1 ex1 => ?_)
  have hF := lt_at ex1 hF
  refine lv_iconst (v := (1 : Int32)) hx hb (dk DX10_bitOf 3 rfl) (by decide) ?_
  refine lv_iand hx hb (dk DX10_bitOf 4 rfl) ?_
  cases hF
  exact r_iret (v := x1 &&& (1 : Int32)) C hrt hR (dk DX10_bitOf 5 rfl)
set_option maxHeartbeats 4000000 in
set_option maxRecDepth 100000 in
theorem C_Lw_standSky (l : Launch) (hl0 : l.stackTraces = false) (G : GG) (a1 : Int32) (a2 : Int32) (m0 : Mem) (v : Unit) (m' : Mem) (hF : F_Lw_standSky a1 a2 m0 = some (v, m')) : Ct l G mr0 N0 yX3_standSky cX3_standSky 3 none 1 [.ref (G.2.1 + 8), .int a1, .int a2] m0 none m' := by
  refine Ct_of hl0 (by decide) (Nat.le_of_ble_eq_true rfl) ?_
  intro p e s mid args below meth c ls C hrt hl hR
  have hx := C.1.1
  have hb := C.1.2.1
  have hl : lv_has ls 3 [(0, .ref (G.2.1 + 8)), (1, .int a1), (2, .int a2)] := hl
  unfold F_Lw_standSky at hF
  refine lv_aload_n hx hb (dk DX3_standSky 0 rfl) rfl (lv_at hl 0 rfl) ?_
  refine gX3_22 C hR ob8 rf8_3 (dk DX3_standSky 1 rfl) ?_
  refine lv_bipush (v := (6 : Int32)) hx hb (dk DX3_standSky 2 rfl) (by decide) ?_
  refine lv_iload_n hx hb (dk DX3_standSky 3 rfl) rfl (lv_at hl 1 rfl) ?_
  refine r_iast C hR ob10 rfl (dk DX3_standSky 4 rfl) (fun H locs hR => ?_)
  obtain ⟨m1, em1, hF⟩ := lt_ex hF
  have hR := Rp_at em1 hR
  refine lv_aload_n hx hb (dk DX3_standSky 5 rfl) rfl (lv_at hl 0 rfl) ?_
  refine gX3_22 C hR ob8 rf8_3 (dk DX3_standSky 6 rfl) ?_
  refine lv_bipush (v := (7 : Int32)) hx hb (dk DX3_standSky 7 rfl) (by decide) ?_
  refine lv_iload_n hx hb (dk DX3_standSky 8 rfl) rfl (lv_at hl 2 rfl) ?_
  refine r_iast C hR ob10 rfl (dk DX3_standSky 9 rfl) (fun H locs hR => ?_)
  obtain ⟨m2, em2, hF⟩ := lt_ex hF
  have hR := Rp_at em2 hR
  cases hF
  exact r_vret C hrt hR (dk DX3_standSky 10 rfl)
set_option maxHeartbeats 4000000 in
set_option maxRecDepth 100000 in
theorem C_Lw_stackAt (l : Launch) (hl0 : l.stackTraces = false) (G : GG) (a1 : Int32) (m0 : Mem) (v : Int32) (m' : Mem) (hF : F_Lw_stackAt a1 m0 = some (v, m')) : Ct l G mr0 N0 yX3_stackAt cX3_stackAt 2 (some .int) 1 [.ref (G.2.1 + 8), .int a1] m0 (some (.int v)) m' := by
  refine Ct_of hl0 (by decide) (Nat.le_of_ble_eq_true rfl) ?_
  intro p e s mid args below meth c ls C hrt hl hR
  have hx := C.1.1
  have hb := C.1.2.1
  have hl : lv_has ls 2 [(0, .ref (G.2.1 + 8)), (1, .int a1)] := hl
  unfold F_Lw_stackAt at hF
  refine lv_iload_n hx hb (dk DX3_stackAt 0 rfl) rfl (lv_at hl 1 rfl) ?_
  refine lv_if_lt (tgt := 10) hx hb (dk DX3_stackAt 1 rfl) (by decide) (fun c1 => ?_) (fun c1 => ?_)
  · have hF := if_t c1 hF
    refine lv_iconst (v := (0 : Int32)) hx hb (dk DX3_stackAt 5 rfl) (by decide) ?_
    refine lv_goto (tgt := 20) hx hb (dk DX3_stackAt 6 rfl) (by decide) ?_
    cases hF
    exact r_iret (v := (0 : Int32)) C hrt hR (dk DX3_stackAt 11 rfl)
  · have hF := if_f c1 hF
    refine lv_iload_n hx hb (dk DX3_stackAt 2 rfl) rfl (lv_at hl 1 rfl) ?_
    refine lv_bipush (v := (64 : Int32)) hx hb (dk DX3_stackAt 3 rfl) (by decide) ?_
    refine lv_icmp_lt (tgt := 14) hx hb (dk DX3_stackAt 4 rfl) (by decide) (fun c7 => ?_) (fun c7 => ?_)
    · have hF := if_t c7 hF
      refine lv_aload_n hx hb (dk DX3_stackAt 7 rfl) rfl (lv_at hl 0 rfl) ?_
      refine gX3_25 C hR ob8 rf8_4 (dk DX3_stackAt 8 rfl) ?_
      refine lv_iload_n hx hb (dk DX3_stackAt 9 rfl) rfl (lv_at hl 1 rfl) ?_
      obtain ⟨h1, hF⟩ := ckB_ex hF
      refine r_iald C hR ob11 h1 (dk DX3_stackAt 10 rfl) ?_
      refine lv_topi (fun x2 ex2 => ?_)
      have hF := lt_at ex2 hF
      cases hF
      exact r_iret (v := x2) C hrt hR (dk DX3_stackAt 11 rfl)
    · have hF := if_f c7 hF
      refine lv_iconst (v := (0 : Int32)) hx hb (dk DX3_stackAt 5 rfl) (by decide) ?_
      refine lv_goto (tgt := 20) hx hb (dk DX3_stackAt 6 rfl) (by decide) ?_
      cases hF
      exact r_iret (v := (0 : Int32)) C hrt hR (dk DX3_stackAt 11 rfl)
set_option maxHeartbeats 4000000 in
set_option maxRecDepth 100000 in
theorem C_Lw_joined (l : Launch) (hl0 : l.stackTraces = false) (G : GG) (a1 : Int32) (a2 : Int32) (a3 : Int32) (m0 : Mem) (v : Int32) (m' : Mem) (hF : F_Lw_joined a1 a2 a3 m0 = some (v, m')) : Ct l G mr0 N0 yX3_joined cX3_joined 4 (some .int) 1 [.ref (G.2.1 + 8), .int a1, .int a2, .int a3] m0 (some (.int v)) m' := by
  refine Ct_of hl0 (by decide) (Nat.le_of_ble_eq_true rfl) ?_
  intro p e s mid args below meth c ls C hrt hl hR
  have hx := C.1.1
  have hb := C.1.2.1
  have hl : lv_has ls 4 [(0, .ref (G.2.1 + 8)), (1, .int a1), (2, .int a2), (3, .int a3)] := hl
  unfold F_Lw_joined at hF
  refine lv_iload_n hx hb (dk DX3_joined 0 rfl) rfl (lv_at hl 1 rfl) ?_
  by_cases d1101 : a1 = (1101 : Int32)
  · have hF := if_t d1101 hF
    refine lv_tableIn (tgt := 32) hx hb (dk DX3_joined 1 rfl) (by rw [d1101]; decide) (by rw [d1101]; decide) (by rw [d1101]; rfl) (by decide) ?_
    refine lv_iload_n hx hb (dk DX3_joined 2 rfl) rfl (lv_at hl 2 rfl) ?_
    refine lv_iload_n hx hb (dk DX3_joined 3 rfl) rfl (lv_at hl 3 rfl) ?_
    refine lv_iand hx hb (dk DX3_joined 4 rfl) ?_
    cases hF
    exact r_iret (v := a2 &&& a3) C hrt hR (dk DX3_joined 5 rfl)
  · have hF := if_f d1101 hF
    by_cases d1102 : a1 = (1102 : Int32)
    · have hF := if_t d1102 hF
      refine lv_tableIn (tgt := 36) hx hb (dk DX3_joined 1 rfl) (by rw [d1102]; decide) (by rw [d1102]; decide) (by rw [d1102]; rfl) (by decide) ?_
      refine lv_iload_n hx hb (dk DX3_joined 6 rfl) rfl (lv_at hl 2 rfl) ?_
      refine lv_iload_n hx hb (dk DX3_joined 7 rfl) rfl (lv_at hl 3 rfl) ?_
      refine lv_ior hx hb (dk DX3_joined 8 rfl) ?_
      cases hF
      exact r_iret (v := a2 ||| a3) C hrt hR (dk DX3_joined 9 rfl)
    · have hF := if_f d1102 hF
      by_cases d1103 : a1 = (1103 : Int32)
      · have hF := if_t d1103 hF
        refine lv_tableIn (tgt := 40) hx hb (dk DX3_joined 1 rfl) (by rw [d1103]; decide) (by rw [d1103]; decide) (by rw [d1103]; rfl) (by decide) ?_
        refine lv_iload_n hx hb (dk DX3_joined 10 rfl) rfl (lv_at hl 2 rfl) ?_
        refine lv_iload_n hx hb (dk DX3_joined 11 rfl) rfl (lv_at hl 3 rfl) ?_
        refine lv_icmp_ge (tgt := 49) hx hb (dk DX3_joined 12 rfl) (by decide) (fun c42 => ?_) (fun c42 => ?_)
        · have hF := if_t c42 hF
          refine lv_iconst (v := (0 : Int32)) hx hb (dk DX3_joined 15 rfl) (by decide) ?_
          cases hF
          exact r_iret (v := (0 : Int32)) C hrt hR (dk DX3_joined 16 rfl)
        · have hF := if_f c42 hF
          refine lv_iconst (v := (1 : Int32)) hx hb (dk DX3_joined 13 rfl) (by decide) ?_
          refine lv_goto (tgt := 50) hx hb (dk DX3_joined 14 rfl) (by decide) ?_
          cases hF
          exact r_iret (v := (1 : Int32)) C hrt hR (dk DX3_joined 16 rfl)
      · have hF := if_f d1103 hF
        by_cases d1104 : a1 = (1104 : Int32)
        · have hF := if_t d1104 hF
          refine lv_tableIn (tgt := 51) hx hb (dk DX3_joined 1 rfl) (by rw [d1104]; decide) (by rw [d1104]; decide) (by rw [d1104]; rfl) (by decide) ?_
          refine lv_iload_n hx hb (dk DX3_joined 17 rfl) rfl (lv_at hl 2 rfl) ?_
          refine lv_iload_n hx hb (dk DX3_joined 18 rfl) rfl (lv_at hl 3 rfl) ?_
          refine lv_icmp_le (tgt := 60) hx hb (dk DX3_joined 19 rfl) (by decide) (fun c53 => ?_) (fun c53 => ?_)
          · have hF := if_t c53 hF
            refine lv_iconst (v := (0 : Int32)) hx hb (dk DX3_joined 22 rfl) (by decide) ?_
            cases hF
            exact r_iret (v := (0 : Int32)) C hrt hR (dk DX3_joined 23 rfl)
          · have hF := if_f c53 hF
            refine lv_iconst (v := (1 : Int32)) hx hb (dk DX3_joined 20 rfl) (by decide) ?_
            refine lv_goto (tgt := 61) hx hb (dk DX3_joined 21 rfl) (by decide) ?_
            cases hF
            exact r_iret (v := (1 : Int32)) C hrt hR (dk DX3_joined 23 rfl)
        · have hF := if_f d1104 hF
          have n1101 := i32_ne d1101 (z := 1101) rfl
          have n1102 := i32_ne d1102 (z := 1102) rfl
          have n1103 := i32_ne d1103 (z := 1103) rfl
          have n1104 := i32_ne d1104 (z := 1104) rfl
          refine lv_tableOut (tgt := 62) hx hb (dk DX3_joined 1 rfl) (by omega) (by decide) ?_
          refine lv_iload_n hx hb (dk DX3_joined 24 rfl) rfl (lv_at hl 2 rfl) ?_
          refine lv_iload_n hx hb (dk DX3_joined 25 rfl) rfl (lv_at hl 3 rfl) ?_
          refine lv_iadd hx hb (dk DX3_joined 26 rfl) ?_
          cases hF
          exact r_iret (v := a2 + a3) C hrt hR (dk DX3_joined 27 rfl)
set_option maxHeartbeats 4000000 in
set_option maxRecDepth 100000 in
theorem C_Lw_setStack (l : Launch) (hl0 : l.stackTraces = false) (G : GG) (a1 : Int32) (a2 : Int32) (m0 : Mem) (v : Unit) (m' : Mem) (hF : F_Lw_setStack a1 a2 m0 = some (v, m')) : Ct l G mr0 N0 yX3_setStack cX3_setStack 3 none 1 [.ref (G.2.1 + 8), .int a1, .int a2] m0 none m' := by
  refine Ct_of hl0 (by decide) (Nat.le_of_ble_eq_true rfl) ?_
  intro p e s mid args below meth c ls C hrt hl hR
  have hx := C.1.1
  have hb := C.1.2.1
  have hl : lv_has ls 3 [(0, .ref (G.2.1 + 8)), (1, .int a1), (2, .int a2)] := hl
  unfold F_Lw_setStack at hF
  refine lv_iload_n hx hb (dk DX3_setStack 0 rfl) rfl (lv_at hl 1 rfl) ?_
  refine lv_if_lt (tgt := 17) hx hb (dk DX3_setStack 1 rfl) (by decide) (fun c1 => ?_) (fun c1 => ?_)
  · have hF := if_t c1 hF
    cases hF
    exact r_vret C hrt hR (dk DX3_setStack 10 rfl)
  · have hF := if_f c1 hF
    refine lv_iload_n hx hb (dk DX3_setStack 2 rfl) rfl (lv_at hl 1 rfl) ?_
    refine lv_bipush (v := (64 : Int32)) hx hb (dk DX3_setStack 3 rfl) (by decide) ?_
    refine lv_icmp_ge (tgt := 17) hx hb (dk DX3_setStack 4 rfl) (by decide) (fun c7 => ?_) (fun c7 => ?_)
    · have hF := if_t c7 hF
      cases hF
      exact r_vret C hrt hR (dk DX3_setStack 10 rfl)
    · have hF := if_f c7 hF
      refine lv_aload_n hx hb (dk DX3_setStack 5 rfl) rfl (lv_at hl 0 rfl) ?_
      refine gX3_25 C hR ob8 rf8_4 (dk DX3_setStack 6 rfl) ?_
      refine lv_iload_n hx hb (dk DX3_setStack 7 rfl) rfl (lv_at hl 1 rfl) ?_
      refine lv_iload_n hx hb (dk DX3_setStack 8 rfl) rfl (lv_at hl 2 rfl) ?_
      obtain ⟨h2, hF⟩ := ckB_ex hF
      refine r_iast C hR ob11 h2 (dk DX3_setStack 9 rfl) (fun H locs hR => ?_)
      obtain ⟨m1, em1, hF⟩ := lt_ex hF
      have hR := Rp_at em1 hR
      cases hF
      exact r_vret C hrt hR (dk DX3_setStack 10 rfl)
set_option maxHeartbeats 4000000 in
set_option maxRecDepth 100000 in
theorem C_Lw_placeAt (l : Launch) (hl0 : l.stackTraces = false) (G : GG) (a1 : Int32) (m0 : Mem) (v : Int32) (m' : Mem) (hF : F_Lw_placeAt a1 m0 = some (v, m')) : Ct l G mr0 N0 yX3_placeAt cX3_placeAt 2 (some .int) 1 [.ref (G.2.1 + 8), .int a1] m0 (some (.int v)) m' := by
  refine Ct_of hl0 (by decide) (Nat.le_of_ble_eq_true rfl) ?_
  intro p e s mid args below meth c ls C hrt hl hR
  have hx := C.1.1
  have hb := C.1.2.1
  have hl : lv_has ls 2 [(0, .ref (G.2.1 + 8)), (1, .int a1)] := hl
  unfold F_Lw_placeAt at hF
  refine lv_iload_n hx hb (dk DX3_placeAt 0 rfl) rfl (lv_at hl 1 rfl) ?_
  refine lv_if_lt (tgt := 10) hx hb (dk DX3_placeAt 1 rfl) (by decide) (fun c1 => ?_) (fun c1 => ?_)
  · have hF := if_t c1 hF
    refine lv_iconst (v := (0 : Int32)) hx hb (dk DX3_placeAt 5 rfl) (by decide) ?_
    refine lv_goto (tgt := 20) hx hb (dk DX3_placeAt 6 rfl) (by decide) ?_
    cases hF
    exact r_iret (v := (0 : Int32)) C hrt hR (dk DX3_placeAt 11 rfl)
  · have hF := if_f c1 hF
    refine lv_iload_n hx hb (dk DX3_placeAt 2 rfl) rfl (lv_at hl 1 rfl) ?_
    refine lv_bipush (v := (8 : Int32)) hx hb (dk DX3_placeAt 3 rfl) (by decide) ?_
    refine lv_icmp_lt (tgt := 14) hx hb (dk DX3_placeAt 4 rfl) (by decide) (fun c7 => ?_) (fun c7 => ?_)
    · have hF := if_t c7 hF
      refine lv_aload_n hx hb (dk DX3_placeAt 7 rfl) rfl (lv_at hl 0 rfl) ?_
      refine gX3_22 C hR ob8 rf8_3 (dk DX3_placeAt 8 rfl) ?_
      refine lv_iload_n hx hb (dk DX3_placeAt 9 rfl) rfl (lv_at hl 1 rfl) ?_
      obtain ⟨h1, hF⟩ := ckB_ex hF
      refine r_iald C hR ob10 h1 (dk DX3_placeAt 10 rfl) ?_
      refine lv_topi (fun x2 ex2 => ?_)
      have hF := lt_at ex2 hF
      cases hF
      exact r_iret (v := x2) C hrt hR (dk DX3_placeAt 11 rfl)
    · have hF := if_f c7 hF
      refine lv_iconst (v := (0 : Int32)) hx hb (dk DX3_placeAt 5 rfl) (by decide) ?_
      refine lv_goto (tgt := 20) hx hb (dk DX3_placeAt 6 rfl) (by decide) ?_
      cases hF
      exact r_iret (v := (0 : Int32)) C hrt hR (dk DX3_placeAt 11 rfl)
set_option maxHeartbeats 4000000 in
set_option maxRecDepth 100000 in
theorem C_Lw_hardness (l : Launch) (hl0 : l.stackTraces = false) (G : GG) (m0 : Mem) (v : Int32) (m' : Mem) (hF : F_Lw_hardness m0 = some (v, m')) : Ct l G mr0 N0 yX3_hardness cX3_hardness 5 (some .int) 2 [.ref (G.2.1 + 8)] m0 (some (.int v)) m' := by
  refine Ct_of hl0 (by decide) (Nat.le_of_ble_eq_true rfl) ?_
  intro p e s mid args below meth c ls C hrt hl hR
  have hx := C.1.1
  have hb := C.1.2.1
  have hl : lv_has ls 5 [(0, .ref (G.2.1 + 8))] := hl
  unfold F_Lw_hardness at hF
  refine lv_iconst (v := (0 : Int32)) hx hb (dk DX3_hardness 0 rfl) (by decide) ?_
  refine lv_istore_n (lv' := [(1, .int (0 : Int32)), (0, .ref (G.2.1 + 8))]) hx hb (dk DX3_hardness 1 rfl) rfl hl (by decide) rfl (fun ls hl => ?_)
  refine lv_iconst (v := (0 : Int32)) hx hb (dk DX3_hardness 2 rfl) (by decide) ?_
  refine lv_istore_n (lv' := [(2, .int (0 : Int32)), (1, .int (0 : Int32)), (0, .ref (G.2.1 + 8))]) hx hb (dk DX3_hardness 3 rfl) rfl hl (by decide) rfl (fun ls hl => ?_)
  refine lv_iconst (v := (0 : Int32)) hx hb (dk DX3_hardness 4 rfl) (by decide) ?_
  refine lv_istore_n (lv' := [(3, .int (0 : Int32)), (2, .int (0 : Int32)), (1, .int (0 : Int32)), (0, .ref (G.2.1 + 8))]) hx hb (dk DX3_hardness 5 rfl) rfl hl (by decide) rfl (fun ls hl => ?_)
  have L6 : ∀ (nf : Nat) (x2 : Int32) (x3 : Int32) (x4 : Int32) (m1 : Mem) (H : Heap) (locs : List Loc) (ls : Array Slot), lv_has ls 5 [(0, .ref (G.2.1 + 8)), (1, .int x2), (2, .int x3), (3, .int x4)] → Rp G mr0 N0 m1 s H locs → F_Lw_hardness_L6 nf x2 x3 x4 m1 = some (v, m') → W p l e (rmD 2) s mid args below meth c H locs 0 0 (MQ below (QR G mr0 N0 (some (.int v)) m') args s 0 0 (fun q => G.2.1 ≤ q)) (F0 mid 6 ls []) := by
    intro nf
    induction nf with
    | zero =>
      intro x2 x3 x4 m1 H locs ls hl hR hF
      rw [F_Lw_hardness_L6] at hF
      cases hF
    | succ nf ih6 =>
      intro x2 x3 x4 m1 H locs ls hl hR hF
      rw [F_Lw_hardness_L6] at hF
      refine lv_iload_n hx hb (dk DX3_hardness 6 rfl) rfl (lv_at hl 3 rfl) ?_
      refine lv_aload_n hx hb (dk DX3_hardness 7 rfl) rfl (lv_at hl 0 rfl) ?_
      refine gX3_15 C hR ob8 (dk DX3_hardness 8 rfl) ?_
      refine lv_icmp_ge (tgt := 178) hx hb (dk DX3_hardness 9 rfl) (by decide) (fun c11 => ?_) (fun c11 => ?_)
      · have hF := if_t c11 hF
        refine lv_iload_n hx hb (dk DX3_hardness 94 rfl) rfl (lv_at hl 1 rfl) ?_
        cases hF
        exact r_iret (v := x2) C hrt hR (dk DX3_hardness 95 rfl)
      · have hF := if_f c11 hF
        refine lv_iload_n hx hb (dk DX3_hardness 10 rfl) rfl (lv_at hl 3 rfl) ?_
        refine lv_sipush (v := (400 : Int32)) hx hb (dk DX3_hardness 11 rfl) (by decide) ?_
        refine lv_icmp_ge (tgt := 178) hx hb (dk DX3_hardness 12 rfl) (by decide) (fun c18 => ?_) (fun c18 => ?_)
        · have hF := if_t c18 hF
          refine lv_iload_n hx hb (dk DX3_hardness 94 rfl) rfl (lv_at hl 1 rfl) ?_
          cases hF
          exact r_iret (v := x2) C hrt hR (dk DX3_hardness 95 rfl)
        · have hF := if_f c18 hF
          refine lv_aload_n hx hb (dk DX3_hardness 13 rfl) rfl (lv_at hl 0 rfl) ?_
          refine gX3_18 C hR ob8 rf8_2 (dk DX3_hardness 14 rfl) ?_
          refine lv_iload_n hx hb (dk DX3_hardness 15 rfl) rfl (lv_at hl 3 rfl) ?_
          obtain ⟨h7, hF⟩ := ckB_ex hF
          refine r_iald C hR ob9 h7 (dk DX3_hardness 16 rfl) ?_
          refine lv_topi (fun x8 ex8 => ?_)
          have hF := lt_at ex8 hF
          refine lv_istore (lv' := [(4, .int x8), (0, .ref (G.2.1 + 8)), (1, .int x2), (2, .int x3), (3, .int x4)]) hx hb (dk DX3_hardness 17 rfl) hl (by decide) rfl (fun ls hl => ?_)
          refine lv_iload hx hb (dk DX3_hardness 18 rfl) (lv_at hl 0 rfl) ?_
          refine lv_sipush (v := (1008 : Int32)) hx hb (dk DX3_hardness 19 rfl) (by decide) ?_
          obtain ⟨k172_11, ek172_11, hF⟩ := lt_ex hF
          have J172 : ∀ (x10 : Int32) (x11 : Int32) (m9 : Mem) (H : Heap) (locs : List Loc) (ls : Array Slot), lv_has ls 5 [(0, .ref (G.2.1 + 8)), (1, .int x10), (2, .int x11), (3, .int x4)] → Rp G mr0 N0 m9 s H locs → k172_11 x10 x11 m9 = some (v, m') → W p l e (rmD 2) s mid args below meth c H locs 0 0 (MQ below (QR G mr0 N0 (some (.int v)) m') args s 0 0 (fun q => G.2.1 ≤ q)) (F0 mid 172 ls []) := by
            intro x10 x11 m9 H locs ls hl hR hF
            rw [ek172_11] at hF
            obtain ⟨x12, ex12, hF⟩ := lt_ex hF
            refine lv_iinc (v := x12) (lv' := [(3, .int x12), (0, .ref (G.2.1 + 8)), (1, .int x10), (2, .int x11)]) hx hb (dk DX3_hardness 92 rfl) hl (k := 3) rfl (by rw [ex12]; rfl) (by decide) rfl (fun ls hl => ?_)
            refine lv_goto (tgt := 6) hx hb (dk DX3_hardness 93 rfl) (by decide) ?_
            exact ih6 x10 x11 x12 m9 _ _ ls (lv_sub hl [1, 2, 3, 0] rfl) hR hF
          refine lv_icmp_ge (tgt := 82) hx hb (dk DX3_hardness 20 rfl) (by decide) (fun c34 => ?_) (fun c34 => ?_)
          · have hF := if_t c34 hF
            refine lv_iload hx hb (dk DX3_hardness 42 rfl) (lv_at hl 0 rfl) ?_
            refine lv_sipush (v := (2000 : Int32)) hx hb (dk DX3_hardness 43 rfl) (by decide) ?_
            refine lv_icmp_lt (tgt := 117) hx hb (dk DX3_hardness 44 rfl) (by decide) (fun c87 => ?_) (fun c87 => ?_)
            · have hF := if_t c87 hF
              refine lv_iload hx hb (dk DX3_hardness 59 rfl) (lv_at hl 0 rfl) ?_
              refine lv_sipush (v := (1100 : Int32)) hx hb (dk DX3_hardness 60 rfl) (by decide) ?_
              refine lv_icmp_ne (tgt := 144) hx hb (dk DX3_hardness 61 rfl) (by decide) (fun c122 => ?_) (fun c122 => ?_)
              · have hF := if_f c122 hF
                obtain ⟨x13, ex13, hF⟩ := lt_ex hF
                refine lv_iinc (v := x13) (lv' := [(2, .int x13), (4, .int x8), (0, .ref (G.2.1 + 8)), (1, .int x2), (3, .int x4)]) hx hb (dk DX3_hardness 75 rfl) hl (k := 3) rfl (by rw [ex13]; rfl) (by decide) rfl (fun ls hl => ?_)
                refine lv_aload_n hx hb (dk DX3_hardness 76 rfl) rfl (lv_at hl 2 rfl) ?_
                refine lv_iload_n hx hb (dk DX3_hardness 77 rfl) rfl (lv_at hl 0 rfl) ?_
                refine lv_iconst (v := (1 : Int32)) hx hb (dk DX3_hardness 78 rfl) (by decide) ?_
                refine lv_isub hx hb (dk DX3_hardness 79 rfl) ?_
                refine lv_aload_n hx hb (dk DX3_hardness 80 rfl) rfl (lv_at hl 2 rfl) ?_
                refine lv_iload hx hb (dk DX3_hardness 81 rfl) (lv_at hl 1 rfl) ?_
                refine lv_aload_n hx hb (dk DX3_hardness 82 rfl) rfl (lv_at hl 2 rfl) ?_
                refine lv_iload_n hx hb (dk DX3_hardness 83 rfl) rfl (lv_at hl 0 rfl) ?_
                refine lv_iconst (v := (1 : Int32)) hx hb (dk DX3_hardness 84 rfl) (by decide) ?_
                refine lv_isub hx hb (dk DX3_hardness 85 rfl) ?_
                obtain ⟨x16, m14, hz15, hF⟩ := bnd_ex hF
                refine r_callVi (As := [.int (x13 - (1 : Int32))]) (rest := [.int x8, .ref (G.2.1 + 8), .int (x13 - (1 : Int32)), .ref (G.2.1 + 8)]) C hR (C_Lw_stackAt l hl0 G (x13 - (1 : Int32)) m1 _ _ hz15) (by decide) (by decide) ob8 rfl wX3_32 rfl rfl (Nat.le_of_ble_eq_true rfl) hl.1 ⟨Nat.zero_le _, Nat.zero_le _⟩ (dk DX3_hardness 86 rfl) (fun H locs hR => ?_)
                refine lv_aload_n hx hb (dk DX3_hardness 87 rfl) rfl (lv_at hl 2 rfl) ?_
                refine lv_iload_n hx hb (dk DX3_hardness 88 rfl) rfl (lv_at hl 0 rfl) ?_
                obtain ⟨x19, m17, hz18, hF⟩ := bnd_ex hF
                refine r_callVi (As := [.int x13]) (rest := [.int x16, .int x8, .ref (G.2.1 + 8), .int (x13 - (1 : Int32)), .ref (G.2.1 + 8)]) C hR (C_Lw_stackAt l hl0 G x13 m14 _ _ hz18) (by decide) (by decide) ob8 rfl wX3_32 rfl rfl (Nat.le_of_ble_eq_true rfl) hl.1 ⟨Nat.zero_le _, Nat.zero_le _⟩ (dk DX3_hardness 89 rfl) (fun H locs hR => ?_)
                obtain ⟨x22, m20, hz21, hF⟩ := bnd_ex hF
                refine r_callVi (As := [.int x8, .int x16, .int x19]) (rest := [.int (x13 - (1 : Int32)), .ref (G.2.1 + 8)]) C hR (C_Lw_joined l hl0 G x8 x16 x19 m17 _ _ hz21) (by decide) (by decide) ob8 rfl wX3_39 rfl rfl (Nat.le_of_ble_eq_true rfl) hl.1 ⟨Nat.zero_le _, Nat.zero_le _⟩ (dk DX3_hardness 90 rfl) (fun H locs hR => ?_)
                obtain ⟨u25, m23, hz24, hF⟩ := bnd_ex hF
                refine r_callVv (As := [.int (x13 - (1 : Int32)), .int x22]) (rest := []) C hR (C_Lw_setStack l hl0 G (x13 - (1 : Int32)) x22 m20 _ _ hz24) (by decide) (by decide) ob8 rfl wX3_35 rfl rfl (Nat.le_of_ble_eq_true rfl) hl.1 ⟨Nat.zero_le _, Nat.zero_le _⟩ (dk DX3_hardness 91 rfl) (fun H locs hR => ?_)
                exact J172 x2 x13 m23 _ _ ls (lv_sub hl [2, 3, 0, 4] rfl) hR hF
              · have hF := if_t c122 hF
                refine lv_aload_n hx hb (dk DX3_hardness 62 rfl) rfl (lv_at hl 1 rfl) ?_
                refine lv_iload_n hx hb (dk DX3_hardness 63 rfl) rfl (lv_at hl 3 rfl) ?_
                refine lv_iconst (v := (1 : Int32)) hx hb (dk DX3_hardness 64 rfl) (by decide) ?_
                refine lv_isub hx hb (dk DX3_hardness 65 rfl) ?_
                refine lv_iconst (v := (1 : Int32)) hx hb (dk DX3_hardness 66 rfl) (by decide) ?_
                refine lv_aload_n hx hb (dk DX3_hardness 67 rfl) rfl (lv_at hl 1 rfl) ?_
                refine lv_iload_n hx hb (dk DX3_hardness 68 rfl) rfl (lv_at hl 3 rfl) ?_
                refine lv_iconst (v := (1 : Int32)) hx hb (dk DX3_hardness 69 rfl) (by decide) ?_
                refine lv_isub hx hb (dk DX3_hardness 70 rfl) ?_
                obtain ⟨x28, m26, hz27, hF⟩ := bnd_ex hF
                refine r_callVi (As := [.int (x3 - (1 : Int32))]) (rest := [.int (1 : Int32), .int (x3 - (1 : Int32)), .ref (G.2.1 + 8)]) C hR (C_Lw_stackAt l hl0 G (x3 - (1 : Int32)) m1 _ _ hz27) (by decide) (by decide) ob8 rfl wX3_32 rfl rfl (Nat.le_of_ble_eq_true rfl) hl.1 ⟨Nat.zero_le _, Nat.zero_le _⟩ (dk DX3_hardness 71 rfl) (fun H locs hR => ?_)
                refine lv_isub hx hb (dk DX3_hardness 72 rfl) ?_
                obtain ⟨u31, m29, hz30, hF⟩ := bnd_ex hF
                refine r_callVv (As := [.int (x3 - (1 : Int32)), .int ((1 : Int32) - x28)]) (rest := []) C hR (C_Lw_setStack l hl0 G (x3 - (1 : Int32)) ((1 : Int32) - x28) m26 _ _ hz30) (by decide) (by decide) ob8 rfl wX3_35 rfl rfl (Nat.le_of_ble_eq_true rfl) hl.1 ⟨Nat.zero_le _, Nat.zero_le _⟩ (dk DX3_hardness 73 rfl) (fun H locs hR => ?_)
                refine lv_goto (tgt := 172) hx hb (dk DX3_hardness 74 rfl) (by decide) ?_
                exact J172 x2 x3 m29 _ _ ls (lv_sub hl [1, 2, 3, 4] rfl) hR hF
            · have hF := if_f c87 hF
              obtain ⟨x32, ex32, hF⟩ := lt_ex hF
              refine lv_iinc (v := x32) (lv' := [(2, .int x32), (4, .int x8), (0, .ref (G.2.1 + 8)), (1, .int x2), (3, .int x4)]) hx hb (dk DX3_hardness 45 rfl) hl (k := 3) rfl (by rw [ex32]; rfl) (by decide) rfl (fun ls hl => ?_)
              refine lv_iload_n hx hb (dk DX3_hardness 46 rfl) rfl (lv_at hl 3 rfl) ?_
              refine lv_aload_n hx hb (dk DX3_hardness 47 rfl) rfl (lv_at hl 2 rfl) ?_
              refine lv_iload_n hx hb (dk DX3_hardness 48 rfl) rfl (lv_at hl 0 rfl) ?_
              obtain ⟨x35, m33, hz34, hF⟩ := bnd_ex hF
              refine r_callVi (As := [.int x32]) (rest := [.int x2]) C hR (C_Lw_stackAt l hl0 G x32 m1 _ _ hz34) (by decide) (by decide) ob8 rfl wX3_32 rfl rfl (Nat.le_of_ble_eq_true rfl) hl.1 ⟨Nat.zero_le _, Nat.zero_le _⟩ (dk DX3_hardness 49 rfl) (fun H locs hR => ?_)
              obtain ⟨k112_37, ek112_37, hF⟩ := lt_ex hF
              have J112 : ∀ (x37 : Int32) (m36 : Mem) (H : Heap) (locs : List Loc) (ls : Array Slot), lv_has ls 5 [(0, .ref (G.2.1 + 8)), (2, .int x32), (3, .int x4)] → Rp G mr0 N0 m36 s H locs → k112_37 x37 m36 = some (v, m') → W p l e (rmD 2) s mid args below meth c H locs 0 0 (MQ below (QR G mr0 N0 (some (.int v)) m') args s 0 0 (fun q => G.2.1 ≤ q)) (F0 mid 112 ls [.int x37, .int x2]) := by
                intro x37 m36 H locs ls hl hR hF
                rw [ek112_37] at hF
                refine lv_iadd hx hb (dk DX3_hardness 56 rfl) ?_
                refine lv_topi (fun x38 ex38 => ?_)
                have hF := lt_at ex38 hF
                refine lv_istore_n (lv' := [(1, .int x38), (0, .ref (G.2.1 + 8)), (2, .int x32), (3, .int x4)]) hx hb (dk DX3_hardness 57 rfl) rfl hl (by decide) rfl (fun ls hl => ?_)
                refine lv_goto (tgt := 172) hx hb (dk DX3_hardness 58 rfl) (by decide) ?_
                exact J172 x38 x32 m36 _ _ ls (lv_sub hl [1, 0, 2, 3] rfl) hR hF
              refine lv_if_eq (tgt := 111) hx hb (dk DX3_hardness 50 rfl) (by decide) (fun c99 => ?_) (fun c99 => ?_)
              · have hF := if_t c99 hF
                refine lv_iconst (v := (0 : Int32)) hx hb (dk DX3_hardness 55 rfl) (by decide) ?_
                exact J112 (0 : Int32) m33 _ _ ls (lv_sub hl [2, 0, 4] rfl) hR hF
              · have hF := if_f c99 hF
                refine lv_iload hx hb (dk DX3_hardness 51 rfl) (lv_at hl 1 rfl) ?_
                refine lv_sipush (v := (2000 : Int32)) hx hb (dk DX3_hardness 52 rfl) (by decide) ?_
                refine lv_isub hx hb (dk DX3_hardness 53 rfl) ?_
                refine lv_goto (tgt := 112) hx hb (dk DX3_hardness 54 rfl) (by decide) ?_
                exact J112 (x8 - (2000 : Int32)) m33 _ _ ls (lv_sub hl [2, 0, 4] rfl) hR hF
          · have hF := if_f c34 hF
            refine lv_iload_n hx hb (dk DX3_hardness 21 rfl) rfl (lv_at hl 3 rfl) ?_
            obtain ⟨k76_39, ek76_39, hF⟩ := lt_ex hF
            have J76 : ∀ (m39 : Mem) (H : Heap) (locs : List Loc) (ls : Array Slot), lv_has ls 5 [(0, .ref (G.2.1 + 8)), (1, .int x2), (2, .int x3), (3, .int x4)] → Rp G mr0 N0 m39 s H locs → k76_39  m39 = some (v, m') → W p l e (rmD 2) s mid args below meth c H locs 0 0 (MQ below (QR G mr0 N0 (some (.int v)) m') args s 0 0 (fun q => G.2.1 ≤ q)) (F0 mid 76 ls []) := by
              intro  m39 H locs ls hl hR hF
              rw [ek76_39] at hF
              obtain ⟨x40, ex40, hF⟩ := lt_ex hF
              refine lv_iinc (v := x40) (lv' := [(2, .int x40), (0, .ref (G.2.1 + 8)), (1, .int x2), (3, .int x4)]) hx hb (dk DX3_hardness 40 rfl) hl (k := 2) rfl (by rw [ex40]; rfl) (by decide) rfl (fun ls hl => ?_)
              refine lv_goto (tgt := 172) hx hb (dk DX3_hardness 41 rfl) (by decide) ?_
              exact J172 x2 x40 m39 _ _ ls (lv_sub hl [1, 2, 0, 3] rfl) hR hF
            refine lv_if_lt (tgt := 76) hx hb (dk DX3_hardness 22 rfl) (by decide) (fun c38 => ?_) (fun c38 => ?_)
            · have hF := if_t c38 hF
              exact J76 m1 _ _ ls (lv_sub hl [1, 2, 3, 4] rfl) hR hF
            · have hF := if_f c38 hF
              refine lv_iload_n hx hb (dk DX3_hardness 23 rfl) rfl (lv_at hl 3 rfl) ?_
              refine lv_bipush (v := (64 : Int32)) hx hb (dk DX3_hardness 24 rfl) (by decide) ?_
              refine lv_icmp_ge (tgt := 76) hx hb (dk DX3_hardness 25 rfl) (by decide) (fun c44 => ?_) (fun c44 => ?_)
              · have hF := if_t c44 hF
                exact J76 m1 _ _ ls (lv_sub hl [1, 2, 3, 4] rfl) hR hF
              · have hF := if_f c44 hF
                refine lv_aload_n hx hb (dk DX3_hardness 26 rfl) rfl (lv_at hl 1 rfl) ?_
                refine gX3_25 C hR ob8 rf8_4 (dk DX3_hardness 27 rfl) ?_
                refine lv_iload_n hx hb (dk DX3_hardness 28 rfl) rfl (lv_at hl 3 rfl) ?_
                refine lv_iload hx hb (dk DX3_hardness 29 rfl) (lv_at hl 0 rfl) ?_
                refine lv_sipush (v := (1000 : Int32)) hx hb (dk DX3_hardness 30 rfl) (by decide) ?_
                obtain ⟨k75_42, ek75_42, hF⟩ := lt_ex hF
                have J75 : ∀ (x42 : Int32) (m41 : Mem) (H : Heap) (locs : List Loc) (ls : Array Slot), lv_has ls 5 [(0, .ref (G.2.1 + 8)), (1, .int x2), (2, .int x3), (3, .int x4)] → Rp G mr0 N0 m41 s H locs → k75_42 x42 m41 = some (v, m') → W p l e (rmD 2) s mid args below meth c H locs 0 0 (MQ below (QR G mr0 N0 (some (.int v)) m') args s 0 0 (fun q => G.2.1 ≤ q)) (F0 mid 75 ls [.int x42, .int x3, .ref (G.2.1 + 11)]) := by
                  intro x42 m41 H locs ls hl hR hF
                  rw [ek75_42] at hF
                  obtain ⟨h44, hF⟩ := ckB_ex hF
                  refine r_iast C hR ob11 h44 (dk DX3_hardness 39 rfl) (fun H locs hR => ?_)
                  obtain ⟨m43, em43, hF⟩ := lt_ex hF
                  have hR := Rp_at em43 hR
                  exact J76 m43 _ _ ls (lv_sub hl [0, 1, 2, 3] rfl) hR hF
                refine lv_icmp_ge (tgt := 65) hx hb (dk DX3_hardness 31 rfl) (by decide) (fun c57 => ?_) (fun c57 => ?_)
                · have hF := if_t c57 hF
                  refine lv_aload_n hx hb (dk DX3_hardness 34 rfl) rfl (lv_at hl 1 rfl) ?_
                  refine lv_iload hx hb (dk DX3_hardness 35 rfl) (lv_at hl 0 rfl) ?_
                  refine lv_sipush (v := (1000 : Int32)) hx hb (dk DX3_hardness 36 rfl) (by decide) ?_
                  refine lv_isub hx hb (dk DX3_hardness 37 rfl) ?_
                  obtain ⟨x47, m45, hz46, hF⟩ := bnd_ex hF
                  refine r_callVi (As := [.int (x8 - (1000 : Int32))]) (rest := [.int x3, .ref (G.2.1 + 11)]) C hR (C_Lw_placeAt l hl0 G (x8 - (1000 : Int32)) m1 _ _ hz46) (by decide) (by decide) ob8 rfl wX3_28 rfl rfl (Nat.le_of_ble_eq_true rfl) hl.1 ⟨Nat.zero_le _, Nat.zero_le _⟩ (dk DX3_hardness 38 rfl) (fun H locs hR => ?_)
                  exact J75 x47 m45 _ _ ls (lv_sub hl [1, 2, 3, 4] rfl) hR hF
                · have hF := if_f c57 hF
                  refine lv_iload hx hb (dk DX3_hardness 32 rfl) (lv_at hl 0 rfl) ?_
                  refine lv_goto (tgt := 75) hx hb (dk DX3_hardness 33 rfl) (by decide) ?_
                  exact J75 x8 m1 _ _ ls (lv_sub hl [1, 2, 3, 4] rfl) hR hF
  exact L6 1000000 (0 : Int32) (0 : Int32) (0 : Int32) m0 _ _ ls (lv_sub hl [3, 2, 1, 0] rfl) hR hF
set_option maxHeartbeats 4000000 in
set_option maxRecDepth 100000 in
theorem C_Gr_levelOf (l : Launch) (hl0 : l.stackTraces = false) (G : GG) (a1 : Int32) (a2 : Int32) (a3 : Int32) (m0 : Mem) (v : Int32) (m' : Mem) (hF : F_Gr_levelOf a1 a2 a3 m0 = some (v, m')) : Ct l G mr0 N0 yX1_levelOf cX1_levelOf 5 (some .int) 3 [.ref (G.2.1 + 3), .int a1, .int a2, .int a3] m0 (some (.int v)) m' := by
  refine Ct_of hl0 (by decide) (Nat.le_of_ble_eq_true rfl) ?_
  intro p e s mid args below meth c ls C hrt hl hR
  have hx := C.1.1
  have hb := C.1.2.1
  have hl : lv_has ls 5 [(0, .ref (G.2.1 + 3)), (1, .int a1), (2, .int a2), (3, .int a3)] := hl
  unfold F_Gr_levelOf at hF
  refine lv_iload_n hx hb (dk DX1_levelOf 0 rfl) rfl (lv_at hl 1 rfl) ?_
  refine lv_bipush (v := (8 : Int32)) hx hb (dk DX1_levelOf 1 rfl) (by decide) ?_
  refine lv_imul hx hb (dk DX1_levelOf 2 rfl) ?_
  refine lv_iload_n hx hb (dk DX1_levelOf 3 rfl) rfl (lv_at hl 2 rfl) ?_
  refine lv_iconst (v := (2 : Int32)) hx hb (dk DX1_levelOf 4 rfl) (by decide) ?_
  refine lv_imul hx hb (dk DX1_levelOf 5 rfl) ?_
  refine lv_iadd hx hb (dk DX1_levelOf 6 rfl) ?_
  refine lv_iload_n hx hb (dk DX1_levelOf 7 rfl) rfl (lv_at hl 3 rfl) ?_
  refine lv_iadd hx hb (dk DX1_levelOf 8 rfl) ?_
  refine lv_topi (fun x1 ex1 => ?_)
  have hF := lt_at ex1 hF
  refine lv_istore (lv' := [(4, .int x1), (0, .ref (G.2.1 + 3)), (1, .int a1), (2, .int a2), (3, .int a3)]) hx hb (dk DX1_levelOf 9 rfl) hl (by decide) rfl (fun ls hl => ?_)
  refine lv_iload hx hb (dk DX1_levelOf 10 rfl) (lv_at hl 0 rfl) ?_
  refine lv_if_lt (tgt := 24) hx hb (dk DX1_levelOf 11 rfl) (by decide) (fun c14 => ?_) (fun c14 => ?_)
  · have hF := if_t c14 hF
    refine lv_iconst (v := (0 : Int32)) hx hb (dk DX1_levelOf 15 rfl) (by decide) ?_
    cases hF
    exact r_iret (v := (0 : Int32)) C hrt hR (dk DX1_levelOf 16 rfl)
  · have hF := if_f c14 hF
    refine lv_iload hx hb (dk DX1_levelOf 12 rfl) (lv_at hl 0 rfl) ?_
    refine lv_bipush (v := (72 : Int32)) hx hb (dk DX1_levelOf 13 rfl) (by decide) ?_
    refine lv_icmp_lt (tgt := 26) hx hb (dk DX1_levelOf 14 rfl) (by decide) (fun c21 => ?_) (fun c21 => ?_)
    · have hF := if_t c21 hF
      refine lv_aload_n hx hb (dk DX1_levelOf 17 rfl) rfl (lv_at hl 1 rfl) ?_
      refine gX1_60 C hR ob3 rf3_13 (dk DX1_levelOf 18 rfl) ?_
      refine lv_iload hx hb (dk DX1_levelOf 19 rfl) (lv_at hl 0 rfl) ?_
      obtain ⟨h2, hF⟩ := ckB_ex hF
      refine r_iald C hR ob14 h2 (dk DX1_levelOf 20 rfl) ?_
      refine lv_topi (fun x3 ex3 => ?_)
      have hF := lt_at ex3 hF
      refine lv_iconst (v := (-1 : Int32)) hx hb (dk DX1_levelOf 21 rfl) (by decide) ?_
      obtain ⟨k140_4, ek140_4, hF⟩ := lt_ex hF
      have J140 : ∀ (m4 : Mem) (H : Heap) (locs : List Loc) (ls : Array Slot), lv_has ls 5 [(0, .ref (G.2.1 + 3)), (4, .int x1)] → Rp G mr0 N0 m4 s H locs → k140_4  m4 = some (v, m') → W p l e (rmD 3) s mid args below meth c H locs 0 0 (MQ below (QR G mr0 N0 (some (.int v)) m') args s 0 0 (fun q => G.2.1 ≤ q)) (F0 mid 140 ls []) := by
        intro  m4 H locs ls hl hR hF
        rw [ek140_4] at hF
        refine lv_aload_n hx hb (dk DX1_levelOf 77 rfl) rfl (lv_at hl 0 rfl) ?_
        refine gX1_60 C hR ob3 rf3_13 (dk DX1_levelOf 78 rfl) ?_
        refine lv_iload hx hb (dk DX1_levelOf 79 rfl) (lv_at hl 1 rfl) ?_
        obtain ⟨h5, hF⟩ := ckB_ex hF
        refine r_iald C hR ob14 h5 (dk DX1_levelOf 80 rfl) ?_
        refine lv_topi (fun x6 ex6 => ?_)
        have hF := lt_at ex6 hF
        cases hF
        exact r_iret (v := x6) C hrt hR (dk DX1_levelOf 81 rfl)
      obtain ⟨k59_7, ek59_7, hF⟩ := lt_ex hF
      have J59 : ∀ (m7 : Mem) (H : Heap) (locs : List Loc) (ls : Array Slot), lv_has ls 5 [(0, .ref (G.2.1 + 3)), (1, .int a1), (2, .int a2), (3, .int a3), (4, .int x1)] → Rp G mr0 N0 m7 s H locs → k59_7  m7 = some (v, m') → W p l e (rmD 3) s mid args below meth c H locs 0 0 (MQ below (QR G mr0 N0 (some (.int v)) m') args s 0 0 (fun q => G.2.1 ≤ q)) (F0 mid 59 ls []) := by
        intro  m7 H locs ls hl hR hF
        rw [ek59_7] at hF
        refine lv_aload_n hx hb (dk DX1_levelOf 34 rfl) rfl (lv_at hl 0 rfl) ?_
        refine gX1_60 C hR ob3 rf3_13 (dk DX1_levelOf 35 rfl) ?_
        refine lv_iload hx hb (dk DX1_levelOf 36 rfl) (lv_at hl 4 rfl) ?_
        obtain ⟨h8, hF⟩ := ckB_ex hF
        refine r_iald C hR ob14 h8 (dk DX1_levelOf 37 rfl) ?_
        refine lv_topi (fun x9 ex9 => ?_)
        have hF := lt_at ex9 hF
        refine lv_iconst (v := (-1 : Int32)) hx hb (dk DX1_levelOf 38 rfl) (by decide) ?_
        refine lv_icmp_ne (tgt := 140) hx hb (dk DX1_levelOf 39 rfl) (by decide) (fun c67 => ?_) (fun c67 => ?_)
        · have hF := if_f c67 hF
          exact J140 m7 _ _ ls (lv_sub hl [0, 4] rfl) hR hF
        · have hF := if_t c67 hF
          refine lv_aload_n hx hb (dk DX1_levelOf 40 rfl) rfl (lv_at hl 0 rfl) ?_
          refine gX1_49 C hR ob3 rf3_11 (dk DX1_levelOf 41 rfl) ?_
          refine lv_iload_n hx hb (dk DX1_levelOf 42 rfl) rfl (lv_at hl 1 rfl) ?_
          refine lv_iload_n hx hb (dk DX1_levelOf 43 rfl) rfl (lv_at hl 2 rfl) ?_
          refine lv_iload_n hx hb (dk DX1_levelOf 44 rfl) rfl (lv_at hl 3 rfl) ?_
          obtain ⟨u12, m10, hz11, hF⟩ := bnd_ex hF
          refine r_callVv (As := [.int a1, .int a2, .int a3]) (rest := []) C hR (C_Lw_stand l hl0 G a1 a2 a3 m7 _ _ hz11) (by decide) (by decide) ob8 rfl wX1_83 rfl rfl (Nat.le_of_ble_eq_true rfl) hl.1 ⟨Nat.zero_le _, Nat.zero_le _⟩ (dk DX1_levelOf 45 rfl) (fun H locs hR => ?_)
          refine lv_aload_n hx hb (dk DX1_levelOf 46 rfl) rfl (lv_at hl 0 rfl) ?_
          refine gX1_49 C hR ob3 rf3_11 (dk DX1_levelOf 47 rfl) ?_
          refine lv_aload_n hx hb (dk DX1_levelOf 48 rfl) rfl (lv_at hl 0 rfl) ?_
          refine lv_iload_n hx hb (dk DX1_levelOf 49 rfl) rfl (lv_at hl 3 rfl) ?_
          obtain ⟨x15, m13, hz14, hF⟩ := bnd_ex hF
          refine r_callVi (As := [.int a3]) (rest := [.ref (G.2.1 + 8)]) C hR (C_Gr_batOf l hl0 G a3 m10 _ _ hz14) (by decide) (by decide) ob3 rfl wX1_87 rfl rfl (Nat.le_of_ble_eq_true rfl) hl.1 ⟨Nat.zero_le _, Nat.zero_le _⟩ (dk DX1_levelOf 50 rfl) (fun H locs hR => ?_)
          refine lv_aload_n hx hb (dk DX1_levelOf 51 rfl) rfl (lv_at hl 0 rfl) ?_
          refine lv_iconst (v := (1 : Int32)) hx hb (dk DX1_levelOf 52 rfl) (by decide) ?_
          refine lv_iload_n hx hb (dk DX1_levelOf 53 rfl) rfl (lv_at hl 3 rfl) ?_
          refine lv_isub hx hb (dk DX1_levelOf 54 rfl) ?_
          obtain ⟨x18, m16, hz17, hF⟩ := bnd_ex hF
          refine r_callVi (As := [.int ((1 : Int32) - a3)]) (rest := [.int x15, .ref (G.2.1 + 8)]) C hR (C_Gr_bowlOf l hl0 G ((1 : Int32) - a3) m13 _ _ hz17) (by decide) (by decide) ob3 rfl wX1_91 rfl rfl (Nat.le_of_ble_eq_true rfl) hl.1 ⟨Nat.zero_le _, Nat.zero_le _⟩ (dk DX1_levelOf 55 rfl) (fun H locs hR => ?_)
          obtain ⟨u21, m19, hz20, hF⟩ := bnd_ex hF
          refine r_callVv (As := [.int x15, .int x18]) (rest := []) C hR (C_Lw_standSides l hl0 G x15 x18 m16 _ _ hz20) (by decide) (by decide) ob8 rfl wX1_94 rfl rfl (Nat.le_of_ble_eq_true rfl) hl.1 ⟨Nat.zero_le _, Nat.zero_le _⟩ (dk DX1_levelOf 56 rfl) (fun H locs hR => ?_)
          refine lv_aload_n hx hb (dk DX1_levelOf 57 rfl) rfl (lv_at hl 0 rfl) ?_
          refine gX1_49 C hR ob3 rf3_11 (dk DX1_levelOf 58 rfl) ?_
          refine lv_aload_n hx hb (dk DX1_levelOf 59 rfl) rfl (lv_at hl 0 rfl) ?_
          refine gX1_15 C hR ob3 (dk DX1_levelOf 60 rfl) ?_
          refine lv_iload_n hx hb (dk DX1_levelOf 61 rfl) rfl (lv_at hl 1 rfl) ?_
          obtain ⟨x24, m22, hz23, hF⟩ := bnd_ex hF
          refine r_callSNi (As := [.int (gI m19 3 1), .int a1]) (rest := [.ref (G.2.1 + 8)]) C hR (C_T_bitOf l hl0 G (gI m19 3 1) a1 m19 _ _ hz23) (by decide) (by decide) wX1_70 rfl rfl (Nat.le_of_ble_eq_true rfl) hl.1 ⟨Nat.zero_le _, Nat.zero_le _⟩ (dk DX1_levelOf 62 rfl) (fun H locs hR => ?_)
          refine lv_aload_n hx hb (dk DX1_levelOf 63 rfl) rfl (lv_at hl 0 rfl) ?_
          refine gX1_18 C hR ob3 (dk DX1_levelOf 64 rfl) ?_
          refine lv_iload_n hx hb (dk DX1_levelOf 65 rfl) rfl (lv_at hl 1 rfl) ?_
          obtain ⟨x27, m25, hz26, hF⟩ := bnd_ex hF
          refine r_callSNi (As := [.int (gI m22 3 2), .int a1]) (rest := [.int x24, .ref (G.2.1 + 8)]) C hR (C_T_bitOf l hl0 G (gI m22 3 2) a1 m22 _ _ hz26) (by decide) (by decide) wX1_70 rfl rfl (Nat.le_of_ble_eq_true rfl) hl.1 ⟨Nat.zero_le _, Nat.zero_le _⟩ (dk DX1_levelOf 66 rfl) (fun H locs hR => ?_)
          obtain ⟨u30, m28, hz29, hF⟩ := bnd_ex hF
          refine r_callVv (As := [.int x24, .int x27]) (rest := []) C hR (C_Lw_standSky l hl0 G x24 x27 m25 _ _ hz29) (by decide) (by decide) ob8 rfl wX1_98 rfl rfl (Nat.le_of_ble_eq_true rfl) hl.1 ⟨Nat.zero_le _, Nat.zero_le _⟩ (dk DX1_levelOf 67 rfl) (fun H locs hR => ?_)
          refine lv_aload_n hx hb (dk DX1_levelOf 68 rfl) rfl (lv_at hl 0 rfl) ?_
          refine gX1_60 C hR ob3 rf3_13 (dk DX1_levelOf 69 rfl) ?_
          refine lv_iload hx hb (dk DX1_levelOf 70 rfl) (lv_at hl 4 rfl) ?_
          refine lv_iconst (v := (3 : Int32)) hx hb (dk DX1_levelOf 71 rfl) (by decide) ?_
          refine lv_aload_n hx hb (dk DX1_levelOf 72 rfl) rfl (lv_at hl 0 rfl) ?_
          refine gX1_49 C hR ob3 rf3_11 (dk DX1_levelOf 73 rfl) ?_
          obtain ⟨x33, m31, hz32, hF⟩ := bnd_ex hF
          refine r_callVi (As := []) (rest := [.int (3 : Int32), .int x1, .ref (G.2.1 + 14)]) C hR (C_Lw_hardness l hl0 G m28 _ _ hz32) (by decide) (by decide) ob8 rfl wX1_101 rfl rfl (Nat.le_of_ble_eq_true rfl) hl.1 ⟨Nat.zero_le _, Nat.zero_le _⟩ (dk DX1_levelOf 74 rfl) (fun H locs hR => ?_)
          refine r_mnI C (gd q695 rfl) (by decide) (Nat.le_of_ble_eq_true rfl) hl.1 ⟨Nat.zero_le _, Nat.zero_le _⟩ (dk DX1_levelOf 75 rfl) ?_
          obtain ⟨h35, hF⟩ := ckB_ex hF
          refine r_iast C hR ob14 h35 (dk DX1_levelOf 76 rfl) (fun H locs hR => ?_)
          obtain ⟨m34, em34, hF⟩ := lt_ex hF
          have hR := Rp_at em34 hR
          exact J140 m34 _ _ ls (lv_sub hl [0, 4] rfl) hR hF
      refine lv_icmp_ne (tgt := 59) hx hb (dk DX1_levelOf 22 rfl) (by decide) (fun c34 => ?_) (fun c34 => ?_)
      · have hF := if_f c34 hF
        exact J59 m0 _ _ ls (lv_sub hl [1, 2, 3, 4, 0] rfl) hR hF
      · have hF := if_t c34 hF
        refine lv_aload_n hx hb (dk DX1_levelOf 23 rfl) rfl (lv_at hl 1 rfl) ?_
        refine gX1_49 C hR ob3 rf3_11 (dk DX1_levelOf 24 rfl) ?_
        refine gX1_80 C hR ob8 (dk DX1_levelOf 25 rfl) ?_
        refine lv_iconst (v := (-1 : Int32)) hx hb (dk DX1_levelOf 26 rfl) (by decide) ?_
        refine lv_icmp_ne (tgt := 59) hx hb (dk DX1_levelOf 27 rfl) (by decide) (fun c45 => ?_) (fun c45 => ?_)
        · have hF := if_f c45 hF
          exact J59 m0 _ _ ls (lv_sub hl [1, 2, 3, 4, 0] rfl) hR hF
        · have hF := if_t c45 hF
          refine lv_aload_n hx hb (dk DX1_levelOf 28 rfl) rfl (lv_at hl 1 rfl) ?_
          refine gX1_60 C hR ob3 rf3_13 (dk DX1_levelOf 29 rfl) ?_
          refine lv_iload hx hb (dk DX1_levelOf 30 rfl) (lv_at hl 0 rfl) ?_
          refine lv_iconst (v := (1 : Int32)) hx hb (dk DX1_levelOf 31 rfl) (by decide) ?_
          obtain ⟨h37, hF⟩ := ckB_ex hF
          refine r_iast C hR ob14 h37 (dk DX1_levelOf 32 rfl) (fun H locs hR => ?_)
          obtain ⟨m36, em36, hF⟩ := lt_ex hF
          have hR := Rp_at em36 hR
          refine lv_goto (tgt := 140) hx hb (dk DX1_levelOf 33 rfl) (by decide) ?_
          exact J140 m36 _ _ ls (lv_sub hl [1, 0] rfl) hR hF
    · have hF := if_f c21 hF
      refine lv_iconst (v := (0 : Int32)) hx hb (dk DX1_levelOf 15 rfl) (by decide) ?_
      cases hF
      exact r_iret (v := (0 : Int32)) C hrt hR (dk DX1_levelOf 16 rfl)
set_option maxHeartbeats 4000000 in
set_option maxRecDepth 100000 in
theorem C_Gr_outsOf (l : Launch) (hl0 : l.stackTraces = false) (G : GG) (a1 : Int32) (a2 : Int32) (m0 : Mem) (v : Int32) (m' : Mem) (hF : F_Gr_outsOf a1 a2 m0 = some (v, m')) : Ct l G mr0 N0 yX1_outsOf cX1_outsOf 4 (some .int) 1 [.ref (G.2.1 + 3), .int a1, .int a2] m0 (some (.int v)) m' := by
  refine Ct_of hl0 (by decide) (Nat.le_of_ble_eq_true rfl) ?_
  intro p e s mid args below meth c ls C hrt hl hR
  have hx := C.1.1
  have hb := C.1.2.1
  have hl : lv_has ls 4 [(0, .ref (G.2.1 + 3)), (1, .int a1), (2, .int a2)] := hl
  unfold F_Gr_outsOf at hF
  refine lv_iload_n hx hb (dk DX1_outsOf 0 rfl) rfl (lv_at hl 1 rfl) ?_
  refine lv_iconst (v := (4 : Int32)) hx hb (dk DX1_outsOf 1 rfl) (by decide) ?_
  refine lv_imul hx hb (dk DX1_outsOf 2 rfl) ?_
  refine lv_iload_n hx hb (dk DX1_outsOf 3 rfl) rfl (lv_at hl 2 rfl) ?_
  refine lv_iadd hx hb (dk DX1_outsOf 4 rfl) ?_
  refine lv_topi (fun x1 ex1 => ?_)
  have hF := lt_at ex1 hF
  refine lv_istore_n (lv' := [(3, .int x1), (0, .ref (G.2.1 + 3)), (1, .int a1), (2, .int a2)]) hx hb (dk DX1_outsOf 5 rfl) rfl hl (by decide) rfl (fun ls hl => ?_)
  refine lv_iload_n hx hb (dk DX1_outsOf 6 rfl) rfl (lv_at hl 0 rfl) ?_
  refine lv_if_lt (tgt := 16) hx hb (dk DX1_outsOf 7 rfl) (by decide) (fun c7 => ?_) (fun c7 => ?_)
  · have hF := if_t c7 hF
    refine lv_iconst (v := (0 : Int32)) hx hb (dk DX1_outsOf 11 rfl) (by decide) ?_
    refine lv_goto (tgt := 26) hx hb (dk DX1_outsOf 12 rfl) (by decide) ?_
    cases hF
    exact r_iret (v := (0 : Int32)) C hrt hR (dk DX1_outsOf 17 rfl)
  · have hF := if_f c7 hF
    refine lv_iload_n hx hb (dk DX1_outsOf 8 rfl) rfl (lv_at hl 0 rfl) ?_
    refine lv_bipush (v := (16 : Int32)) hx hb (dk DX1_outsOf 9 rfl) (by decide) ?_
    refine lv_icmp_lt (tgt := 20) hx hb (dk DX1_outsOf 10 rfl) (by decide) (fun c13 => ?_) (fun c13 => ?_)
    · have hF := if_t c13 hF
      refine lv_aload_n hx hb (dk DX1_outsOf 13 rfl) rfl (lv_at hl 1 rfl) ?_
      refine gX1_43 C hR ob3 rf3_10 (dk DX1_outsOf 14 rfl) ?_
      refine lv_iload_n hx hb (dk DX1_outsOf 15 rfl) rfl (lv_at hl 0 rfl) ?_
      obtain ⟨h2, hF⟩ := ckB_ex hF
      refine r_iald C hR ob7 h2 (dk DX1_outsOf 16 rfl) ?_
      refine lv_topi (fun x3 ex3 => ?_)
      have hF := lt_at ex3 hF
      cases hF
      exact r_iret (v := x3) C hrt hR (dk DX1_outsOf 17 rfl)
    · have hF := if_f c13 hF
      refine lv_iconst (v := (0 : Int32)) hx hb (dk DX1_outsOf 11 rfl) (by decide) ?_
      refine lv_goto (tgt := 26) hx hb (dk DX1_outsOf 12 rfl) (by decide) ?_
      cases hF
      exact r_iret (v := (0 : Int32)) C hrt hR (dk DX1_outsOf 17 rfl)
set_option maxHeartbeats 4000000 in
set_option maxRecDepth 100000 in
theorem C_Gr_outsIn (l : Launch) (hl0 : l.stackTraces = false) (G : GG) (a1 : Int32) (a2 : Int32) (a3 : Int32) (m0 : Mem) (v : Int32) (m' : Mem) (hF : F_Gr_outsIn a1 a2 a3 m0 = some (v, m')) : Ct l G mr0 N0 yX1_outsIn cX1_outsIn 4 (some .int) 2 [.ref (G.2.1 + 3), .int a1, .int a2, .int a3] m0 (some (.int v)) m' := by
  refine Ct_of hl0 (by decide) (Nat.le_of_ble_eq_true rfl) ?_
  intro p e s mid args below meth c ls C hrt hl hR
  have hx := C.1.1
  have hb := C.1.2.1
  have hl : lv_has ls 4 [(0, .ref (G.2.1 + 3)), (1, .int a1), (2, .int a2), (3, .int a3)] := hl
  unfold F_Gr_outsIn at hF
  refine lv_aload_n hx hb (dk DX1_outsIn 0 rfl) rfl (lv_at hl 0 rfl) ?_
  refine gX1_21 C hR ob3 (dk DX1_outsIn 1 rfl) ?_
  refine lv_iload_n hx hb (dk DX1_outsIn 2 rfl) rfl (lv_at hl 1 rfl) ?_
  obtain ⟨x3, m1, hz2, hF⟩ := bnd_ex hF
  refine r_callSNi (As := [.int (gI m0 3 3), .int a1]) (rest := []) C hR (C_T_bitOf l hl0 G (gI m0 3 3) a1 m0 _ _ hz2) (by decide) (by decide) wX1_70 rfl rfl (Nat.le_of_ble_eq_true rfl) hl.1 ⟨Nat.zero_le _, Nat.zero_le _⟩ (dk DX1_outsIn 3 rfl) (fun H locs hR => ?_)
  refine lv_iconst (v := (1 : Int32)) hx hb (dk DX1_outsIn 4 rfl) (by decide) ?_
  refine lv_icmp_ne (tgt := 16) hx hb (dk DX1_outsIn 5 rfl) (by decide) (fun c9 => ?_) (fun c9 => ?_)
  · have hF := if_f c9 hF
    refine lv_aload_n hx hb (dk DX1_outsIn 8 rfl) rfl (lv_at hl 0 rfl) ?_
    refine lv_iload_n hx hb (dk DX1_outsIn 9 rfl) rfl (lv_at hl 2 rfl) ?_
    refine lv_iload_n hx hb (dk DX1_outsIn 10 rfl) rfl (lv_at hl 3 rfl) ?_
    obtain ⟨x6, m4, hz5, hF⟩ := bnd_ex hF
    refine r_callVi (As := [.int a2, .int a3]) (rest := []) C hR (C_Gr_outsOf l hl0 G a2 a3 m1 _ _ hz5) (by decide) (by decide) ob3 rfl wX1_77 rfl rfl (Nat.le_of_ble_eq_true rfl) hl.1 ⟨Nat.zero_le _, Nat.zero_le _⟩ (dk DX1_outsIn 11 rfl) (fun H locs hR => ?_)
    cases hF
    exact r_iret (v := x6) C hrt hR (dk DX1_outsIn 12 rfl)
  · have hF := if_t c9 hF
    refine lv_iconst (v := (0 : Int32)) hx hb (dk DX1_outsIn 6 rfl) (by decide) ?_
    refine lv_goto (tgt := 22) hx hb (dk DX1_outsIn 7 rfl) (by decide) ?_
    cases hF
    exact r_iret (v := (0 : Int32)) C hrt hR (dk DX1_outsIn 12 rfl)
set_option maxHeartbeats 4000000 in
set_option maxRecDepth 100000 in
theorem C_Od_all (l : Launch) (hl0 : l.stackTraces = false) (G : GG) (a1 : Int32) (m0 : Mem) (v : Int64) (m' : Mem) (hF : F_Od_all a1 m0 = some (v, m')) : Ct l G mr0 N0 yX7_all cX7_all 3 (some .long) 1 [.ref (G.2.1 + 2), .int a1] m0 (some (.long v)) m' := by
  refine Ct_of hl0 (by decide) (Nat.le_of_ble_eq_true rfl) ?_
  intro p e s mid args below meth c ls C hrt hl hR
  have hx := C.1.1
  have hb := C.1.2.1
  have hl : lv_has ls 3 [(0, .ref (G.2.1 + 2)), (1, .int a1)] := hl
  unfold F_Od_all at hF
  refine lv_aload_n hx hb (dk DX7_all 0 rfl) rfl (lv_at hl 0 rfl) ?_
  refine gX7_14 C hR ob2 rf2_0 (dk DX7_all 1 rfl) ?_
  refine gX7_60 C hR ob3 (dk DX7_all 2 rfl) ?_
  refine lv_iload_n hx hb (dk DX7_all 3 rfl) rfl (lv_at hl 1 rfl) ?_
  refine lv_isub hx hb (dk DX7_all 4 rfl) ?_
  refine lv_topi (fun x1 ex1 => ?_)
  have hF := lt_at ex1 hF
  refine lv_istore_n (lv' := [(2, .int x1), (0, .ref (G.2.1 + 2)), (1, .int a1)]) hx hb (dk DX7_all 5 rfl) rfl hl (by decide) rfl (fun ls hl => ?_)
  refine lv_iload_n hx hb (dk DX7_all 6 rfl) rfl (lv_at hl 0 rfl) ?_
  refine lv_if_gt (tgt := 18) hx hb (dk DX7_all 7 rfl) (by decide) (fun c11 => ?_) (fun c11 => ?_)
  · have hF := if_t c11 hF
    refine lv_lconst (v := (1 : Int64)) hx hb (dk DX7_all 10 rfl) (by decide) ?_
    refine lv_iconst (v := (2 : Int32)) hx hb (dk DX7_all 11 rfl) (by decide) ?_
    refine lv_iload_n hx hb (dk DX7_all 12 rfl) rfl (lv_at hl 0 rfl) ?_
    refine lv_imul hx hb (dk DX7_all 13 rfl) ?_
    refine lv_lshl hx hb (dk DX7_all 14 rfl) rfl ?_
    refine lv_topl (fun y2 ey2 => ?_)
    have hF := lt_at ey2 hF
    cases hF
    exact r_lret (v := y2) C hrt hR (dk DX7_all 15 rfl)
  · have hF := if_f c11 hF
    refine lv_lconst (v := (1 : Int64)) hx hb (dk DX7_all 8 rfl) (by decide) ?_
    refine lv_goto (tgt := 23) hx hb (dk DX7_all 9 rfl) (by decide) ?_
    cases hF
    exact r_lret (v := (1 : Int64)) C hrt hR (dk DX7_all 15 rfl)
set_option maxHeartbeats 4000000 in
set_option maxRecDepth 100000 in
theorem C_Od_allTo (l : Launch) (hl0 : l.stackTraces = false) (G : GG) (a1 : Bool) (a2 : Int32) (m0 : Mem) (v : Int64) (m' : Mem) (hF : F_Od_allTo a1 a2 m0 = some (v, m')) : Ct l G mr0 N0 yX7_allTo cX7_allTo 3 (some .long) 2 [.ref (G.2.1 + 2), .int (b2i a1), .int a2] m0 (some (.long v)) m' := by
  refine Ct_of hl0 (by decide) (Nat.le_of_ble_eq_true rfl) ?_
  intro p e s mid args below meth c ls C hrt hl hR
  have hx := C.1.1
  have hb := C.1.2.1
  have hl : lv_has ls 3 [(0, .ref (G.2.1 + 2)), (1, .int (b2i a1)), (2, .int a2)] := hl
  unfold F_Od_allTo at hF
  refine lv_iload_n hx hb (dk DX7_allTo 0 rfl) rfl (lv_at hl 1 rfl) ?_
  refine z_ifeq (tgt := 12) hx hb (dk DX7_allTo 1 rfl) (by decide) (fun c1 => ?_) (fun c1 => ?_)
  · have hF := if_f c1 hF
    refine lv_aload_n hx hb (dk DX7_allTo 6 rfl) rfl (lv_at hl 0 rfl) ?_
    refine lv_iload_n hx hb (dk DX7_allTo 7 rfl) rfl (lv_at hl 2 rfl) ?_
    obtain ⟨y3, m1, hz2, hF⟩ := bnd_ex hF
    refine r_callVl (As := [.int a2]) (rest := []) C hR (C_Od_all l hl0 G a2 m0 _ _ hz2) (by decide) (by decide) ob2 rfl wX7_63 rfl rfl (Nat.le_of_ble_eq_true rfl) hl.1 ⟨Nat.zero_le _, Nat.zero_le _⟩ (dk DX7_allTo 8 rfl) (fun H locs hR => ?_)
    refine lv_bipush (v := (20 : Int32)) hx hb (dk DX7_allTo 9 rfl) (by decide) ?_
    refine lv_lshl hx hb (dk DX7_allTo 10 rfl) rfl ?_
    cases hF
    exact r_lret (v := y3 <<< ((20 : Int32).toInt64 &&& 63)) C hrt hR (dk DX7_allTo 11 rfl)
  · have hF := if_t c1 hF
    refine lv_aload_n hx hb (dk DX7_allTo 2 rfl) rfl (lv_at hl 0 rfl) ?_
    refine lv_iload_n hx hb (dk DX7_allTo 3 rfl) rfl (lv_at hl 2 rfl) ?_
    obtain ⟨y6, m4, hz5, hF⟩ := bnd_ex hF
    refine r_callVl (As := [.int a2]) (rest := []) C hR (C_Od_all l hl0 G a2 m0 _ _ hz5) (by decide) (by decide) ob2 rfl wX7_63 rfl rfl (Nat.le_of_ble_eq_true rfl) hl.1 ⟨Nat.zero_le _, Nat.zero_le _⟩ (dk DX7_allTo 4 rfl) (fun H locs hR => ?_)
    refine lv_goto (tgt := 20) hx hb (dk DX7_allTo 5 rfl) (by decide) ?_
    cases hF
    exact r_lret (v := y6) C hrt hR (dk DX7_allTo 11 rfl)
