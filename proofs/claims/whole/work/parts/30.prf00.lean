set_option maxHeartbeats 4000000 in
set_option maxRecDepth 100000 in
theorem C_T_mustBeBelow (l : Launch) (hl0 : l.stackTraces = false) (G : GG) (a1 : Int32) (a2 : Int32) (m0 : Mem) (v : Nat ⊕ Unit) (m' : Mem) (hF : F_T_mustBeBelow a1 a2 m0 = some (v, m')) : CtX l G mr0 N0 yX10_mustBeBelow cX10_mustBeBelow 3 none 8 [.ref (G.2.1 + 0), .int a1, .int a2] m0 (ouV v) m' := by
  refine CtX_of hl0 (by decide) (Nat.le_of_ble_eq_true rfl) ?_
  intro p e s mid args below meth c ls C hrt hex hl hR
  have hx := C.1.1
  have hb := C.1.2.1
  have hl : lv_has ls 3 [(0, .ref (G.2.1 + 0)), (1, .int a1), (2, .int a2)] := hl
  unfold F_T_mustBeBelow at hF
  refine lv_iload_n hx hb (dk DX10_mustBeBelow 0 rfl) rfl (lv_at hl 1 rfl) ?_
  obtain ⟨k9_1, ek9_1, hF⟩ := lt_ex hF
  have J9 : ∀ (mq1 : Mem) (H : Heap) (locs : List Loc) (ls : Array Slot), lv_has ls 3 [] → Rp G mr0 N0 mq1 s H locs → k9_1  mq1 = some (v, m') → W p l e (rmX 8 (ouV v)) s mid args below meth c H locs 0 0 (ZX below G mr0 N0 (ouV v) m' args s) (F0 mid 9 ls []) := by
    intro  mq1 H locs ls hl hR hF
    rw [ek9_1] at hF
    cases hF
    exact r_throwW (d := 8) (k := 2) C hex hR tX10_419 strm_X10_417 (by decide) (Nat.le_of_ble_eq_true rfl) hl.1 (dk DX10_mustBeBelow 5 rfl) (dk DX10_mustBeBelow 6 rfl) (dk DX10_mustBeBelow 7 rfl) (dk DX10_mustBeBelow 8 rfl) (dk DX10_mustBeBelow 9 rfl)
  refine lv_if_lt (tgt := 9) hx hb (dk DX10_mustBeBelow 1 rfl) (by decide) (fun c1 => ?_) (fun c1 => ?_)
  · have hF := if_t c1 hF
    exact J9 m0 _ _ ls (lv_sub hl [] rfl) hR hF
  · have hF := if_f c1 hF
    refine lv_iload_n hx hb (dk DX10_mustBeBelow 2 rfl) rfl (lv_at hl 1 rfl) ?_
    refine lv_iload_n hx hb (dk DX10_mustBeBelow 3 rfl) rfl (lv_at hl 2 rfl) ?_
    refine lv_icmp_lt (tgt := 20) hx hb (dk DX10_mustBeBelow 4 rfl) (by decide) (fun c6 => ?_) (fun c6 => ?_)
    · have hF := if_t c6 hF
      cases hF
      exact x_vret C hrt hR (dk DX10_mustBeBelow 10 rfl)
    · have hF := if_f c6 hF
      exact J9 m0 _ _ ls (lv_sub hl [] rfl) hR hF
set_option maxHeartbeats 4000000 in
set_option maxRecDepth 100000 in
theorem C_Ma_isOn (l : Launch) (hl0 : l.stackTraces = false) (G : GG) (m0 : Mem) (v : Bool) (m' : Mem) (hF : F_Ma_isOn m0 = some (v, m')) : Ct l G mr0 N0 yX5_isOn cX5_isOn 1 (some .boolean) 1 [.ref (G.2.1 + 16)] m0 (some (.int (b2i v))) m' := by
  refine Ct_of hl0 (by decide) (Nat.le_of_ble_eq_true rfl) ?_
  intro p e s mid args below meth c ls C hrt hl hR
  have hx := C.1.1
  have hb := C.1.2.1
  have hl : lv_has ls 1 [(0, .ref (G.2.1 + 16))] := hl
  unfold F_Ma_isOn at hF
  refine lv_aload_n hx hb (dk DX5_isOn 0 rfl) rfl (lv_at hl 0 rfl) ?_
  refine gX5_9 C hR ob16 (dk DX5_isOn 1 rfl) ?_
  refine lv_iconst (v := (-1 : Int32)) hx hb (dk DX5_isOn 2 rfl) (by decide) ?_
  refine lv_icmp_eq (tgt := 20) hx hb (dk DX5_isOn 3 rfl) (by decide) (fun c5 => ?_) (fun c5 => ?_)
  · have hF := if_t c5 hF
    refine lv_iconst (v := (0 : Int32)) hx hb (dk DX5_isOn 10 rfl) (by decide) ?_
    cases hF
    exact r_zret C hrt hR (dk DX5_isOn 11 rfl)
  · have hF := if_f c5 hF
    refine lv_aload_n hx hb (dk DX5_isOn 4 rfl) rfl (lv_at hl 0 rfl) ?_
    refine gX5_24 C hR ob16 (dk DX5_isOn 5 rfl) ?_
    refine lv_iconst (v := (-1 : Int32)) hx hb (dk DX5_isOn 6 rfl) (by decide) ?_
    refine lv_icmp_ne (tgt := 20) hx hb (dk DX5_isOn 7 rfl) (by decide) (fun c13 => ?_) (fun c13 => ?_)
    · have hF := if_f c13 hF
      refine lv_iconst (v := (0 : Int32)) hx hb (dk DX5_isOn 10 rfl) (by decide) ?_
      cases hF
      exact r_zret C hrt hR (dk DX5_isOn 11 rfl)
    · have hF := if_t c13 hF
      refine lv_iconst (v := (1 : Int32)) hx hb (dk DX5_isOn 8 rfl) (by decide) ?_
      refine lv_goto (tgt := 21) hx hb (dk DX5_isOn 9 rfl) (by decide) ?_
      cases hF
      exact r_zret C hrt hR (dk DX5_isOn 11 rfl)
set_option maxHeartbeats 4000000 in
set_option maxRecDepth 100000 in
theorem C_T_mustBeOn (l : Launch) (hl0 : l.stackTraces = false) (G : GG) (m0 : Mem) (v : Nat ⊕ Unit) (m' : Mem) (hF : F_T_mustBeOn m0 = some (v, m')) : CtX l G mr0 N0 yX10_mustBeOn cX10_mustBeOn 1 none 8 [.ref (G.2.1 + 0)] m0 (ouV v) m' := by
  refine CtX_of hl0 (by decide) (Nat.le_of_ble_eq_true rfl) ?_
  intro p e s mid args below meth c ls C hrt hex hl hR
  have hx := C.1.1
  have hb := C.1.2.1
  have hl : lv_has ls 1 [(0, .ref (G.2.1 + 0))] := hl
  unfold F_T_mustBeOn at hF
  refine lv_aload_n hx hb (dk DX10_mustBeOn 0 rfl) rfl (lv_at hl 0 rfl) ?_
  refine gX10_37 C hR ob0 rf0_5 (dk DX10_mustBeOn 1 rfl) ?_
  obtain ⟨zq3, mq1, hzq2, hF⟩ := bnd_ex hF
  refine r_callVi (As := []) (rest := []) C hR (C_Ma_isOn l hl0 G m0 _ _ hzq2) (by decide) (by decide) ob16 rfl wX10_215 rfl rfl (Nat.le_of_ble_eq_true rfl) hl.1 ⟨Nat.zero_le _, Nat.zero_le _⟩ (dk DX10_mustBeOn 2 rfl) (fun H locs hR => ?_)
  refine z_ifne (tgt := 21) hx hb (dk DX10_mustBeOn 3 rfl) (by decide) (fun c7 => ?_) (fun c7 => ?_)
  · have hF := if_t c7 hF
    cases hF
    exact x_vret C hrt hR (dk DX10_mustBeOn 9 rfl)
  · have hF := if_f c7 hF
    cases hF
    exact r_throwW (d := 8) (k := 0) C hex hR tX10_239 strm_X10_420 (by decide) (Nat.le_of_ble_eq_true rfl) hl.1 (dk DX10_mustBeOn 4 rfl) (dk DX10_mustBeOn 5 rfl) (dk DX10_mustBeOn 6 rfl) (dk DX10_mustBeOn 7 rfl) (dk DX10_mustBeOn 8 rfl)
set_option maxHeartbeats 4000000 in
set_option maxRecDepth 100000 in
theorem C_Od_ready (l : Launch) (hl0 : l.stackTraces = false) (G : GG) (a1 : Int32) (a2 : Int32) (a3 : Bool) (m0 : Mem) (v : Unit) (m' : Mem) (hF : F_Od_ready a1 a2 a3 m0 = some (v, m')) : Ct l G mr0 N0 yX7_ready cX7_ready 4 none 1 [.ref (G.2.1 + 2), .int a1, .int a2, .int (b2i a3)] m0 none m' := by
  refine Ct_of hl0 (by decide) (Nat.le_of_ble_eq_true rfl) ?_
  intro p e s mid args below meth c ls C hrt hl hR
  have hx := C.1.1
  have hb := C.1.2.1
  have hl : lv_has ls 4 [(0, .ref (G.2.1 + 2)), (1, .int a1), (2, .int a2), (3, .int (b2i a3))] := hl
  unfold F_Od_ready at hF
  refine lv_aload_n hx hb (dk DX7_ready 0 rfl) rfl (lv_at hl 0 rfl) ?_
  refine gX7_27 C hR ob2 (dk DX7_ready 1 rfl) ?_
  obtain ⟨k31_1, ek31_1, hF⟩ := lt_ex hF
  have J31 : ∀ (mq1 : Mem) (H : Heap) (locs : List Loc) (ls : Array Slot), lv_has ls 4 [(0, .ref (G.2.1 + 2)), (1, .int a1), (2, .int a2), (3, .int (b2i a3))] → Rp G mr0 N0 mq1 s H locs → k31_1  mq1 = some (v, m') → W p l e (rmD 1) s mid args below meth c H locs 0 0 (MQ below (QR G mr0 N0 none m') args s 0 0 (fun q => G.2.1 ≤ q)) (F0 mid 31 ls []) := by
    intro  mq1 H locs ls hl hR hF
    rw [ek31_1] at hF
    refine lv_aload_n hx hb (dk DX7_ready 15 rfl) rfl (lv_at hl 0 rfl) ?_
    refine lv_dup hx hb (dk DX7_ready 16 rfl) rfl ?_
    refine gX7_23 C hR ob2 (dk DX7_ready 17 rfl) ?_
    refine lv_lconst (v := (1 : Int64)) hx hb (dk DX7_ready 18 rfl) (by decide) ?_
    refine lv_ladd hx hb (dk DX7_ready 19 rfl) ?_
    refine pX7_23 (x := (gL mq1 2 2) + (1 : Int64)) C hR ob2 (dk DX7_ready 20 rfl) (fun H locs hR => ?_)
    obtain ⟨mq2, emq2, hF⟩ := lt_ex hF
    have hR := Rp_at emq2 hR
    refine lv_aload_n hx hb (dk DX7_ready 21 rfl) rfl (lv_at hl 0 rfl) ?_
    refine lv_iconst (v := (0 : Int32)) hx hb (dk DX7_ready 22 rfl) (by decide) ?_
    refine pX7_27 (x := false) C hR ob2 (dk DX7_ready 23 rfl) (fun H locs hR => ?_)
    obtain ⟨mq3, emq3, hF⟩ := lt_ex hF
    have hR := Rp_at emq3 hR
    refine lv_aload_n hx hb (dk DX7_ready 24 rfl) rfl (lv_at hl 0 rfl) ?_
    refine lv_iload_n hx hb (dk DX7_ready 25 rfl) rfl (lv_at hl 1 rfl) ?_
    refine pX7_31 (x := a1) C hR ob2 (dk DX7_ready 26 rfl) (fun H locs hR => ?_)
    obtain ⟨mq4, emq4, hF⟩ := lt_ex hF
    have hR := Rp_at emq4 hR
    refine lv_aload_n hx hb (dk DX7_ready 27 rfl) rfl (lv_at hl 0 rfl) ?_
    refine lv_iload_n hx hb (dk DX7_ready 28 rfl) rfl (lv_at hl 2 rfl) ?_
    refine pX7_35 (x := a2) C hR ob2 (dk DX7_ready 29 rfl) (fun H locs hR => ?_)
    obtain ⟨mq5, emq5, hF⟩ := lt_ex hF
    have hR := Rp_at emq5 hR
    refine lv_aload_n hx hb (dk DX7_ready 30 rfl) rfl (lv_at hl 0 rfl) ?_
    refine lv_iload_n hx hb (dk DX7_ready 31 rfl) rfl (lv_at hl 3 rfl) ?_
    refine pX7_38 (x := a3) C hR ob2 (dk DX7_ready 32 rfl) (fun H locs hR => ?_)
    obtain ⟨mq6, emq6, hF⟩ := lt_ex hF
    have hR := Rp_at emq6 hR
    cases hF
    exact r_vret C hrt hR (dk DX7_ready 33 rfl)
  refine z_ifne (tgt := 31) hx hb (dk DX7_ready 2 rfl) (by decide) (fun c4 => ?_) (fun c4 => ?_)
  · have hF := if_t c4 hF
    exact J31 m0 _ _ ls (lv_sub hl [0, 1, 2, 3] rfl) hR hF
  · have hF := if_f c4 hF
    refine lv_aload_n hx hb (dk DX7_ready 3 rfl) rfl (lv_at hl 0 rfl) ?_
    refine gX7_31 C hR ob2 (dk DX7_ready 4 rfl) ?_
    refine lv_iload_n hx hb (dk DX7_ready 5 rfl) rfl (lv_at hl 1 rfl) ?_
    refine lv_icmp_ne (tgt := 31) hx hb (dk DX7_ready 6 rfl) (by decide) (fun c12 => ?_) (fun c12 => ?_)
    · have hF := if_f c12 hF
      exact J31 m0 _ _ ls (lv_sub hl [0, 1, 2, 3] rfl) hR hF
    · have hF := if_t c12 hF
      refine lv_aload_n hx hb (dk DX7_ready 7 rfl) rfl (lv_at hl 0 rfl) ?_
      refine gX7_35 C hR ob2 (dk DX7_ready 8 rfl) ?_
      refine lv_iload_n hx hb (dk DX7_ready 9 rfl) rfl (lv_at hl 2 rfl) ?_
      refine lv_icmp_ne (tgt := 31) hx hb (dk DX7_ready 10 rfl) (by decide) (fun c20 => ?_) (fun c20 => ?_)
      · have hF := if_f c20 hF
        exact J31 m0 _ _ ls (lv_sub hl [0, 1, 2, 3] rfl) hR hF
      · have hF := if_t c20 hF
        refine lv_aload_n hx hb (dk DX7_ready 11 rfl) rfl (lv_at hl 0 rfl) ?_
        refine gX7_38 C hR ob2 (dk DX7_ready 12 rfl) ?_
        refine lv_iload_n hx hb (dk DX7_ready 13 rfl) rfl (lv_at hl 3 rfl) ?_
        refine lv_icmp_eq (tgt := 61) hx hb (dk DX7_ready 14 rfl) (by decide) (fun c28 => ?_) (fun c28 => ?_)
        · have hF := if_t c28 hF
          cases hF
          exact r_vret C hrt hR (dk DX7_ready 33 rfl)
        · have hF := if_f c28 hF
          exact J31 m0 _ _ ls (lv_sub hl [0, 1, 2, 3] rfl) hR hF
set_option maxHeartbeats 4000000 in
set_option maxRecDepth 100000 in
theorem C_Od_kindOf (l : Launch) (hl0 : l.stackTraces = false) (G : GG) (a0 : Int32) (a1 : Bool) (m0 : Mem) (v : Int32) (m' : Mem) (hF : F_Od_kindOf a0 a1 m0 = some (v, m')) : Ct l G mr0 N0 yX7_kindOf cX7_kindOf 2 (some .int) 1 [.int a0, .int (b2i a1)] m0 (some (.int v)) m' := by
  refine Ct_of hl0 (by decide) (Nat.le_of_ble_eq_true rfl) ?_
  intro p e s mid args below meth c ls C hrt hl hR
  have hx := C.1.1
  have hb := C.1.2.1
  have hl : lv_has ls 2 [(0, .int a0), (1, .int (b2i a1))] := hl
  unfold F_Od_kindOf at hF
  refine lv_iload_n hx hb (dk DX7_kindOf 0 rfl) rfl (lv_at hl 1 rfl) ?_
  refine z_ifeq (tgt := 15) hx hb (dk DX7_kindOf 1 rfl) (by decide) (fun c1 => ?_) (fun c1 => ?_)
  · have hF := if_f c1 hF
    refine lv_iload_n hx hb (dk DX7_kindOf 9 rfl) rfl (lv_at hl 0 rfl) ?_
    cases hF
    exact r_iret C hrt hR (dk DX7_kindOf 10 rfl)
  · have hF := if_t c1 hF
    refine lv_iload_n hx hb (dk DX7_kindOf 2 rfl) rfl (lv_at hl 0 rfl) ?_
    refine lv_iconst (v := (2 : Int32)) hx hb (dk DX7_kindOf 3 rfl) (by decide) ?_
    refine lv_icmp_lt (tgt := 15) hx hb (dk DX7_kindOf 4 rfl) (by decide) (fun c6 => ?_) (fun c6 => ?_)
    · have hF := if_t c6 hF
      refine lv_iload_n hx hb (dk DX7_kindOf 9 rfl) rfl (lv_at hl 0 rfl) ?_
      cases hF
      exact r_iret C hrt hR (dk DX7_kindOf 10 rfl)
    · have hF := if_f c6 hF
      refine lv_iload_n hx hb (dk DX7_kindOf 5 rfl) rfl (lv_at hl 0 rfl) ?_
      refine lv_iconst (v := (2 : Int32)) hx hb (dk DX7_kindOf 6 rfl) (by decide) ?_
      refine lv_iadd hx hb (dk DX7_kindOf 7 rfl) ?_
      refine lv_goto (tgt := 16) hx hb (dk DX7_kindOf 8 rfl) (by decide) ?_
      cases hF
      exact r_iret C hrt hR (dk DX7_kindOf 10 rfl)
set_option maxHeartbeats 4000000 in
set_option maxRecDepth 100000 in
theorem C_Ma_kind (l : Launch) (hl0 : l.stackTraces = false) (G : GG) (m0 : Mem) (v : Int32) (m' : Mem) (hF : F_Ma_kind m0 = some (v, m')) : Ct l G mr0 N0 yX5_kind cX5_kind 1 (some .int) 2 [.ref (G.2.1 + 16)] m0 (some (.int v)) m' := by
  refine Ct_of hl0 (by decide) (Nat.le_of_ble_eq_true rfl) ?_
  intro p e s mid args below meth c ls C hrt hl hR
  have hx := C.1.1
  have hb := C.1.2.1
  have hl : lv_has ls 1 [(0, .ref (G.2.1 + 16))] := hl
  unfold F_Ma_kind at hF
  refine lv_aload_n hx hb (dk DX5_kind 0 rfl) rfl (lv_at hl 0 rfl) ?_
  refine gX5_15 C hR ob16 (dk DX5_kind 1 rfl) ?_
  refine lv_aload_n hx hb (dk DX5_kind 2 rfl) rfl (lv_at hl 0 rfl) ?_
  refine gX5_27 C hR ob16 (dk DX5_kind 3 rfl) ?_
  obtain ⟨xq3, mq1, hzq2, hF⟩ := bnd_ex hF
  refine r_callSi (As := [.int (gI m0 16 1), .int (b2i (gZ m0 16 5))]) (rest := []) C hR (C_Od_kindOf l hl0 G (gI m0 16 1) (gZ m0 16 5) m0 _ _ hzq2) (by decide) (by decide) wX5_47 rfl rfl (Nat.le_of_ble_eq_true rfl) hl.1 ⟨Nat.zero_le _, Nat.zero_le _⟩ (dk DX5_kind 4 rfl) (fun H locs hR => ?_)
  cases hF
  exact r_iret C hrt hR (dk DX5_kind 5 rfl)
set_option maxHeartbeats 4000000 in
set_option maxRecDepth 100000 in
theorem C_Ma_leadOf (l : Launch) (hl0 : l.stackTraces = false) (G : GG) (a1 : Int32) (m0 : Mem) (v : Int32) (m' : Mem) (hF : F_Ma_leadOf a1 m0 = some (v, m')) : Ct l G mr0 N0 yX5_leadOf cX5_leadOf 2 (some .int) 1 [.ref (G.2.1 + 16), .int a1] m0 (some (.int v)) m' := by
  refine Ct_of hl0 (by decide) (Nat.le_of_ble_eq_true rfl) ?_
  intro p e s mid args below meth c ls C hrt hl hR
  have hx := C.1.1
  have hb := C.1.2.1
  have hl : lv_has ls 2 [(0, .ref (G.2.1 + 16)), (1, .int a1)] := hl
  unfold F_Ma_leadOf at hF
  refine lv_iload_n hx hb (dk DX5_leadOf 0 rfl) rfl (lv_at hl 1 rfl) ?_
  refine lv_if_ne (tgt := 16) hx hb (dk DX5_leadOf 1 rfl) (by decide) (fun c1 => ?_) (fun c1 => ?_)
  · have hF := if_f c1 hF
    refine lv_aload_n hx hb (dk DX5_leadOf 8 rfl) rfl (lv_at hl 0 rfl) ?_
    refine gX5_40 C hR ob16 (dk DX5_leadOf 9 rfl) ?_
    refine lv_aload_n hx hb (dk DX5_leadOf 10 rfl) rfl (lv_at hl 0 rfl) ?_
    refine gX5_37 C hR ob16 (dk DX5_leadOf 11 rfl) ?_
    refine lv_isub hx hb (dk DX5_leadOf 12 rfl) ?_
    cases hF
    exact r_iret C hrt hR (dk DX5_leadOf 13 rfl)
  · have hF := if_t c1 hF
    refine lv_aload_n hx hb (dk DX5_leadOf 2 rfl) rfl (lv_at hl 0 rfl) ?_
    refine gX5_37 C hR ob16 (dk DX5_leadOf 3 rfl) ?_
    refine lv_aload_n hx hb (dk DX5_leadOf 4 rfl) rfl (lv_at hl 0 rfl) ?_
    refine gX5_40 C hR ob16 (dk DX5_leadOf 5 rfl) ?_
    refine lv_isub hx hb (dk DX5_leadOf 6 rfl) ?_
    refine lv_goto (tgt := 25) hx hb (dk DX5_leadOf 7 rfl) (by decide) ?_
    cases hF
    exact r_iret C hrt hR (dk DX5_leadOf 13 rfl)
set_option maxHeartbeats 4000000 in
set_option maxRecDepth 100000 in
theorem C_Od_firstBats (l : Launch) (hl0 : l.stackTraces = false) (G : GG) (a0 : Int32) (m0 : Mem) (v : Bool) (m' : Mem) (hF : F_Od_firstBats a0 m0 = some (v, m')) : Ct l G mr0 N0 yX7_firstBats cX7_firstBats 1 (some .boolean) 1 [.int a0] m0 (some (.int (b2i v))) m' := by
  refine Ct_of hl0 (by decide) (Nat.le_of_ble_eq_true rfl) ?_
  intro p e s mid args below meth c ls C hrt hl hR
  have hx := C.1.1
  have hb := C.1.2.1
  have hl : lv_has ls 1 [(0, .int a0)] := hl
  unfold F_Od_firstBats at hF
  refine lv_iload_n hx hb (dk DX7_firstBats 0 rfl) rfl (lv_at hl 0 rfl) ?_
  refine lv_if_eq (tgt := 14) hx hb (dk DX7_firstBats 1 rfl) (by decide) (fun c1 => ?_) (fun c1 => ?_)
  · have hF := if_t c1 hF
    refine lv_iconst (v := (1 : Int32)) hx hb (dk DX7_firstBats 8 rfl) (by decide) ?_
    refine lv_goto (tgt := 19) hx hb (dk DX7_firstBats 9 rfl) (by decide) ?_
    cases hF
    exact r_zret C hrt hR (dk DX7_firstBats 11 rfl)
  · have hF := if_f c1 hF
    refine lv_iload_n hx hb (dk DX7_firstBats 2 rfl) rfl (lv_at hl 0 rfl) ?_
    refine lv_iconst (v := (2 : Int32)) hx hb (dk DX7_firstBats 3 rfl) (by decide) ?_
    refine lv_icmp_eq (tgt := 14) hx hb (dk DX7_firstBats 4 rfl) (by decide) (fun c6 => ?_) (fun c6 => ?_)
    · have hF := if_t c6 hF
      refine lv_iconst (v := (1 : Int32)) hx hb (dk DX7_firstBats 8 rfl) (by decide) ?_
      refine lv_goto (tgt := 19) hx hb (dk DX7_firstBats 9 rfl) (by decide) ?_
      cases hF
      exact r_zret C hrt hR (dk DX7_firstBats 11 rfl)
    · have hF := if_f c6 hF
      refine lv_iload_n hx hb (dk DX7_firstBats 5 rfl) rfl (lv_at hl 0 rfl) ?_
      refine lv_iconst (v := (5 : Int32)) hx hb (dk DX7_firstBats 6 rfl) (by decide) ?_
      refine lv_icmp_ne (tgt := 18) hx hb (dk DX7_firstBats 7 rfl) (by decide) (fun c11 => ?_) (fun c11 => ?_)
      · have hF := if_f c11 hF
        refine lv_iconst (v := (0 : Int32)) hx hb (dk DX7_firstBats 10 rfl) (by decide) ?_
        cases hF
        exact r_zret C hrt hR (dk DX7_firstBats 11 rfl)
      · have hF := if_t c11 hF
        refine lv_iconst (v := (1 : Int32)) hx hb (dk DX7_firstBats 8 rfl) (by decide) ?_
        refine lv_goto (tgt := 19) hx hb (dk DX7_firstBats 9 rfl) (by decide) ?_
        cases hF
        exact r_zret C hrt hR (dk DX7_firstBats 11 rfl)
set_option maxHeartbeats 4000000 in
set_option maxRecDepth 100000 in
theorem C_Od_inningsOf (l : Launch) (hl0 : l.stackTraces = false) (G : GG) (a0 : Int32) (m0 : Mem) (v : Int32) (m' : Mem) (hF : F_Od_inningsOf a0 m0 = some (v, m')) : Ct l G mr0 N0 yX7_inningsOf cX7_inningsOf 1 (some .int) 1 [.int a0] m0 (some (.int v)) m' := by
  refine Ct_of hl0 (by decide) (Nat.le_of_ble_eq_true rfl) ?_
  intro p e s mid args below meth c ls C hrt hl hR
  have hx := C.1.1
  have hb := C.1.2.1
  have hl : lv_has ls 1 [(0, .int a0)] := hl
  unfold F_Od_inningsOf at hF
  refine lv_iload_n hx hb (dk DX7_inningsOf 0 rfl) rfl (lv_at hl 0 rfl) ?_
  refine lv_iconst (v := (3 : Int32)) hx hb (dk DX7_inningsOf 1 rfl) (by decide) ?_
  refine lv_icmp_le (tgt := 11) hx hb (dk DX7_inningsOf 2 rfl) (by decide) (fun c2 => ?_) (fun c2 => ?_)
  · have hF := if_t c2 hF
    refine lv_iload_n hx hb (dk DX7_inningsOf 7 rfl) rfl (lv_at hl 0 rfl) ?_
    cases hF
    exact r_iret C hrt hR (dk DX7_inningsOf 8 rfl)
  · have hF := if_f c2 hF
    refine lv_iload_n hx hb (dk DX7_inningsOf 3 rfl) rfl (lv_at hl 0 rfl) ?_
    refine lv_iconst (v := (2 : Int32)) hx hb (dk DX7_inningsOf 4 rfl) (by decide) ?_
    refine lv_isub hx hb (dk DX7_inningsOf 5 rfl) ?_
    refine lv_goto (tgt := 12) hx hb (dk DX7_inningsOf 6 rfl) (by decide) ?_
    cases hF
    exact r_iret C hrt hR (dk DX7_inningsOf 8 rfl)
set_option maxHeartbeats 4000000 in
set_option maxRecDepth 100000 in
theorem C_Lw_stand (l : Launch) (hl0 : l.stackTraces = false) (G : GG) (a1 : Int32) (a2 : Int32) (a3 : Int32) (m0 : Mem) (v : Unit) (m' : Mem) (hF : F_Lw_stand a1 a2 a3 m0 = some (v, m')) : Ct l G mr0 N0 yX3_stand cX3_stand 4 none 1 [.ref (G.2.1 + 8), .int a1, .int a2, .int a3] m0 none m' := by
  refine Ct_of hl0 (by decide) (Nat.le_of_ble_eq_true rfl) ?_
  intro p e s mid args below meth c ls C hrt hl hR
  have hx := C.1.1
  have hb := C.1.2.1
  have hl : lv_has ls 4 [(0, .ref (G.2.1 + 8)), (1, .int a1), (2, .int a2), (3, .int a3)] := hl
  unfold F_Lw_stand at hF
  refine lv_aload_n hx hb (dk DX3_stand 0 rfl) rfl (lv_at hl 0 rfl) ?_
  refine gX3_22 C hR ob8 rf8_3 (dk DX3_stand 1 rfl) ?_
  refine lv_iconst (v := (0 : Int32)) hx hb (dk DX3_stand 2 rfl) (by decide) ?_
  refine lv_iload_n hx hb (dk DX3_stand 3 rfl) rfl (lv_at hl 1 rfl) ?_
  refine r_iast C hR ob10 rfl (dk DX3_stand 4 rfl) (fun H locs hR => ?_)
  obtain ⟨mq1, emq1, hF⟩ := lt_ex hF
  have hR := Rp_at emq1 hR
  refine lv_aload_n hx hb (dk DX3_stand 5 rfl) rfl (lv_at hl 0 rfl) ?_
  refine gX3_22 C hR ob8 rf8_3 (dk DX3_stand 6 rfl) ?_
  refine lv_iconst (v := (1 : Int32)) hx hb (dk DX3_stand 7 rfl) (by decide) ?_
  refine lv_iload_n hx hb (dk DX3_stand 8 rfl) rfl (lv_at hl 1 rfl) ?_
  refine lv_iconst (v := (3 : Int32)) hx hb (dk DX3_stand 9 rfl) (by decide) ?_
  refine lv_idiv hx hb (dk DX3_stand 10 rfl) (by decide) ?_
  refine r_iast C hR ob10 rfl (dk DX3_stand 11 rfl) (fun H locs hR => ?_)
  obtain ⟨mq2, emq2, hF⟩ := lt_ex hF
  have hR := Rp_at emq2 hR
  refine lv_aload_n hx hb (dk DX3_stand 12 rfl) rfl (lv_at hl 0 rfl) ?_
  refine gX3_22 C hR ob8 rf8_3 (dk DX3_stand 13 rfl) ?_
  refine lv_iconst (v := (2 : Int32)) hx hb (dk DX3_stand 14 rfl) (by decide) ?_
  refine lv_iload_n hx hb (dk DX3_stand 15 rfl) rfl (lv_at hl 2 rfl) ?_
  refine r_iast C hR ob10 rfl (dk DX3_stand 16 rfl) (fun H locs hR => ?_)
  obtain ⟨mq3, emq3, hF⟩ := lt_ex hF
  have hR := Rp_at emq3 hR
  refine lv_aload_n hx hb (dk DX3_stand 17 rfl) rfl (lv_at hl 0 rfl) ?_
  refine gX3_22 C hR ob8 rf8_3 (dk DX3_stand 18 rfl) ?_
  refine lv_iconst (v := (3 : Int32)) hx hb (dk DX3_stand 19 rfl) (by decide) ?_
  refine lv_iload_n hx hb (dk DX3_stand 20 rfl) rfl (lv_at hl 3 rfl) ?_
  refine r_iast C hR ob10 rfl (dk DX3_stand 21 rfl) (fun H locs hR => ?_)
  obtain ⟨mq4, emq4, hF⟩ := lt_ex hF
  have hR := Rp_at emq4 hR
  cases hF
  exact r_vret C hrt hR (dk DX3_stand 22 rfl)
set_option maxHeartbeats 4000000 in
set_option maxRecDepth 100000 in
theorem C_Gr_batOf (l : Launch) (hl0 : l.stackTraces = false) (G : GG) (a1 : Int32) (m0 : Mem) (v : Int32) (m' : Mem) (hF : F_Gr_batOf a1 m0 = some (v, m')) : Ct l G mr0 N0 yX1_batOf cX1_batOf 2 (some .int) 1 [.ref (G.2.1 + 3), .int a1] m0 (some (.int v)) m' := by
  refine Ct_of hl0 (by decide) (Nat.le_of_ble_eq_true rfl) ?_
  intro p e s mid args below meth c ls C hrt hl hR
  have hx := C.1.1
  have hb := C.1.2.1
  have hl : lv_has ls 2 [(0, .ref (G.2.1 + 3)), (1, .int a1)] := hl
  unfold F_Gr_batOf at hF
  refine lv_iload_n hx hb (dk DX1_batOf 0 rfl) rfl (lv_at hl 1 rfl) ?_
  refine lv_if_ne (tgt := 13) hx hb (dk DX1_batOf 1 rfl) (by decide) (fun c1 => ?_) (fun c1 => ?_)
  · have hF := if_f c1 hF
    refine lv_aload_n hx hb (dk DX1_batOf 7 rfl) rfl (lv_at hl 0 rfl) ?_
    refine gX1_33 C hR ob3 rf3_7 (dk DX1_batOf 8 rfl) ?_
    refine lv_iconst (v := (1 : Int32)) hx hb (dk DX1_batOf 9 rfl) (by decide) ?_
    refine r_iald C hR ob4 rfl (dk DX1_batOf 10 rfl) ?_
    cases hF
    exact r_iret C hrt hR (dk DX1_batOf 11 rfl)
  · have hF := if_t c1 hF
    refine lv_aload_n hx hb (dk DX1_batOf 2 rfl) rfl (lv_at hl 0 rfl) ?_
    refine gX1_33 C hR ob3 rf3_7 (dk DX1_batOf 3 rfl) ?_
    refine lv_iconst (v := (0 : Int32)) hx hb (dk DX1_batOf 4 rfl) (by decide) ?_
    refine r_iald C hR ob4 rfl (dk DX1_batOf 5 rfl) ?_
    refine lv_goto (tgt := 19) hx hb (dk DX1_batOf 6 rfl) (by decide) ?_
    cases hF
    exact r_iret C hrt hR (dk DX1_batOf 11 rfl)
set_option maxHeartbeats 4000000 in
set_option maxRecDepth 100000 in
theorem C_Gr_bowlOf (l : Launch) (hl0 : l.stackTraces = false) (G : GG) (a1 : Int32) (m0 : Mem) (v : Int32) (m' : Mem) (hF : F_Gr_bowlOf a1 m0 = some (v, m')) : Ct l G mr0 N0 yX1_bowlOf cX1_bowlOf 2 (some .int) 1 [.ref (G.2.1 + 3), .int a1] m0 (some (.int v)) m' := by
  refine Ct_of hl0 (by decide) (Nat.le_of_ble_eq_true rfl) ?_
  intro p e s mid args below meth c ls C hrt hl hR
  have hx := C.1.1
  have hb := C.1.2.1
  have hl : lv_has ls 2 [(0, .ref (G.2.1 + 3)), (1, .int a1)] := hl
  unfold F_Gr_bowlOf at hF
  refine lv_iload_n hx hb (dk DX1_bowlOf 0 rfl) rfl (lv_at hl 1 rfl) ?_
  refine lv_if_ne (tgt := 13) hx hb (dk DX1_bowlOf 1 rfl) (by decide) (fun c1 => ?_) (fun c1 => ?_)
  · have hF := if_f c1 hF
    refine lv_aload_n hx hb (dk DX1_bowlOf 7 rfl) rfl (lv_at hl 0 rfl) ?_
    refine gX1_37 C hR ob3 rf3_8 (dk DX1_bowlOf 8 rfl) ?_
    refine lv_iconst (v := (1 : Int32)) hx hb (dk DX1_bowlOf 9 rfl) (by decide) ?_
    refine r_iald C hR ob5 rfl (dk DX1_bowlOf 10 rfl) ?_
    cases hF
    exact r_iret C hrt hR (dk DX1_bowlOf 11 rfl)
  · have hF := if_t c1 hF
    refine lv_aload_n hx hb (dk DX1_bowlOf 2 rfl) rfl (lv_at hl 0 rfl) ?_
    refine gX1_37 C hR ob3 rf3_8 (dk DX1_bowlOf 3 rfl) ?_
    refine lv_iconst (v := (0 : Int32)) hx hb (dk DX1_bowlOf 4 rfl) (by decide) ?_
    refine r_iald C hR ob5 rfl (dk DX1_bowlOf 5 rfl) ?_
    refine lv_goto (tgt := 19) hx hb (dk DX1_bowlOf 6 rfl) (by decide) ?_
    cases hF
    exact r_iret C hrt hR (dk DX1_bowlOf 11 rfl)
set_option maxHeartbeats 4000000 in
set_option maxRecDepth 100000 in
theorem C_Lw_standSides (l : Launch) (hl0 : l.stackTraces = false) (G : GG) (a1 : Int32) (a2 : Int32) (m0 : Mem) (v : Unit) (m' : Mem) (hF : F_Lw_standSides a1 a2 m0 = some (v, m')) : Ct l G mr0 N0 yX3_standSides cX3_standSides 3 none 1 [.ref (G.2.1 + 8), .int a1, .int a2] m0 none m' := by
  refine Ct_of hl0 (by decide) (Nat.le_of_ble_eq_true rfl) ?_
  intro p e s mid args below meth c ls C hrt hl hR
  have hx := C.1.1
  have hb := C.1.2.1
  have hl : lv_has ls 3 [(0, .ref (G.2.1 + 8)), (1, .int a1), (2, .int a2)] := hl
  unfold F_Lw_standSides at hF
  refine lv_aload_n hx hb (dk DX3_standSides 0 rfl) rfl (lv_at hl 0 rfl) ?_
  refine gX3_22 C hR ob8 rf8_3 (dk DX3_standSides 1 rfl) ?_
  refine lv_iconst (v := (4 : Int32)) hx hb (dk DX3_standSides 2 rfl) (by decide) ?_
  refine lv_iload_n hx hb (dk DX3_standSides 3 rfl) rfl (lv_at hl 1 rfl) ?_
  refine r_iast C hR ob10 rfl (dk DX3_standSides 4 rfl) (fun H locs hR => ?_)
  obtain ⟨mq1, emq1, hF⟩ := lt_ex hF
  have hR := Rp_at emq1 hR
  refine lv_aload_n hx hb (dk DX3_standSides 5 rfl) rfl (lv_at hl 0 rfl) ?_
  refine gX3_22 C hR ob8 rf8_3 (dk DX3_standSides 6 rfl) ?_
  refine lv_iconst (v := (5 : Int32)) hx hb (dk DX3_standSides 7 rfl) (by decide) ?_
  refine lv_iload_n hx hb (dk DX3_standSides 8 rfl) rfl (lv_at hl 2 rfl) ?_
  refine r_iast C hR ob10 rfl (dk DX3_standSides 9 rfl) (fun H locs hR => ?_)
  obtain ⟨mq2, emq2, hF⟩ := lt_ex hF
  have hR := Rp_at emq2 hR
  cases hF
  exact r_vret C hrt hR (dk DX3_standSides 10 rfl)
set_option maxHeartbeats 4000000 in
set_option maxRecDepth 100000 in
theorem C_T_bitOf (l : Launch) (hl0 : l.stackTraces = false) (G : GG) (a0 : Int32) (a1 : Int32) (m0 : Mem) (v : Int32) (m' : Mem) (hF : F_T_bitOf a0 a1 m0 = some (v, m')) : Ct l G mr0 N0 yX10_bitOf cX10_bitOf 2 (some .int) 1 [.int a0, .int a1] m0 (some (.int v)) m' := by
  refine Ct_of hl0 (by decide) (Nat.le_of_ble_eq_true rfl) ?_
  intro p e s mid args below meth c ls C hrt hl hR
  have hx := C.1.1
  have hb := C.1.2.1
  have hl : lv_has ls 2 [(0, .int a0), (1, .int a1)] := hl
  unfold F_T_bitOf at hF
  refine lv_iload_n hx hb (dk DX10_bitOf 0 rfl) rfl (lv_at hl 0 rfl) ?_
  refine lv_iload_n hx hb (dk DX10_bitOf 1 rfl) rfl (lv_at hl 1 rfl) ?_
  refine lv_iushr hx hb (dk DX10_bitOf 2 rfl) rfl ?_
  refine lv_topi (fun xq1 exq1 => ?_)
  have hF := lt_at exq1 hF
  refine lv_iconst (v := (1 : Int32)) hx hb (dk DX10_bitOf 3 rfl) (by decide) ?_
  refine lv_iand hx hb (dk DX10_bitOf 4 rfl) ?_
  cases hF
  exact r_iret C hrt hR (dk DX10_bitOf 5 rfl)
set_option maxHeartbeats 4000000 in
set_option maxRecDepth 100000 in
theorem C_Lw_standSky (l : Launch) (hl0 : l.stackTraces = false) (G : GG) (a1 : Int32) (a2 : Int32) (m0 : Mem) (v : Unit) (m' : Mem) (hF : F_Lw_standSky a1 a2 m0 = some (v, m')) : Ct l G mr0 N0 yX3_standSky cX3_standSky 3 none 1 [.ref (G.2.1 + 8), .int a1, .int a2] m0 none m' := by
  refine Ct_of hl0 (by decide) (Nat.le_of_ble_eq_true rfl) ?_
  intro p e s mid args below meth c ls C hrt hl hR
  have hx := C.1.1
  have hb := C.1.2.1
  have hl : lv_has ls 3 [(0, .ref (G.2.1 + 8)), (1, .int a1), (2, .int a2)] := hl
  unfold F_Lw_standSky at hF
  refine lv_aload_n hx hb (dk DX3_standSky 0 rfl) rfl (lv_at hl 0 rfl) ?_
  refine gX3_22 C hR ob8 rf8_3 (dk DX3_standSky 1 rfl) ?_
  refine lv_bipush (v := (6 : Int32)) hx hb (dk DX3_standSky 2 rfl) (by decide) ?_
  refine lv_iload_n hx hb (dk DX3_standSky 3 rfl) rfl (lv_at hl 1 rfl) ?_
  refine r_iast C hR ob10 rfl (dk DX3_standSky 4 rfl) (fun H locs hR => ?_)
  obtain ⟨mq1, emq1, hF⟩ := lt_ex hF
  have hR := Rp_at emq1 hR
  refine lv_aload_n hx hb (dk DX3_standSky 5 rfl) rfl (lv_at hl 0 rfl) ?_
  refine gX3_22 C hR ob8 rf8_3 (dk DX3_standSky 6 rfl) ?_
  refine lv_bipush (v := (7 : Int32)) hx hb (dk DX3_standSky 7 rfl) (by decide) ?_
  refine lv_iload_n hx hb (dk DX3_standSky 8 rfl) rfl (lv_at hl 2 rfl) ?_
  refine r_iast C hR ob10 rfl (dk DX3_standSky 9 rfl) (fun H locs hR => ?_)
  obtain ⟨mq2, emq2, hF⟩ := lt_ex hF
  have hR := Rp_at emq2 hR
  cases hF
  exact r_vret C hrt hR (dk DX3_standSky 10 rfl)
set_option maxHeartbeats 4000000 in
set_option maxRecDepth 100000 in
theorem C_Lw_stackAt (l : Launch) (hl0 : l.stackTraces = false) (G : GG) (a1 : Int32) (m0 : Mem) (v : Int32) (m' : Mem) (hF : F_Lw_stackAt a1 m0 = some (v, m')) : Ct l G mr0 N0 yX3_stackAt cX3_stackAt 2 (some .int) 1 [.ref (G.2.1 + 8), .int a1] m0 (some (.int v)) m' := by
  refine Ct_of hl0 (by decide) (Nat.le_of_ble_eq_true rfl) ?_
  intro p e s mid args below meth c ls C hrt hl hR
  have hx := C.1.1
  have hb := C.1.2.1
  have hl : lv_has ls 2 [(0, .ref (G.2.1 + 8)), (1, .int a1)] := hl
  unfold F_Lw_stackAt at hF
  refine lv_iload_n hx hb (dk DX3_stackAt 0 rfl) rfl (lv_at hl 1 rfl) ?_
  refine lv_if_lt (tgt := 10) hx hb (dk DX3_stackAt 1 rfl) (by decide) (fun c1 => ?_) (fun c1 => ?_)
  · have hF := if_t c1 hF
    refine lv_iconst (v := (0 : Int32)) hx hb (dk DX3_stackAt 5 rfl) (by decide) ?_
    refine lv_goto (tgt := 20) hx hb (dk DX3_stackAt 6 rfl) (by decide) ?_
    cases hF
    exact r_iret C hrt hR (dk DX3_stackAt 11 rfl)
  · have hF := if_f c1 hF
    refine lv_iload_n hx hb (dk DX3_stackAt 2 rfl) rfl (lv_at hl 1 rfl) ?_
    refine lv_bipush (v := (64 : Int32)) hx hb (dk DX3_stackAt 3 rfl) (by decide) ?_
    refine lv_icmp_lt (tgt := 14) hx hb (dk DX3_stackAt 4 rfl) (by decide) (fun c7 => ?_) (fun c7 => ?_)
    · have hF := if_t c7 hF
      refine lv_aload_n hx hb (dk DX3_stackAt 7 rfl) rfl (lv_at hl 0 rfl) ?_
      refine gX3_25 C hR ob8 rf8_4 (dk DX3_stackAt 8 rfl) ?_
      refine lv_iload_n hx hb (dk DX3_stackAt 9 rfl) rfl (lv_at hl 1 rfl) ?_
      obtain ⟨hq1, hF⟩ := ckB_ex hF
      refine r_iald C hR ob11 hq1 (dk DX3_stackAt 10 rfl) ?_
      refine lv_topi (fun xq2 exq2 => ?_)
      have hF := lt_at exq2 hF
      cases hF
      exact r_iret C hrt hR (dk DX3_stackAt 11 rfl)
    · have hF := if_f c7 hF
      refine lv_iconst (v := (0 : Int32)) hx hb (dk DX3_stackAt 5 rfl) (by decide) ?_
      refine lv_goto (tgt := 20) hx hb (dk DX3_stackAt 6 rfl) (by decide) ?_
      cases hF
      exact r_iret C hrt hR (dk DX3_stackAt 11 rfl)
set_option maxHeartbeats 4000000 in
set_option maxRecDepth 100000 in
theorem C_Lw_joined (l : Launch) (hl0 : l.stackTraces = false) (G : GG) (a1 : Int32) (a2 : Int32) (a3 : Int32) (m0 : Mem) (v : Int32) (m' : Mem) (hF : F_Lw_joined a1 a2 a3 m0 = some (v, m')) : Ct l G mr0 N0 yX3_joined cX3_joined 4 (some .int) 1 [.ref (G.2.1 + 8), .int a1, .int a2, .int a3] m0 (some (.int v)) m' := by
  refine Ct_of hl0 (by decide) (Nat.le_of_ble_eq_true rfl) ?_
  intro p e s mid args below meth c ls C hrt hl hR
  have hx := C.1.1
  have hb := C.1.2.1
  have hl : lv_has ls 4 [(0, .ref (G.2.1 + 8)), (1, .int a1), (2, .int a2), (3, .int a3)] := hl
  unfold F_Lw_joined at hF
  refine lv_iload_n hx hb (dk DX3_joined 0 rfl) rfl (lv_at hl 1 rfl) ?_
  by_cases d1101 : a1 = (1101 : Int32)
  · have hF := if_t d1101 hF
    refine lv_tableIn (tgt := 32) hx hb (dk DX3_joined 1 rfl) (by rw [d1101]; decide) (by rw [d1101]; decide) (by rw [d1101]; rfl) (by decide) ?_
    refine lv_iload_n hx hb (dk DX3_joined 2 rfl) rfl (lv_at hl 2 rfl) ?_
    refine lv_iload_n hx hb (dk DX3_joined 3 rfl) rfl (lv_at hl 3 rfl) ?_
    refine lv_iand hx hb (dk DX3_joined 4 rfl) ?_
    cases hF
    exact r_iret C hrt hR (dk DX3_joined 5 rfl)
  · have hF := if_f d1101 hF
    by_cases d1102 : a1 = (1102 : Int32)
    · have hF := if_t d1102 hF
      refine lv_tableIn (tgt := 36) hx hb (dk DX3_joined 1 rfl) (by rw [d1102]; decide) (by rw [d1102]; decide) (by rw [d1102]; rfl) (by decide) ?_
      refine lv_iload_n hx hb (dk DX3_joined 6 rfl) rfl (lv_at hl 2 rfl) ?_
      refine lv_iload_n hx hb (dk DX3_joined 7 rfl) rfl (lv_at hl 3 rfl) ?_
      refine lv_ior hx hb (dk DX3_joined 8 rfl) ?_
      cases hF
      exact r_iret C hrt hR (dk DX3_joined 9 rfl)
    · have hF := if_f d1102 hF
      by_cases d1103 : a1 = (1103 : Int32)
      · have hF := if_t d1103 hF
        refine lv_tableIn (tgt := 40) hx hb (dk DX3_joined 1 rfl) (by rw [d1103]; decide) (by rw [d1103]; decide) (by rw [d1103]; rfl) (by decide) ?_
        refine lv_iload_n hx hb (dk DX3_joined 10 rfl) rfl (lv_at hl 2 rfl) ?_
        refine lv_iload_n hx hb (dk DX3_joined 11 rfl) rfl (lv_at hl 3 rfl) ?_
        refine lv_icmp_ge (tgt := 49) hx hb (dk DX3_joined 12 rfl) (by decide) (fun c42 => ?_) (fun c42 => ?_)
        · have hF := if_t c42 hF
          refine lv_iconst (v := (0 : Int32)) hx hb (dk DX3_joined 15 rfl) (by decide) ?_
          cases hF
          exact r_iret C hrt hR (dk DX3_joined 16 rfl)
        · have hF := if_f c42 hF
          refine lv_iconst (v := (1 : Int32)) hx hb (dk DX3_joined 13 rfl) (by decide) ?_
          refine lv_goto (tgt := 50) hx hb (dk DX3_joined 14 rfl) (by decide) ?_
          cases hF
          exact r_iret C hrt hR (dk DX3_joined 16 rfl)
      · have hF := if_f d1103 hF
        by_cases d1104 : a1 = (1104 : Int32)
        · have hF := if_t d1104 hF
          refine lv_tableIn (tgt := 51) hx hb (dk DX3_joined 1 rfl) (by rw [d1104]; decide) (by rw [d1104]; decide) (by rw [d1104]; rfl) (by decide) ?_
          refine lv_iload_n hx hb (dk DX3_joined 17 rfl) rfl (lv_at hl 2 rfl) ?_
          refine lv_iload_n hx hb (dk DX3_joined 18 rfl) rfl (lv_at hl 3 rfl) ?_
          refine lv_icmp_le (tgt := 60) hx hb (dk DX3_joined 19 rfl) (by decide) (fun c53 => ?_) (fun c53 => ?_)
          · have hF := if_t c53 hF
            refine lv_iconst (v := (0 : Int32)) hx hb (dk DX3_joined 22 rfl) (by decide) ?_
            cases hF
            exact r_iret C hrt hR (dk DX3_joined 23 rfl)
          · have hF := if_f c53 hF
            refine lv_iconst (v := (1 : Int32)) hx hb (dk DX3_joined 20 rfl) (by decide) ?_
            refine lv_goto (tgt := 61) hx hb (dk DX3_joined 21 rfl) (by decide) ?_
            cases hF
            exact r_iret C hrt hR (dk DX3_joined 23 rfl)
        · have hF := if_f d1104 hF
          have n1101 := i32_ne d1101 (z := 1101) rfl
          have n1102 := i32_ne d1102 (z := 1102) rfl
          have n1103 := i32_ne d1103 (z := 1103) rfl
          have n1104 := i32_ne d1104 (z := 1104) rfl
          refine lv_tableOut (tgt := 62) hx hb (dk DX3_joined 1 rfl) (by omega) (by decide) ?_
          refine lv_iload_n hx hb (dk DX3_joined 24 rfl) rfl (lv_at hl 2 rfl) ?_
          refine lv_iload_n hx hb (dk DX3_joined 25 rfl) rfl (lv_at hl 3 rfl) ?_
          refine lv_iadd hx hb (dk DX3_joined 26 rfl) ?_
          cases hF
          exact r_iret C hrt hR (dk DX3_joined 27 rfl)
set_option maxHeartbeats 4000000 in
set_option maxRecDepth 100000 in
theorem C_Lw_setStack (l : Launch) (hl0 : l.stackTraces = false) (G : GG) (a1 : Int32) (a2 : Int32) (m0 : Mem) (v : Unit) (m' : Mem) (hF : F_Lw_setStack a1 a2 m0 = some (v, m')) : Ct l G mr0 N0 yX3_setStack cX3_setStack 3 none 1 [.ref (G.2.1 + 8), .int a1, .int a2] m0 none m' := by
  refine Ct_of hl0 (by decide) (Nat.le_of_ble_eq_true rfl) ?_
  intro p e s mid args below meth c ls C hrt hl hR
  have hx := C.1.1
  have hb := C.1.2.1
  have hl : lv_has ls 3 [(0, .ref (G.2.1 + 8)), (1, .int a1), (2, .int a2)] := hl
  unfold F_Lw_setStack at hF
  refine lv_iload_n hx hb (dk DX3_setStack 0 rfl) rfl (lv_at hl 1 rfl) ?_
  refine lv_if_lt (tgt := 17) hx hb (dk DX3_setStack 1 rfl) (by decide) (fun c1 => ?_) (fun c1 => ?_)
  · have hF := if_t c1 hF
    cases hF
    exact r_vret C hrt hR (dk DX3_setStack 10 rfl)
  · have hF := if_f c1 hF
    refine lv_iload_n hx hb (dk DX3_setStack 2 rfl) rfl (lv_at hl 1 rfl) ?_
    refine lv_bipush (v := (64 : Int32)) hx hb (dk DX3_setStack 3 rfl) (by decide) ?_
    refine lv_icmp_ge (tgt := 17) hx hb (dk DX3_setStack 4 rfl) (by decide) (fun c7 => ?_) (fun c7 => ?_)
    · have hF := if_t c7 hF
      cases hF
      exact r_vret C hrt hR (dk DX3_setStack 10 rfl)
    · have hF := if_f c7 hF
      refine lv_aload_n hx hb (dk DX3_setStack 5 rfl) rfl (lv_at hl 0 rfl) ?_
      refine gX3_25 C hR ob8 rf8_4 (dk DX3_setStack 6 rfl) ?_
      refine lv_iload_n hx hb (dk DX3_setStack 7 rfl) rfl (lv_at hl 1 rfl) ?_
      refine lv_iload_n hx hb (dk DX3_setStack 8 rfl) rfl (lv_at hl 2 rfl) ?_
      obtain ⟨hq2, hF⟩ := ckB_ex hF
      refine r_iast C hR ob11 hq2 (dk DX3_setStack 9 rfl) (fun H locs hR => ?_)
      obtain ⟨mq1, emq1, hF⟩ := lt_ex hF
      have hR := Rp_at emq1 hR
      cases hF
      exact r_vret C hrt hR (dk DX3_setStack 10 rfl)
set_option maxHeartbeats 4000000 in
set_option maxRecDepth 100000 in
theorem C_Lw_placeAt (l : Launch) (hl0 : l.stackTraces = false) (G : GG) (a1 : Int32) (m0 : Mem) (v : Int32) (m' : Mem) (hF : F_Lw_placeAt a1 m0 = some (v, m')) : Ct l G mr0 N0 yX3_placeAt cX3_placeAt 2 (some .int) 1 [.ref (G.2.1 + 8), .int a1] m0 (some (.int v)) m' := by
  refine Ct_of hl0 (by decide) (Nat.le_of_ble_eq_true rfl) ?_
  intro p e s mid args below meth c ls C hrt hl hR
  have hx := C.1.1
  have hb := C.1.2.1
  have hl : lv_has ls 2 [(0, .ref (G.2.1 + 8)), (1, .int a1)] := hl
  unfold F_Lw_placeAt at hF
  refine lv_iload_n hx hb (dk DX3_placeAt 0 rfl) rfl (lv_at hl 1 rfl) ?_
  refine lv_if_lt (tgt := 10) hx hb (dk DX3_placeAt 1 rfl) (by decide) (fun c1 => ?_) (fun c1 => ?_)
  · have hF := if_t c1 hF
    refine lv_iconst (v := (0 : Int32)) hx hb (dk DX3_placeAt 5 rfl) (by decide) ?_
    refine lv_goto (tgt := 20) hx hb (dk DX3_placeAt 6 rfl) (by decide) ?_
    cases hF
    exact r_iret C hrt hR (dk DX3_placeAt 11 rfl)
  · have hF := if_f c1 hF
    refine lv_iload_n hx hb (dk DX3_placeAt 2 rfl) rfl (lv_at hl 1 rfl) ?_
    refine lv_bipush (v := (8 : Int32)) hx hb (dk DX3_placeAt 3 rfl) (by decide) ?_
    refine lv_icmp_lt (tgt := 14) hx hb (dk DX3_placeAt 4 rfl) (by decide) (fun c7 => ?_) (fun c7 => ?_)
    · have hF := if_t c7 hF
      refine lv_aload_n hx hb (dk DX3_placeAt 7 rfl) rfl (lv_at hl 0 rfl) ?_
      refine gX3_22 C hR ob8 rf8_3 (dk DX3_placeAt 8 rfl) ?_
      refine lv_iload_n hx hb (dk DX3_placeAt 9 rfl) rfl (lv_at hl 1 rfl) ?_
      obtain ⟨hq1, hF⟩ := ckB_ex hF
      refine r_iald C hR ob10 hq1 (dk DX3_placeAt 10 rfl) ?_
      refine lv_topi (fun xq2 exq2 => ?_)
      have hF := lt_at exq2 hF
      cases hF
      exact r_iret C hrt hR (dk DX3_placeAt 11 rfl)
    · have hF := if_f c7 hF
      refine lv_iconst (v := (0 : Int32)) hx hb (dk DX3_placeAt 5 rfl) (by decide) ?_
      refine lv_goto (tgt := 20) hx hb (dk DX3_placeAt 6 rfl) (by decide) ?_
      cases hF
      exact r_iret C hrt hR (dk DX3_placeAt 11 rfl)
set_option maxHeartbeats 4000000 in
set_option maxRecDepth 100000 in
theorem C_Lw_hardness (l : Launch) (hl0 : l.stackTraces = false) (G : GG) (m0 : Mem) (v : Int32) (m' : Mem) (hF : F_Lw_hardness m0 = some (v, m')) : Ct l G mr0 N0 yX3_hardness cX3_hardness 5 (some .int) 2 [.ref (G.2.1 + 8)] m0 (some (.int v)) m' := by
  refine Ct_of hl0 (by decide) (Nat.le_of_ble_eq_true rfl) ?_
  intro p e s mid args below meth c ls C hrt hl hR
  have hx := C.1.1
  have hb := C.1.2.1
  have hl : lv_has ls 5 [(0, .ref (G.2.1 + 8))] := hl
  unfold F_Lw_hardness at hF
  refine lv_iconst (v := (0 : Int32)) hx hb (dk DX3_hardness 0 rfl) (by decide) ?_
  refine lv_istore_n (lv' := [(1, .int (0 : Int32)), (0, .ref (G.2.1 + 8))]) hx hb (dk DX3_hardness 1 rfl) rfl hl (by decide) rfl (fun ls hl => ?_)
  refine lv_iconst (v := (0 : Int32)) hx hb (dk DX3_hardness 2 rfl) (by decide) ?_
  refine lv_istore_n (lv' := [(2, .int (0 : Int32)), (1, .int (0 : Int32)), (0, .ref (G.2.1 + 8))]) hx hb (dk DX3_hardness 3 rfl) rfl hl (by decide) rfl (fun ls hl => ?_)
  refine lv_iconst (v := (0 : Int32)) hx hb (dk DX3_hardness 4 rfl) (by decide) ?_
  refine lv_istore_n (lv' := [(3, .int (0 : Int32)), (2, .int (0 : Int32)), (1, .int (0 : Int32)), (0, .ref (G.2.1 + 8))]) hx hb (dk DX3_hardness 5 rfl) rfl hl (by decide) rfl (fun ls hl => ?_)
  have L6 : ∀ (nf : Nat) (xq2 : Int32) (xq3 : Int32) (xq4 : Int32) (mq1 : Mem) (H : Heap) (locs : List Loc) (ls : Array Slot), lv_has ls 5 [(0, .ref (G.2.1 + 8)), (1, .int xq2), (2, .int xq3), (3, .int xq4)] → Rp G mr0 N0 mq1 s H locs → F_Lw_hardness_L6 nf xq2 xq3 xq4 mq1 = some (v, m') → W p l e (rmD 2) s mid args below meth c H locs 0 0 (MQ below (QR G mr0 N0 (some (.int v)) m') args s 0 0 (fun q => G.2.1 ≤ q)) (F0 mid 6 ls []) := by
    intro nf
    induction nf with
    | zero =>
      intro xq2 xq3 xq4 mq1 H locs ls hl hR hF
      rw [F_Lw_hardness_L6] at hF
      cases hF
    | succ nf ihq6 =>
      intro xq2 xq3 xq4 mq1 H locs ls hl hR hF
      rw [F_Lw_hardness_L6] at hF
      refine lv_iload_n hx hb (dk DX3_hardness 6 rfl) rfl (lv_at hl 3 rfl) ?_
      refine lv_aload_n hx hb (dk DX3_hardness 7 rfl) rfl (lv_at hl 0 rfl) ?_
      refine gX3_15 C hR ob8 (dk DX3_hardness 8 rfl) ?_
      refine lv_icmp_ge (tgt := 178) hx hb (dk DX3_hardness 9 rfl) (by decide) (fun c11 => ?_) (fun c11 => ?_)
      · have hF := if_t c11 hF
        refine lv_iload_n hx hb (dk DX3_hardness 94 rfl) rfl (lv_at hl 1 rfl) ?_
        cases hF
        exact r_iret C hrt hR (dk DX3_hardness 95 rfl)
      · have hF := if_f c11 hF
        refine lv_iload_n hx hb (dk DX3_hardness 10 rfl) rfl (lv_at hl 3 rfl) ?_
        refine lv_sipush (v := (400 : Int32)) hx hb (dk DX3_hardness 11 rfl) (by decide) ?_
        refine lv_icmp_ge (tgt := 178) hx hb (dk DX3_hardness 12 rfl) (by decide) (fun c18 => ?_) (fun c18 => ?_)
        · have hF := if_t c18 hF
          refine lv_iload_n hx hb (dk DX3_hardness 94 rfl) rfl (lv_at hl 1 rfl) ?_
          cases hF
          exact r_iret C hrt hR (dk DX3_hardness 95 rfl)
        · have hF := if_f c18 hF
          refine lv_aload_n hx hb (dk DX3_hardness 13 rfl) rfl (lv_at hl 0 rfl) ?_
          refine gX3_18 C hR ob8 rf8_2 (dk DX3_hardness 14 rfl) ?_
          refine lv_iload_n hx hb (dk DX3_hardness 15 rfl) rfl (lv_at hl 3 rfl) ?_
          obtain ⟨hq7, hF⟩ := ckB_ex hF
          refine r_iald C hR ob9 hq7 (dk DX3_hardness 16 rfl) ?_
          refine lv_topi (fun xq8 exq8 => ?_)
          have hF := lt_at exq8 hF
          refine lv_istore (lv' := [(4, .int xq8), (0, .ref (G.2.1 + 8)), (1, .int xq2), (2, .int xq3), (3, .int xq4)]) hx hb (dk DX3_hardness 17 rfl) hl (by decide) rfl (fun ls hl => ?_)
          refine lv_iload hx hb (dk DX3_hardness 18 rfl) (lv_at hl 0 rfl) ?_
          refine lv_sipush (v := (1008 : Int32)) hx hb (dk DX3_hardness 19 rfl) (by decide) ?_
          obtain ⟨k172_11, ek172_11, hF⟩ := lt_ex hF
          have J172 : ∀ (xq10 : Int32) (xq11 : Int32) (mq9 : Mem) (H : Heap) (locs : List Loc) (ls : Array Slot), lv_has ls 5 [(0, .ref (G.2.1 + 8)), (1, .int xq10), (2, .int xq11), (3, .int xq4)] → Rp G mr0 N0 mq9 s H locs → k172_11 xq10 xq11 mq9 = some (v, m') → W p l e (rmD 2) s mid args below meth c H locs 0 0 (MQ below (QR G mr0 N0 (some (.int v)) m') args s 0 0 (fun q => G.2.1 ≤ q)) (F0 mid 172 ls []) := by
            intro xq10 xq11 mq9 H locs ls hl hR hF
            rw [ek172_11] at hF
            obtain ⟨xq12, exq12, hF⟩ := lt_ex hF
            refine lv_iinc (v := xq12) (lv' := [(3, .int xq12), (0, .ref (G.2.1 + 8)), (1, .int xq10), (2, .int xq11)]) hx hb (dk DX3_hardness 92 rfl) hl (k := 3) rfl (by rw [exq12]; rfl) (by decide) rfl (fun ls hl => ?_)
            refine lv_goto (tgt := 6) hx hb (dk DX3_hardness 93 rfl) (by decide) ?_
            exact ihq6 xq10 xq11 xq12 mq9 _ _ ls (lv_sub hl [1, 2, 3, 0] rfl) hR hF
          refine lv_icmp_ge (tgt := 82) hx hb (dk DX3_hardness 20 rfl) (by decide) (fun c34 => ?_) (fun c34 => ?_)
          · have hF := if_t c34 hF
            refine lv_iload hx hb (dk DX3_hardness 42 rfl) (lv_at hl 0 rfl) ?_
            refine lv_sipush (v := (2000 : Int32)) hx hb (dk DX3_hardness 43 rfl) (by decide) ?_
            refine lv_icmp_lt (tgt := 117) hx hb (dk DX3_hardness 44 rfl) (by decide) (fun c87 => ?_) (fun c87 => ?_)
            · have hF := if_t c87 hF
              refine lv_iload hx hb (dk DX3_hardness 59 rfl) (lv_at hl 0 rfl) ?_
              refine lv_sipush (v := (1100 : Int32)) hx hb (dk DX3_hardness 60 rfl) (by decide) ?_
              refine lv_icmp_ne (tgt := 144) hx hb (dk DX3_hardness 61 rfl) (by decide) (fun c122 => ?_) (fun c122 => ?_)
              · have hF := if_f c122 hF
                obtain ⟨xq13, exq13, hF⟩ := lt_ex hF
                refine lv_iinc (v := xq13) (lv' := [(2, .int xq13), (4, .int xq8), (0, .ref (G.2.1 + 8)), (1, .int xq2), (3, .int xq4)]) hx hb (dk DX3_hardness 75 rfl) hl (k := 3) rfl (by rw [exq13]; rfl) (by decide) rfl (fun ls hl => ?_)
                refine lv_aload_n hx hb (dk DX3_hardness 76 rfl) rfl (lv_at hl 2 rfl) ?_
                refine lv_iload_n hx hb (dk DX3_hardness 77 rfl) rfl (lv_at hl 0 rfl) ?_
                refine lv_iconst (v := (1 : Int32)) hx hb (dk DX3_hardness 78 rfl) (by decide) ?_
                refine lv_isub hx hb (dk DX3_hardness 79 rfl) ?_
                refine lv_aload_n hx hb (dk DX3_hardness 80 rfl) rfl (lv_at hl 2 rfl) ?_
                refine lv_iload hx hb (dk DX3_hardness 81 rfl) (lv_at hl 1 rfl) ?_
                refine lv_aload_n hx hb (dk DX3_hardness 82 rfl) rfl (lv_at hl 2 rfl) ?_
                refine lv_iload_n hx hb (dk DX3_hardness 83 rfl) rfl (lv_at hl 0 rfl) ?_
                refine lv_iconst (v := (1 : Int32)) hx hb (dk DX3_hardness 84 rfl) (by decide) ?_
                refine lv_isub hx hb (dk DX3_hardness 85 rfl) ?_
                obtain ⟨xq16, mq14, hzq15, hF⟩ := bnd_ex hF
                refine r_callVi (As := [.int (xq13 - (1 : Int32))]) (rest := [.int xq8, .ref (G.2.1 + 8), .int (xq13 - (1 : Int32)), .ref (G.2.1 + 8)]) C hR (C_Lw_stackAt l hl0 G (xq13 - (1 : Int32)) mq1 _ _ hzq15) (by decide) (by decide) ob8 rfl wX3_32 rfl rfl (Nat.le_of_ble_eq_true rfl) hl.1 ⟨Nat.zero_le _, Nat.zero_le _⟩ (dk DX3_hardness 86 rfl) (fun H locs hR => ?_)
                refine lv_aload_n hx hb (dk DX3_hardness 87 rfl) rfl (lv_at hl 2 rfl) ?_
                refine lv_iload_n hx hb (dk DX3_hardness 88 rfl) rfl (lv_at hl 0 rfl) ?_
                obtain ⟨xq19, mq17, hzq18, hF⟩ := bnd_ex hF
                refine r_callVi (As := [.int xq13]) (rest := [.int xq16, .int xq8, .ref (G.2.1 + 8), .int (xq13 - (1 : Int32)), .ref (G.2.1 + 8)]) C hR (C_Lw_stackAt l hl0 G xq13 mq14 _ _ hzq18) (by decide) (by decide) ob8 rfl wX3_32 rfl rfl (Nat.le_of_ble_eq_true rfl) hl.1 ⟨Nat.zero_le _, Nat.zero_le _⟩ (dk DX3_hardness 89 rfl) (fun H locs hR => ?_)
                obtain ⟨xq22, mq20, hzq21, hF⟩ := bnd_ex hF
                refine r_callVi (As := [.int xq8, .int xq16, .int xq19]) (rest := [.int (xq13 - (1 : Int32)), .ref (G.2.1 + 8)]) C hR (C_Lw_joined l hl0 G xq8 xq16 xq19 mq17 _ _ hzq21) (by decide) (by decide) ob8 rfl wX3_39 rfl rfl (Nat.le_of_ble_eq_true rfl) hl.1 ⟨Nat.zero_le _, Nat.zero_le _⟩ (dk DX3_hardness 90 rfl) (fun H locs hR => ?_)
                obtain ⟨uq25, mq23, hzq24, hF⟩ := bnd_ex hF
                refine r_callVv (As := [.int (xq13 - (1 : Int32)), .int xq22]) (rest := []) C hR (C_Lw_setStack l hl0 G (xq13 - (1 : Int32)) xq22 mq20 _ _ hzq24) (by decide) (by decide) ob8 rfl wX3_35 rfl rfl (Nat.le_of_ble_eq_true rfl) hl.1 ⟨Nat.zero_le _, Nat.zero_le _⟩ (dk DX3_hardness 91 rfl) (fun H locs hR => ?_)
                exact J172 xq2 xq13 mq23 _ _ ls (lv_sub hl [2, 3, 0, 4] rfl) hR hF
              · have hF := if_t c122 hF
                refine lv_aload_n hx hb (dk DX3_hardness 62 rfl) rfl (lv_at hl 1 rfl) ?_
                refine lv_iload_n hx hb (dk DX3_hardness 63 rfl) rfl (lv_at hl 3 rfl) ?_
                refine lv_iconst (v := (1 : Int32)) hx hb (dk DX3_hardness 64 rfl) (by decide) ?_
                refine lv_isub hx hb (dk DX3_hardness 65 rfl) ?_
                refine lv_iconst (v := (1 : Int32)) hx hb (dk DX3_hardness 66 rfl) (by decide) ?_
                refine lv_aload_n hx hb (dk DX3_hardness 67 rfl) rfl (lv_at hl 1 rfl) ?_
                refine lv_iload_n hx hb (dk DX3_hardness 68 rfl) rfl (lv_at hl 3 rfl) ?_
                refine lv_iconst (v := (1 : Int32)) hx hb (dk DX3_hardness 69 rfl) (by decide) ?_
                refine lv_isub hx hb (dk DX3_hardness 70 rfl) ?_
                obtain ⟨xq28, mq26, hzq27, hF⟩ := bnd_ex hF
                refine r_callVi (As := [.int (xq3 - (1 : Int32))]) (rest := [.int (1 : Int32), .int (xq3 - (1 : Int32)), .ref (G.2.1 + 8)]) C hR (C_Lw_stackAt l hl0 G (xq3 - (1 : Int32)) mq1 _ _ hzq27) (by decide) (by decide) ob8 rfl wX3_32 rfl rfl (Nat.le_of_ble_eq_true rfl) hl.1 ⟨Nat.zero_le _, Nat.zero_le _⟩ (dk DX3_hardness 71 rfl) (fun H locs hR => ?_)
                refine lv_isub hx hb (dk DX3_hardness 72 rfl) ?_
                obtain ⟨uq31, mq29, hzq30, hF⟩ := bnd_ex hF
                refine r_callVv (As := [.int (xq3 - (1 : Int32)), .int ((1 : Int32) - xq28)]) (rest := []) C hR (C_Lw_setStack l hl0 G (xq3 - (1 : Int32)) ((1 : Int32) - xq28) mq26 _ _ hzq30) (by decide) (by decide) ob8 rfl wX3_35 rfl rfl (Nat.le_of_ble_eq_true rfl) hl.1 ⟨Nat.zero_le _, Nat.zero_le _⟩ (dk DX3_hardness 73 rfl) (fun H locs hR => ?_)
                refine lv_goto (tgt := 172) hx hb (dk DX3_hardness 74 rfl) (by decide) ?_
                exact J172 xq2 xq3 mq29 _ _ ls (lv_sub hl [1, 2, 3, 4] rfl) hR hF
            · have hF := if_f c87 hF
              obtain ⟨xq32, exq32, hF⟩ := lt_ex hF
              refine lv_iinc (v := xq32) (lv' := [(2, .int xq32), (4, .int xq8), (0, .ref (G.2.1 + 8)), (1, .int xq2), (3, .int xq4)]) hx hb (dk DX3_hardness 45 rfl) hl (k := 3) rfl (by rw [exq32]; rfl) (by decide) rfl (fun ls hl => ?_)
              refine lv_iload_n hx hb (dk DX3_hardness 46 rfl) rfl (lv_at hl 3 rfl) ?_
              refine lv_aload_n hx hb (dk DX3_hardness 47 rfl) rfl (lv_at hl 2 rfl) ?_
              refine lv_iload_n hx hb (dk DX3_hardness 48 rfl) rfl (lv_at hl 0 rfl) ?_
              obtain ⟨xq35, mq33, hzq34, hF⟩ := bnd_ex hF
              refine r_callVi (As := [.int xq32]) (rest := [.int xq2]) C hR (C_Lw_stackAt l hl0 G xq32 mq1 _ _ hzq34) (by decide) (by decide) ob8 rfl wX3_32 rfl rfl (Nat.le_of_ble_eq_true rfl) hl.1 ⟨Nat.zero_le _, Nat.zero_le _⟩ (dk DX3_hardness 49 rfl) (fun H locs hR => ?_)
              obtain ⟨k112_37, ek112_37, hF⟩ := lt_ex hF
              have J112 : ∀ (xq37 : Int32) (mq36 : Mem) (H : Heap) (locs : List Loc) (ls : Array Slot), lv_has ls 5 [(0, .ref (G.2.1 + 8)), (2, .int xq32), (3, .int xq4)] → Rp G mr0 N0 mq36 s H locs → k112_37 xq37 mq36 = some (v, m') → W p l e (rmD 2) s mid args below meth c H locs 0 0 (MQ below (QR G mr0 N0 (some (.int v)) m') args s 0 0 (fun q => G.2.1 ≤ q)) (F0 mid 112 ls [.int xq37, .int xq2]) := by
                intro xq37 mq36 H locs ls hl hR hF
                rw [ek112_37] at hF
                refine lv_iadd hx hb (dk DX3_hardness 56 rfl) ?_
                refine lv_topi (fun xq38 exq38 => ?_)
                have hF := lt_at exq38 hF
                refine lv_istore_n (lv' := [(1, .int xq38), (0, .ref (G.2.1 + 8)), (2, .int xq32), (3, .int xq4)]) hx hb (dk DX3_hardness 57 rfl) rfl hl (by decide) rfl (fun ls hl => ?_)
                refine lv_goto (tgt := 172) hx hb (dk DX3_hardness 58 rfl) (by decide) ?_
                exact J172 xq38 xq32 mq36 _ _ ls (lv_sub hl [1, 0, 2, 3] rfl) hR hF
              refine lv_if_eq (tgt := 111) hx hb (dk DX3_hardness 50 rfl) (by decide) (fun c99 => ?_) (fun c99 => ?_)
              · have hF := if_t c99 hF
                refine lv_iconst (v := (0 : Int32)) hx hb (dk DX3_hardness 55 rfl) (by decide) ?_
                exact J112 (0 : Int32) mq33 _ _ ls (lv_sub hl [2, 0, 4] rfl) hR hF
              · have hF := if_f c99 hF
                refine lv_iload hx hb (dk DX3_hardness 51 rfl) (lv_at hl 1 rfl) ?_
                refine lv_sipush (v := (2000 : Int32)) hx hb (dk DX3_hardness 52 rfl) (by decide) ?_
                refine lv_isub hx hb (dk DX3_hardness 53 rfl) ?_
                refine lv_goto (tgt := 112) hx hb (dk DX3_hardness 54 rfl) (by decide) ?_
                exact J112 (xq8 - (2000 : Int32)) mq33 _ _ ls (lv_sub hl [2, 0, 4] rfl) hR hF
          · have hF := if_f c34 hF
            refine lv_iload_n hx hb (dk DX3_hardness 21 rfl) rfl (lv_at hl 3 rfl) ?_
            obtain ⟨k76_39, ek76_39, hF⟩ := lt_ex hF
            have J76 : ∀ (mq39 : Mem) (H : Heap) (locs : List Loc) (ls : Array Slot), lv_has ls 5 [(0, .ref (G.2.1 + 8)), (1, .int xq2), (2, .int xq3), (3, .int xq4)] → Rp G mr0 N0 mq39 s H locs → k76_39  mq39 = some (v, m') → W p l e (rmD 2) s mid args below meth c H locs 0 0 (MQ below (QR G mr0 N0 (some (.int v)) m') args s 0 0 (fun q => G.2.1 ≤ q)) (F0 mid 76 ls []) := by
              intro  mq39 H locs ls hl hR hF
              rw [ek76_39] at hF
              obtain ⟨xq40, exq40, hF⟩ := lt_ex hF
              refine lv_iinc (v := xq40) (lv' := [(2, .int xq40), (0, .ref (G.2.1 + 8)), (1, .int xq2), (3, .int xq4)]) hx hb (dk DX3_hardness 40 rfl) hl (k := 2) rfl (by rw [exq40]; rfl) (by decide) rfl (fun ls hl => ?_)
              refine lv_goto (tgt := 172) hx hb (dk DX3_hardness 41 rfl) (by decide) ?_
              exact J172 xq2 xq40 mq39 _ _ ls (lv_sub hl [1, 2, 0, 3] rfl) hR hF
            refine lv_if_lt (tgt := 76) hx hb (dk DX3_hardness 22 rfl) (by decide) (fun c38 => ?_) (fun c38 => ?_)
            · have hF := if_t c38 hF
              exact J76 mq1 _ _ ls (lv_sub hl [1, 2, 3, 4] rfl) hR hF
            · have hF := if_f c38 hF
              refine lv_iload_n hx hb (dk DX3_hardness 23 rfl) rfl (lv_at hl 3 rfl) ?_
              refine lv_bipush (v := (64 : Int32)) hx hb (dk DX3_hardness 24 rfl) (by decide) ?_
              refine lv_icmp_ge (tgt := 76) hx hb (dk DX3_hardness 25 rfl) (by decide) (fun c44 => ?_) (fun c44 => ?_)
              · have hF := if_t c44 hF
                exact J76 mq1 _ _ ls (lv_sub hl [1, 2, 3, 4] rfl) hR hF
              · have hF := if_f c44 hF
                refine lv_aload_n hx hb (dk DX3_hardness 26 rfl) rfl (lv_at hl 1 rfl) ?_
                refine gX3_25 C hR ob8 rf8_4 (dk DX3_hardness 27 rfl) ?_
                refine lv_iload_n hx hb (dk DX3_hardness 28 rfl) rfl (lv_at hl 3 rfl) ?_
                refine lv_iload hx hb (dk DX3_hardness 29 rfl) (lv_at hl 0 rfl) ?_
                refine lv_sipush (v := (1000 : Int32)) hx hb (dk DX3_hardness 30 rfl) (by decide) ?_
                obtain ⟨k75_42, ek75_42, hF⟩ := lt_ex hF
                have J75 : ∀ (xq42 : Int32) (mq41 : Mem) (H : Heap) (locs : List Loc) (ls : Array Slot), lv_has ls 5 [(0, .ref (G.2.1 + 8)), (1, .int xq2), (2, .int xq3), (3, .int xq4)] → Rp G mr0 N0 mq41 s H locs → k75_42 xq42 mq41 = some (v, m') → W p l e (rmD 2) s mid args below meth c H locs 0 0 (MQ below (QR G mr0 N0 (some (.int v)) m') args s 0 0 (fun q => G.2.1 ≤ q)) (F0 mid 75 ls [.int xq42, .int xq3, .ref (G.2.1 + 11)]) := by
                  intro xq42 mq41 H locs ls hl hR hF
                  rw [ek75_42] at hF
                  obtain ⟨hq44, hF⟩ := ckB_ex hF
                  refine r_iast C hR ob11 hq44 (dk DX3_hardness 39 rfl) (fun H locs hR => ?_)
                  obtain ⟨mq43, emq43, hF⟩ := lt_ex hF
                  have hR := Rp_at emq43 hR
                  exact J76 mq43 _ _ ls (lv_sub hl [0, 1, 2, 3] rfl) hR hF
                refine lv_icmp_ge (tgt := 65) hx hb (dk DX3_hardness 31 rfl) (by decide) (fun c57 => ?_) (fun c57 => ?_)
                · have hF := if_t c57 hF
                  refine lv_aload_n hx hb (dk DX3_hardness 34 rfl) rfl (lv_at hl 1 rfl) ?_
                  refine lv_iload hx hb (dk DX3_hardness 35 rfl) (lv_at hl 0 rfl) ?_
                  refine lv_sipush (v := (1000 : Int32)) hx hb (dk DX3_hardness 36 rfl) (by decide) ?_
                  refine lv_isub hx hb (dk DX3_hardness 37 rfl) ?_
                  obtain ⟨xq47, mq45, hzq46, hF⟩ := bnd_ex hF
                  refine r_callVi (As := [.int (xq8 - (1000 : Int32))]) (rest := [.int xq3, .ref (G.2.1 + 11)]) C hR (C_Lw_placeAt l hl0 G (xq8 - (1000 : Int32)) mq1 _ _ hzq46) (by decide) (by decide) ob8 rfl wX3_28 rfl rfl (Nat.le_of_ble_eq_true rfl) hl.1 ⟨Nat.zero_le _, Nat.zero_le _⟩ (dk DX3_hardness 38 rfl) (fun H locs hR => ?_)
                  exact J75 xq47 mq45 _ _ ls (lv_sub hl [1, 2, 3, 4] rfl) hR hF
                · have hF := if_f c57 hF
                  refine lv_iload hx hb (dk DX3_hardness 32 rfl) (lv_at hl 0 rfl) ?_
                  refine lv_goto (tgt := 75) hx hb (dk DX3_hardness 33 rfl) (by decide) ?_
                  exact J75 xq8 mq1 _ _ ls (lv_sub hl [1, 2, 3, 4] rfl) hR hF
  exact L6 1000000 (0 : Int32) (0 : Int32) (0 : Int32) m0 _ _ ls (lv_sub hl [3, 2, 1, 0] rfl) hR hF
set_option maxHeartbeats 4000000 in
set_option maxRecDepth 100000 in
theorem C_Gr_levelOf (l : Launch) (hl0 : l.stackTraces = false) (G : GG) (a1 : Int32) (a2 : Int32) (a3 : Int32) (m0 : Mem) (v : Int32) (m' : Mem) (hF : F_Gr_levelOf a1 a2 a3 m0 = some (v, m')) : Ct l G mr0 N0 yX1_levelOf cX1_levelOf 5 (some .int) 3 [.ref (G.2.1 + 3), .int a1, .int a2, .int a3] m0 (some (.int v)) m' := by
  refine Ct_of hl0 (by decide) (Nat.le_of_ble_eq_true rfl) ?_
  intro p e s mid args below meth c ls C hrt hl hR
  have hx := C.1.1
  have hb := C.1.2.1
  have hl : lv_has ls 5 [(0, .ref (G.2.1 + 3)), (1, .int a1), (2, .int a2), (3, .int a3)] := hl
  unfold F_Gr_levelOf at hF
  refine lv_iload_n hx hb (dk DX1_levelOf 0 rfl) rfl (lv_at hl 1 rfl) ?_
  refine lv_bipush (v := (8 : Int32)) hx hb (dk DX1_levelOf 1 rfl) (by decide) ?_
  refine lv_imul hx hb (dk DX1_levelOf 2 rfl) ?_
  refine lv_iload_n hx hb (dk DX1_levelOf 3 rfl) rfl (lv_at hl 2 rfl) ?_
  refine lv_iconst (v := (2 : Int32)) hx hb (dk DX1_levelOf 4 rfl) (by decide) ?_
  refine lv_imul hx hb (dk DX1_levelOf 5 rfl) ?_
  refine lv_iadd hx hb (dk DX1_levelOf 6 rfl) ?_
  refine lv_iload_n hx hb (dk DX1_levelOf 7 rfl) rfl (lv_at hl 3 rfl) ?_
  refine lv_iadd hx hb (dk DX1_levelOf 8 rfl) ?_
  refine lv_topi (fun xq1 exq1 => ?_)
  have hF := lt_at exq1 hF
  refine lv_istore (lv' := [(4, .int xq1), (0, .ref (G.2.1 + 3)), (1, .int a1), (2, .int a2), (3, .int a3)]) hx hb (dk DX1_levelOf 9 rfl) hl (by decide) rfl (fun ls hl => ?_)
  refine lv_iload hx hb (dk DX1_levelOf 10 rfl) (lv_at hl 0 rfl) ?_
  refine lv_if_lt (tgt := 24) hx hb (dk DX1_levelOf 11 rfl) (by decide) (fun c14 => ?_) (fun c14 => ?_)
  · have hF := if_t c14 hF
    refine lv_iconst (v := (0 : Int32)) hx hb (dk DX1_levelOf 15 rfl) (by decide) ?_
    cases hF
    exact r_iret C hrt hR (dk DX1_levelOf 16 rfl)
  · have hF := if_f c14 hF
    refine lv_iload hx hb (dk DX1_levelOf 12 rfl) (lv_at hl 0 rfl) ?_
    refine lv_bipush (v := (72 : Int32)) hx hb (dk DX1_levelOf 13 rfl) (by decide) ?_
    refine lv_icmp_lt (tgt := 26) hx hb (dk DX1_levelOf 14 rfl) (by decide) (fun c21 => ?_) (fun c21 => ?_)
    · have hF := if_t c21 hF
      refine lv_aload_n hx hb (dk DX1_levelOf 17 rfl) rfl (lv_at hl 1 rfl) ?_
      refine gX1_60 C hR ob3 rf3_13 (dk DX1_levelOf 18 rfl) ?_
      refine lv_iload hx hb (dk DX1_levelOf 19 rfl) (lv_at hl 0 rfl) ?_
      obtain ⟨hq2, hF⟩ := ckB_ex hF
      refine r_iald C hR ob14 hq2 (dk DX1_levelOf 20 rfl) ?_
      refine lv_topi (fun xq3 exq3 => ?_)
      have hF := lt_at exq3 hF
      refine lv_iconst (v := (-1 : Int32)) hx hb (dk DX1_levelOf 21 rfl) (by decide) ?_
      obtain ⟨k140_4, ek140_4, hF⟩ := lt_ex hF
      have J140 : ∀ (mq4 : Mem) (H : Heap) (locs : List Loc) (ls : Array Slot), lv_has ls 5 [(0, .ref (G.2.1 + 3)), (4, .int xq1)] → Rp G mr0 N0 mq4 s H locs → k140_4  mq4 = some (v, m') → W p l e (rmD 3) s mid args below meth c H locs 0 0 (MQ below (QR G mr0 N0 (some (.int v)) m') args s 0 0 (fun q => G.2.1 ≤ q)) (F0 mid 140 ls []) := by
        intro  mq4 H locs ls hl hR hF
        rw [ek140_4] at hF
        refine lv_aload_n hx hb (dk DX1_levelOf 77 rfl) rfl (lv_at hl 0 rfl) ?_
        refine gX1_60 C hR ob3 rf3_13 (dk DX1_levelOf 78 rfl) ?_
        refine lv_iload hx hb (dk DX1_levelOf 79 rfl) (lv_at hl 1 rfl) ?_
        obtain ⟨hq5, hF⟩ := ckB_ex hF
        refine r_iald C hR ob14 hq5 (dk DX1_levelOf 80 rfl) ?_
        refine lv_topi (fun xq6 exq6 => ?_)
        have hF := lt_at exq6 hF
        cases hF
        exact r_iret C hrt hR (dk DX1_levelOf 81 rfl)
      obtain ⟨k59_7, ek59_7, hF⟩ := lt_ex hF
      have J59 : ∀ (mq7 : Mem) (H : Heap) (locs : List Loc) (ls : Array Slot), lv_has ls 5 [(0, .ref (G.2.1 + 3)), (1, .int a1), (2, .int a2), (3, .int a3), (4, .int xq1)] → Rp G mr0 N0 mq7 s H locs → k59_7  mq7 = some (v, m') → W p l e (rmD 3) s mid args below meth c H locs 0 0 (MQ below (QR G mr0 N0 (some (.int v)) m') args s 0 0 (fun q => G.2.1 ≤ q)) (F0 mid 59 ls []) := by
        intro  mq7 H locs ls hl hR hF
        rw [ek59_7] at hF
        refine lv_aload_n hx hb (dk DX1_levelOf 34 rfl) rfl (lv_at hl 0 rfl) ?_
        refine gX1_60 C hR ob3 rf3_13 (dk DX1_levelOf 35 rfl) ?_
        refine lv_iload hx hb (dk DX1_levelOf 36 rfl) (lv_at hl 4 rfl) ?_
        obtain ⟨hq8, hF⟩ := ckB_ex hF
        refine r_iald C hR ob14 hq8 (dk DX1_levelOf 37 rfl) ?_
        refine lv_topi (fun xq9 exq9 => ?_)
        have hF := lt_at exq9 hF
        refine lv_iconst (v := (-1 : Int32)) hx hb (dk DX1_levelOf 38 rfl) (by decide) ?_
        refine lv_icmp_ne (tgt := 140) hx hb (dk DX1_levelOf 39 rfl) (by decide) (fun c67 => ?_) (fun c67 => ?_)
        · have hF := if_f c67 hF
          exact J140 mq7 _ _ ls (lv_sub hl [0, 4] rfl) hR hF
        · have hF := if_t c67 hF
          refine lv_aload_n hx hb (dk DX1_levelOf 40 rfl) rfl (lv_at hl 0 rfl) ?_
          refine gX1_49 C hR ob3 rf3_11 (dk DX1_levelOf 41 rfl) ?_
          refine lv_iload_n hx hb (dk DX1_levelOf 42 rfl) rfl (lv_at hl 1 rfl) ?_
          refine lv_iload_n hx hb (dk DX1_levelOf 43 rfl) rfl (lv_at hl 2 rfl) ?_
          refine lv_iload_n hx hb (dk DX1_levelOf 44 rfl) rfl (lv_at hl 3 rfl) ?_
          obtain ⟨uq12, mq10, hzq11, hF⟩ := bnd_ex hF
          refine r_callVv (As := [.int a1, .int a2, .int a3]) (rest := []) C hR (C_Lw_stand l hl0 G a1 a2 a3 mq7 _ _ hzq11) (by decide) (by decide) ob8 rfl wX1_83 rfl rfl (Nat.le_of_ble_eq_true rfl) hl.1 ⟨Nat.zero_le _, Nat.zero_le _⟩ (dk DX1_levelOf 45 rfl) (fun H locs hR => ?_)
          refine lv_aload_n hx hb (dk DX1_levelOf 46 rfl) rfl (lv_at hl 0 rfl) ?_
          refine gX1_49 C hR ob3 rf3_11 (dk DX1_levelOf 47 rfl) ?_
          refine lv_aload_n hx hb (dk DX1_levelOf 48 rfl) rfl (lv_at hl 0 rfl) ?_
          refine lv_iload_n hx hb (dk DX1_levelOf 49 rfl) rfl (lv_at hl 3 rfl) ?_
          obtain ⟨xq15, mq13, hzq14, hF⟩ := bnd_ex hF
          refine r_callVi (As := [.int a3]) (rest := [.ref (G.2.1 + 8)]) C hR (C_Gr_batOf l hl0 G a3 mq10 _ _ hzq14) (by decide) (by decide) ob3 rfl wX1_87 rfl rfl (Nat.le_of_ble_eq_true rfl) hl.1 ⟨Nat.zero_le _, Nat.zero_le _⟩ (dk DX1_levelOf 50 rfl) (fun H locs hR => ?_)
          refine lv_aload_n hx hb (dk DX1_levelOf 51 rfl) rfl (lv_at hl 0 rfl) ?_
          refine lv_iconst (v := (1 : Int32)) hx hb (dk DX1_levelOf 52 rfl) (by decide) ?_
          refine lv_iload_n hx hb (dk DX1_levelOf 53 rfl) rfl (lv_at hl 3 rfl) ?_
          refine lv_isub hx hb (dk DX1_levelOf 54 rfl) ?_
          obtain ⟨xq18, mq16, hzq17, hF⟩ := bnd_ex hF
          refine r_callVi (As := [.int ((1 : Int32) - a3)]) (rest := [.int xq15, .ref (G.2.1 + 8)]) C hR (C_Gr_bowlOf l hl0 G ((1 : Int32) - a3) mq13 _ _ hzq17) (by decide) (by decide) ob3 rfl wX1_91 rfl rfl (Nat.le_of_ble_eq_true rfl) hl.1 ⟨Nat.zero_le _, Nat.zero_le _⟩ (dk DX1_levelOf 55 rfl) (fun H locs hR => ?_)
          obtain ⟨uq21, mq19, hzq20, hF⟩ := bnd_ex hF
          refine r_callVv (As := [.int xq15, .int xq18]) (rest := []) C hR (C_Lw_standSides l hl0 G xq15 xq18 mq16 _ _ hzq20) (by decide) (by decide) ob8 rfl wX1_94 rfl rfl (Nat.le_of_ble_eq_true rfl) hl.1 ⟨Nat.zero_le _, Nat.zero_le _⟩ (dk DX1_levelOf 56 rfl) (fun H locs hR => ?_)
          refine lv_aload_n hx hb (dk DX1_levelOf 57 rfl) rfl (lv_at hl 0 rfl) ?_
          refine gX1_49 C hR ob3 rf3_11 (dk DX1_levelOf 58 rfl) ?_
          refine lv_aload_n hx hb (dk DX1_levelOf 59 rfl) rfl (lv_at hl 0 rfl) ?_
          refine gX1_15 C hR ob3 (dk DX1_levelOf 60 rfl) ?_
          refine lv_iload_n hx hb (dk DX1_levelOf 61 rfl) rfl (lv_at hl 1 rfl) ?_
          obtain ⟨xq24, mq22, hzq23, hF⟩ := bnd_ex hF
          refine r_callSNi (As := [.int (gI mq19 3 1), .int a1]) (rest := [.ref (G.2.1 + 8)]) C hR (C_T_bitOf l hl0 G (gI mq19 3 1) a1 mq19 _ _ hzq23) (by decide) (by decide) wX1_70 rfl rfl (Nat.le_of_ble_eq_true rfl) hl.1 ⟨Nat.zero_le _, Nat.zero_le _⟩ (dk DX1_levelOf 62 rfl) (fun H locs hR => ?_)
          refine lv_aload_n hx hb (dk DX1_levelOf 63 rfl) rfl (lv_at hl 0 rfl) ?_
          refine gX1_18 C hR ob3 (dk DX1_levelOf 64 rfl) ?_
          refine lv_iload_n hx hb (dk DX1_levelOf 65 rfl) rfl (lv_at hl 1 rfl) ?_
          obtain ⟨xq27, mq25, hzq26, hF⟩ := bnd_ex hF
          refine r_callSNi (As := [.int (gI mq22 3 2), .int a1]) (rest := [.int xq24, .ref (G.2.1 + 8)]) C hR (C_T_bitOf l hl0 G (gI mq22 3 2) a1 mq22 _ _ hzq26) (by decide) (by decide) wX1_70 rfl rfl (Nat.le_of_ble_eq_true rfl) hl.1 ⟨Nat.zero_le _, Nat.zero_le _⟩ (dk DX1_levelOf 66 rfl) (fun H locs hR => ?_)
          obtain ⟨uq30, mq28, hzq29, hF⟩ := bnd_ex hF
          refine r_callVv (As := [.int xq24, .int xq27]) (rest := []) C hR (C_Lw_standSky l hl0 G xq24 xq27 mq25 _ _ hzq29) (by decide) (by decide) ob8 rfl wX1_98 rfl rfl (Nat.le_of_ble_eq_true rfl) hl.1 ⟨Nat.zero_le _, Nat.zero_le _⟩ (dk DX1_levelOf 67 rfl) (fun H locs hR => ?_)
          refine lv_aload_n hx hb (dk DX1_levelOf 68 rfl) rfl (lv_at hl 0 rfl) ?_
          refine gX1_60 C hR ob3 rf3_13 (dk DX1_levelOf 69 rfl) ?_
          refine lv_iload hx hb (dk DX1_levelOf 70 rfl) (lv_at hl 4 rfl) ?_
          refine lv_iconst (v := (3 : Int32)) hx hb (dk DX1_levelOf 71 rfl) (by decide) ?_
          refine lv_aload_n hx hb (dk DX1_levelOf 72 rfl) rfl (lv_at hl 0 rfl) ?_
          refine gX1_49 C hR ob3 rf3_11 (dk DX1_levelOf 73 rfl) ?_
          obtain ⟨xq33, mq31, hzq32, hF⟩ := bnd_ex hF
          refine r_callVi (As := []) (rest := [.int (3 : Int32), .int xq1, .ref (G.2.1 + 14)]) C hR (C_Lw_hardness l hl0 G mq28 _ _ hzq32) (by decide) (by decide) ob8 rfl wX1_101 rfl rfl (Nat.le_of_ble_eq_true rfl) hl.1 ⟨Nat.zero_le _, Nat.zero_le _⟩ (dk DX1_levelOf 74 rfl) (fun H locs hR => ?_)
          refine r_mnI C (gd q699 rfl) (by decide) (Nat.le_of_ble_eq_true rfl) hl.1 ⟨Nat.zero_le _, Nat.zero_le _⟩ (dk DX1_levelOf 75 rfl) ?_
          obtain ⟨hq35, hF⟩ := ckB_ex hF
          refine r_iast C hR ob14 hq35 (dk DX1_levelOf 76 rfl) (fun H locs hR => ?_)
          obtain ⟨mq34, emq34, hF⟩ := lt_ex hF
          have hR := Rp_at emq34 hR
          exact J140 mq34 _ _ ls (lv_sub hl [0, 4] rfl) hR hF
      refine lv_icmp_ne (tgt := 59) hx hb (dk DX1_levelOf 22 rfl) (by decide) (fun c34 => ?_) (fun c34 => ?_)
      · have hF := if_f c34 hF
        exact J59 m0 _ _ ls (lv_sub hl [1, 2, 3, 4, 0] rfl) hR hF
      · have hF := if_t c34 hF
        refine lv_aload_n hx hb (dk DX1_levelOf 23 rfl) rfl (lv_at hl 1 rfl) ?_
        refine gX1_49 C hR ob3 rf3_11 (dk DX1_levelOf 24 rfl) ?_
        refine gX1_80 C hR ob8 (dk DX1_levelOf 25 rfl) ?_
        refine lv_iconst (v := (-1 : Int32)) hx hb (dk DX1_levelOf 26 rfl) (by decide) ?_
        refine lv_icmp_ne (tgt := 59) hx hb (dk DX1_levelOf 27 rfl) (by decide) (fun c45 => ?_) (fun c45 => ?_)
        · have hF := if_f c45 hF
          exact J59 m0 _ _ ls (lv_sub hl [1, 2, 3, 4, 0] rfl) hR hF
        · have hF := if_t c45 hF
          refine lv_aload_n hx hb (dk DX1_levelOf 28 rfl) rfl (lv_at hl 1 rfl) ?_
          refine gX1_60 C hR ob3 rf3_13 (dk DX1_levelOf 29 rfl) ?_
          refine lv_iload hx hb (dk DX1_levelOf 30 rfl) (lv_at hl 0 rfl) ?_
          refine lv_iconst (v := (1 : Int32)) hx hb (dk DX1_levelOf 31 rfl) (by decide) ?_
          obtain ⟨hq37, hF⟩ := ckB_ex hF
          refine r_iast C hR ob14 hq37 (dk DX1_levelOf 32 rfl) (fun H locs hR => ?_)
          obtain ⟨mq36, emq36, hF⟩ := lt_ex hF
          have hR := Rp_at emq36 hR
          refine lv_goto (tgt := 140) hx hb (dk DX1_levelOf 33 rfl) (by decide) ?_
          exact J140 mq36 _ _ ls (lv_sub hl [1, 0] rfl) hR hF
    · have hF := if_f c21 hF
      refine lv_iconst (v := (0 : Int32)) hx hb (dk DX1_levelOf 15 rfl) (by decide) ?_
      cases hF
      exact r_iret C hrt hR (dk DX1_levelOf 16 rfl)
set_option maxHeartbeats 4000000 in
set_option maxRecDepth 100000 in
theorem C_Gr_outsOf (l : Launch) (hl0 : l.stackTraces = false) (G : GG) (a1 : Int32) (a2 : Int32) (m0 : Mem) (v : Int32) (m' : Mem) (hF : F_Gr_outsOf a1 a2 m0 = some (v, m')) : Ct l G mr0 N0 yX1_outsOf cX1_outsOf 4 (some .int) 1 [.ref (G.2.1 + 3), .int a1, .int a2] m0 (some (.int v)) m' := by
  refine Ct_of hl0 (by decide) (Nat.le_of_ble_eq_true rfl) ?_
  intro p e s mid args below meth c ls C hrt hl hR
  have hx := C.1.1
  have hb := C.1.2.1
  have hl : lv_has ls 4 [(0, .ref (G.2.1 + 3)), (1, .int a1), (2, .int a2)] := hl
  unfold F_Gr_outsOf at hF
  refine lv_iload_n hx hb (dk DX1_outsOf 0 rfl) rfl (lv_at hl 1 rfl) ?_
  refine lv_iconst (v := (4 : Int32)) hx hb (dk DX1_outsOf 1 rfl) (by decide) ?_
  refine lv_imul hx hb (dk DX1_outsOf 2 rfl) ?_
  refine lv_iload_n hx hb (dk DX1_outsOf 3 rfl) rfl (lv_at hl 2 rfl) ?_
  refine lv_iadd hx hb (dk DX1_outsOf 4 rfl) ?_
  refine lv_topi (fun xq1 exq1 => ?_)
  have hF := lt_at exq1 hF
  refine lv_istore_n (lv' := [(3, .int xq1), (0, .ref (G.2.1 + 3)), (1, .int a1), (2, .int a2)]) hx hb (dk DX1_outsOf 5 rfl) rfl hl (by decide) rfl (fun ls hl => ?_)
  refine lv_iload_n hx hb (dk DX1_outsOf 6 rfl) rfl (lv_at hl 0 rfl) ?_
  refine lv_if_lt (tgt := 16) hx hb (dk DX1_outsOf 7 rfl) (by decide) (fun c7 => ?_) (fun c7 => ?_)
  · have hF := if_t c7 hF
    refine lv_iconst (v := (0 : Int32)) hx hb (dk DX1_outsOf 11 rfl) (by decide) ?_
    refine lv_goto (tgt := 26) hx hb (dk DX1_outsOf 12 rfl) (by decide) ?_
    cases hF
    exact r_iret C hrt hR (dk DX1_outsOf 17 rfl)
  · have hF := if_f c7 hF
    refine lv_iload_n hx hb (dk DX1_outsOf 8 rfl) rfl (lv_at hl 0 rfl) ?_
    refine lv_bipush (v := (16 : Int32)) hx hb (dk DX1_outsOf 9 rfl) (by decide) ?_
    refine lv_icmp_lt (tgt := 20) hx hb (dk DX1_outsOf 10 rfl) (by decide) (fun c13 => ?_) (fun c13 => ?_)
    · have hF := if_t c13 hF
      refine lv_aload_n hx hb (dk DX1_outsOf 13 rfl) rfl (lv_at hl 1 rfl) ?_
      refine gX1_43 C hR ob3 rf3_10 (dk DX1_outsOf 14 rfl) ?_
      refine lv_iload_n hx hb (dk DX1_outsOf 15 rfl) rfl (lv_at hl 0 rfl) ?_
      obtain ⟨hq2, hF⟩ := ckB_ex hF
      refine r_iald C hR ob7 hq2 (dk DX1_outsOf 16 rfl) ?_
      refine lv_topi (fun xq3 exq3 => ?_)
      have hF := lt_at exq3 hF
      cases hF
      exact r_iret C hrt hR (dk DX1_outsOf 17 rfl)
    · have hF := if_f c13 hF
      refine lv_iconst (v := (0 : Int32)) hx hb (dk DX1_outsOf 11 rfl) (by decide) ?_
      refine lv_goto (tgt := 26) hx hb (dk DX1_outsOf 12 rfl) (by decide) ?_
      cases hF
      exact r_iret C hrt hR (dk DX1_outsOf 17 rfl)
set_option maxHeartbeats 4000000 in
set_option maxRecDepth 100000 in
theorem C_Gr_outsIn (l : Launch) (hl0 : l.stackTraces = false) (G : GG) (a1 : Int32) (a2 : Int32) (a3 : Int32) (m0 : Mem) (v : Int32) (m' : Mem) (hF : F_Gr_outsIn a1 a2 a3 m0 = some (v, m')) : Ct l G mr0 N0 yX1_outsIn cX1_outsIn 4 (some .int) 2 [.ref (G.2.1 + 3), .int a1, .int a2, .int a3] m0 (some (.int v)) m' := by
  refine Ct_of hl0 (by decide) (Nat.le_of_ble_eq_true rfl) ?_
  intro p e s mid args below meth c ls C hrt hl hR
  have hx := C.1.1
  have hb := C.1.2.1
  have hl : lv_has ls 4 [(0, .ref (G.2.1 + 3)), (1, .int a1), (2, .int a2), (3, .int a3)] := hl
  unfold F_Gr_outsIn at hF
  refine lv_aload_n hx hb (dk DX1_outsIn 0 rfl) rfl (lv_at hl 0 rfl) ?_
  refine gX1_21 C hR ob3 (dk DX1_outsIn 1 rfl) ?_
  refine lv_iload_n hx hb (dk DX1_outsIn 2 rfl) rfl (lv_at hl 1 rfl) ?_
  obtain ⟨xq3, mq1, hzq2, hF⟩ := bnd_ex hF
  refine r_callSNi (As := [.int (gI m0 3 3), .int a1]) (rest := []) C hR (C_T_bitOf l hl0 G (gI m0 3 3) a1 m0 _ _ hzq2) (by decide) (by decide) wX1_70 rfl rfl (Nat.le_of_ble_eq_true rfl) hl.1 ⟨Nat.zero_le _, Nat.zero_le _⟩ (dk DX1_outsIn 3 rfl) (fun H locs hR => ?_)
  refine lv_iconst (v := (1 : Int32)) hx hb (dk DX1_outsIn 4 rfl) (by decide) ?_
  refine lv_icmp_ne (tgt := 16) hx hb (dk DX1_outsIn 5 rfl) (by decide) (fun c9 => ?_) (fun c9 => ?_)
  · have hF := if_f c9 hF
    refine lv_aload_n hx hb (dk DX1_outsIn 8 rfl) rfl (lv_at hl 0 rfl) ?_
    refine lv_iload_n hx hb (dk DX1_outsIn 9 rfl) rfl (lv_at hl 2 rfl) ?_
    refine lv_iload_n hx hb (dk DX1_outsIn 10 rfl) rfl (lv_at hl 3 rfl) ?_
    obtain ⟨xq6, mq4, hzq5, hF⟩ := bnd_ex hF
    refine r_callVi (As := [.int a2, .int a3]) (rest := []) C hR (C_Gr_outsOf l hl0 G a2 a3 mq1 _ _ hzq5) (by decide) (by decide) ob3 rfl wX1_77 rfl rfl (Nat.le_of_ble_eq_true rfl) hl.1 ⟨Nat.zero_le _, Nat.zero_le _⟩ (dk DX1_outsIn 11 rfl) (fun H locs hR => ?_)
    cases hF
    exact r_iret C hrt hR (dk DX1_outsIn 12 rfl)
  · have hF := if_t c9 hF
    refine lv_iconst (v := (0 : Int32)) hx hb (dk DX1_outsIn 6 rfl) (by decide) ?_
    refine lv_goto (tgt := 22) hx hb (dk DX1_outsIn 7 rfl) (by decide) ?_
    cases hF
    exact r_iret C hrt hR (dk DX1_outsIn 12 rfl)
set_option maxHeartbeats 4000000 in
set_option maxRecDepth 100000 in
theorem C_Od_all (l : Launch) (hl0 : l.stackTraces = false) (G : GG) (a1 : Int32) (m0 : Mem) (v : Int64) (m' : Mem) (hF : F_Od_all a1 m0 = some (v, m')) : Ct l G mr0 N0 yX7_all cX7_all 3 (some .long) 1 [.ref (G.2.1 + 2), .int a1] m0 (some (.long v)) m' := by
  refine Ct_of hl0 (by decide) (Nat.le_of_ble_eq_true rfl) ?_
  intro p e s mid args below meth c ls C hrt hl hR
  have hx := C.1.1
  have hb := C.1.2.1
  have hl : lv_has ls 3 [(0, .ref (G.2.1 + 2)), (1, .int a1)] := hl
  unfold F_Od_all at hF
  refine lv_aload_n hx hb (dk DX7_all 0 rfl) rfl (lv_at hl 0 rfl) ?_
  refine gX7_14 C hR ob2 rf2_0 (dk DX7_all 1 rfl) ?_
  refine gX7_60 C hR ob3 (dk DX7_all 2 rfl) ?_
  refine lv_iload_n hx hb (dk DX7_all 3 rfl) rfl (lv_at hl 1 rfl) ?_
  refine lv_isub hx hb (dk DX7_all 4 rfl) ?_
  refine lv_topi (fun xq1 exq1 => ?_)
  have hF := lt_at exq1 hF
  refine lv_istore_n (lv' := [(2, .int xq1), (0, .ref (G.2.1 + 2)), (1, .int a1)]) hx hb (dk DX7_all 5 rfl) rfl hl (by decide) rfl (fun ls hl => ?_)
  refine lv_iload_n hx hb (dk DX7_all 6 rfl) rfl (lv_at hl 0 rfl) ?_
  refine lv_if_gt (tgt := 18) hx hb (dk DX7_all 7 rfl) (by decide) (fun c11 => ?_) (fun c11 => ?_)
  · have hF := if_t c11 hF
    refine lv_lconst (v := (1 : Int64)) hx hb (dk DX7_all 10 rfl) (by decide) ?_
    refine lv_iconst (v := (2 : Int32)) hx hb (dk DX7_all 11 rfl) (by decide) ?_
    refine lv_iload_n hx hb (dk DX7_all 12 rfl) rfl (lv_at hl 0 rfl) ?_
    refine lv_imul hx hb (dk DX7_all 13 rfl) ?_
    refine lv_lshl hx hb (dk DX7_all 14 rfl) rfl ?_
    refine lv_topl (fun yq2 eyq2 => ?_)
    have hF := lt_at eyq2 hF
    cases hF
    exact r_lret C hrt hR (dk DX7_all 15 rfl)
  · have hF := if_f c11 hF
    refine lv_lconst (v := (1 : Int64)) hx hb (dk DX7_all 8 rfl) (by decide) ?_
    refine lv_goto (tgt := 23) hx hb (dk DX7_all 9 rfl) (by decide) ?_
    cases hF
    exact r_lret C hrt hR (dk DX7_all 15 rfl)
set_option maxHeartbeats 4000000 in
set_option maxRecDepth 100000 in
theorem C_Od_allTo (l : Launch) (hl0 : l.stackTraces = false) (G : GG) (a1 : Bool) (a2 : Int32) (m0 : Mem) (v : Int64) (m' : Mem) (hF : F_Od_allTo a1 a2 m0 = some (v, m')) : Ct l G mr0 N0 yX7_allTo cX7_allTo 3 (some .long) 2 [.ref (G.2.1 + 2), .int (b2i a1), .int a2] m0 (some (.long v)) m' := by
  refine Ct_of hl0 (by decide) (Nat.le_of_ble_eq_true rfl) ?_
  intro p e s mid args below meth c ls C hrt hl hR
  have hx := C.1.1
  have hb := C.1.2.1
  have hl : lv_has ls 3 [(0, .ref (G.2.1 + 2)), (1, .int (b2i a1)), (2, .int a2)] := hl
  unfold F_Od_allTo at hF
  refine lv_iload_n hx hb (dk DX7_allTo 0 rfl) rfl (lv_at hl 1 rfl) ?_
  refine z_ifeq (tgt := 12) hx hb (dk DX7_allTo 1 rfl) (by decide) (fun c1 => ?_) (fun c1 => ?_)
  · have hF := if_f c1 hF
    refine lv_aload_n hx hb (dk DX7_allTo 6 rfl) rfl (lv_at hl 0 rfl) ?_
    refine lv_iload_n hx hb (dk DX7_allTo 7 rfl) rfl (lv_at hl 2 rfl) ?_
    obtain ⟨yq3, mq1, hzq2, hF⟩ := bnd_ex hF
    refine r_callVl (As := [.int a2]) (rest := []) C hR (C_Od_all l hl0 G a2 m0 _ _ hzq2) (by decide) (by decide) ob2 rfl wX7_63 rfl rfl (Nat.le_of_ble_eq_true rfl) hl.1 ⟨Nat.zero_le _, Nat.zero_le _⟩ (dk DX7_allTo 8 rfl) (fun H locs hR => ?_)
    refine lv_bipush (v := (20 : Int32)) hx hb (dk DX7_allTo 9 rfl) (by decide) ?_
    refine lv_lshl hx hb (dk DX7_allTo 10 rfl) rfl ?_
    cases hF
    exact r_lret C hrt hR (dk DX7_allTo 11 rfl)
  · have hF := if_t c1 hF
    refine lv_aload_n hx hb (dk DX7_allTo 2 rfl) rfl (lv_at hl 0 rfl) ?_
    refine lv_iload_n hx hb (dk DX7_allTo 3 rfl) rfl (lv_at hl 2 rfl) ?_
    obtain ⟨yq6, mq4, hzq5, hF⟩ := bnd_ex hF
    refine r_callVl (As := [.int a2]) (rest := []) C hR (C_Od_all l hl0 G a2 m0 _ _ hzq5) (by decide) (by decide) ob2 rfl wX7_63 rfl rfl (Nat.le_of_ble_eq_true rfl) hl.1 ⟨Nat.zero_le _, Nat.zero_le _⟩ (dk DX7_allTo 4 rfl) (fun H locs hR => ?_)
    refine lv_goto (tgt := 20) hx hb (dk DX7_allTo 5 rfl) (by decide) ?_
    cases hF
    exact r_lret C hrt hR (dk DX7_allTo 11 rfl)
set_option maxHeartbeats 4000000 in
set_option maxRecDepth 100000 in
theorem C_Od_waysOfNext (l : Launch) (hl0 : l.stackTraces = false) (G : GG) (D : Nat) (rc : Int32 → Int32 → Int32 → Int32 → Mem → Option (Int64 × Mem)) (hrc : ∀ (b0 : Int32) (b1 : Int32) (b2 : Int32) (b3 : Int32) (m0 : Mem) (v : Int64) (m' : Mem), rc b0 b1 b2 b3 m0 = some (v, m') → Ct l G mr0 N0 yX7_waysAt cX7_waysAt 8 (some .long) D [.ref (G.2.1 + 2), .int b0, .int b1, .int b2, .int b3] m0 (some (.long v)) m') (hD : 3 ≤ D) (a1 : Int32) (a2 : Int32) (a3 : Int32) (m0 : Mem) (v : Int64) (m' : Mem) (hF : F_Od_waysOfNext rc a1 a2 a3 m0 = some (v, m')) : Ct l G mr0 N0 yX7_waysOfNext cX7_waysOfNext 6 (some .long) (D + 1) [.ref (G.2.1 + 2), .int a1, .int a2, .int a3] m0 (some (.long v)) m' := by
  refine Ct_of hl0 (by decide) (Nat.le_of_ble_eq_true rfl) ?_
  intro p e s mid args below meth c ls C hrt hl hR
  have hx := C.1.1
  have hb := C.1.2.1
  have hl : lv_has ls 6 [(0, .ref (G.2.1 + 2)), (1, .int a1), (2, .int a2), (3, .int a3)] := hl
  unfold F_Od_waysOfNext at hF
  refine lv_iload_n hx hb (dk DX7_waysOfNext 0 rfl) rfl (lv_at hl 2 rfl) ?_
  refine lv_iconst (v := (1 : Int32)) hx hb (dk DX7_waysOfNext 1 rfl) (by decide) ?_
  refine lv_iadd hx hb (dk DX7_waysOfNext 2 rfl) ?_
  refine lv_topi (fun xq1 exq1 => ?_)
  have hF := lt_at exq1 hF
  refine lv_istore (lv' := [(4, .int xq1), (0, .ref (G.2.1 + 2)), (1, .int a1), (2, .int a2), (3, .int a3)]) hx hb (dk DX7_waysOfNext 3 rfl) hl (by decide) rfl (fun ls hl => ?_)
  refine lv_iload hx hb (dk DX7_waysOfNext 4 rfl) (lv_at hl 0 rfl) ?_
  obtain ⟨zq4, mq2, hzq3, hF⟩ := bnd_ex hF
  refine r_callSi (As := [.int xq1]) (rest := []) C hR (C_Od_firstBats l hl0 G xq1 m0 _ _ hzq3) (by omega) (by decide) wX7_88 rfl rfl (Nat.le_of_ble_eq_true rfl) hl.1 ⟨Nat.zero_le _, Nat.zero_le _⟩ (dk DX7_waysOfNext 5 rfl) (fun H locs hR => ?_)
  refine lv_istore (lv' := [(5, .int (b2i zq4)), (4, .int xq1), (0, .ref (G.2.1 + 2)), (1, .int a1), (2, .int a2), (3, .int a3)]) hx hb (dk DX7_waysOfNext 6 rfl) hl (by decide) rfl (fun ls hl => ?_)
  refine lv_iload hx hb (dk DX7_waysOfNext 7 rfl) (lv_at hl 1 rfl) ?_
  obtain ⟨xq7, mq5, hzq6, hF⟩ := bnd_ex hF
  refine r_callSi (As := [.int xq1]) (rest := []) C hR (C_Od_inningsOf l hl0 G xq1 mq2 _ _ hzq6) (by omega) (by decide) wX7_77 rfl rfl (Nat.le_of_ble_eq_true rfl) hl.1 ⟨Nat.zero_le _, Nat.zero_le _⟩ (dk DX7_waysOfNext 8 rfl) (fun H locs hR => ?_)
  refine lv_iconst (v := (3 : Int32)) hx hb (dk DX7_waysOfNext 9 rfl) (by decide) ?_
  obtain ⟨k45_8, ek45_8, hF⟩ := lt_ex hF
  have J45 : ∀ (mq8 : Mem) (H : Heap) (locs : List Loc) (ls : Array Slot), lv_has ls 6 [(0, .ref (G.2.1 + 2)), (1, .int a1), (3, .int a3), (4, .int xq1)] → Rp G mr0 N0 mq8 s H locs → k45_8  mq8 = some (v, m') → W p l e (rmD (D + 1)) s mid args below meth c H locs 0 0 (MQ below (QR G mr0 N0 (some (.long v)) m') args s 0 0 (fun q => G.2.1 ≤ q)) (F0 mid 45 ls []) := by
    intro  mq8 H locs ls hl hR hF
    rw [ek45_8] at hF
    refine lv_aload_n hx hb (dk DX7_waysOfNext 23 rfl) rfl (lv_at hl 0 rfl) ?_
    refine lv_iload_n hx hb (dk DX7_waysOfNext 24 rfl) rfl (lv_at hl 1 rfl) ?_
    refine lv_iload hx hb (dk DX7_waysOfNext 25 rfl) (lv_at hl 3 rfl) ?_
    refine lv_bipush (v := (10 : Int32)) hx hb (dk DX7_waysOfNext 26 rfl) (by decide) ?_
    refine lv_iload_n hx hb (dk DX7_waysOfNext 27 rfl) rfl (lv_at hl 2 rfl) ?_
    obtain ⟨yq11, mq9, hzq10, hF⟩ := bnd_ex hF
    refine r_callVl (As := [.int a1, .int xq1, .int (10 : Int32), .int a3]) (rest := []) C hR (hrc a1 xq1 (10 : Int32) a3 mq8 _ _ hzq10) (by omega) (by decide) ob2 rfl wX7_56 rfl rfl (Nat.le_of_ble_eq_true rfl) hl.1 ⟨Nat.zero_le _, Nat.zero_le _⟩ (dk DX7_waysOfNext 28 rfl) (fun H locs hR => ?_)
    cases hF
    exact r_lret C hrt hR (dk DX7_waysOfNext 29 rfl)
  refine lv_icmp_ne (tgt := 45) hx hb (dk DX7_waysOfNext 10 rfl) (by decide) (fun c18 => ?_) (fun c18 => ?_)
  · have hF := if_f c18 hF
    exact J45 mq5 _ _ ls (lv_sub hl [2, 3, 5, 1] rfl) hR hF
  · have hF := if_t c18 hF
    refine lv_iload hx hb (dk DX7_waysOfNext 11 rfl) (lv_at hl 0 rfl) ?_
    obtain ⟨k37_12, ek37_12, hF⟩ := lt_ex hF
    have J37 : ∀ (mq12 : Mem) (H : Heap) (locs : List Loc) (ls : Array Slot), lv_has ls 6 [(0, .ref (G.2.1 + 2)), (1, .int a1), (5, .int (b2i zq4))] → Rp G mr0 N0 mq12 s H locs → k37_12  mq12 = some (v, m') → W p l e (rmD (D + 1)) s mid args below meth c H locs 0 0 (MQ below (QR G mr0 N0 (some (.long v)) m') args s 0 0 (fun q => G.2.1 ≤ q)) (F0 mid 37 ls []) := by
      intro  mq12 H locs ls hl hR hF
      rw [ek37_12] at hF
      refine lv_aload_n hx hb (dk DX7_waysOfNext 18 rfl) rfl (lv_at hl 0 rfl) ?_
      refine lv_iload hx hb (dk DX7_waysOfNext 19 rfl) (lv_at hl 2 rfl) ?_
      refine lv_iload_n hx hb (dk DX7_waysOfNext 20 rfl) rfl (lv_at hl 1 rfl) ?_
      obtain ⟨yq15, mq13, hzq14, hF⟩ := bnd_ex hF
      refine r_callVl (As := [.int (b2i zq4), .int a1]) (rest := []) C hR (C_Od_allTo l hl0 G zq4 a1 mq12 _ _ hzq14) (by omega) (by decide) ob2 rfl wX7_148 rfl rfl (Nat.le_of_ble_eq_true rfl) hl.1 ⟨Nat.zero_le _, Nat.zero_le _⟩ (dk DX7_waysOfNext 21 rfl) (fun H locs hR => ?_)
      cases hF
      exact r_lret C hrt hR (dk DX7_waysOfNext 22 rfl)
    refine z_ifeq (tgt := 33) hx hb (dk DX7_waysOfNext 12 rfl) (by decide) (fun c23 => ?_) (fun c23 => ?_)
    · have hF := if_f c23 hF
      refine lv_iload_n hx hb (dk DX7_waysOfNext 16 rfl) rfl (lv_at hl 5 rfl) ?_
      refine lv_if_ge (tgt := 45) hx hb (dk DX7_waysOfNext 17 rfl) (by decide) (fun c34 => ?_) (fun c34 => ?_)
      · have hF := if_t c34 hF
        exact J45 mq5 _ _ ls (lv_sub hl [2, 3, 5, 1] rfl) hR hF
      · have hF := if_f c34 hF
        exact J37 mq5 _ _ ls (lv_sub hl [2, 3, 0] rfl) hR hF
    · have hF := if_t c23 hF
      refine lv_iload_n hx hb (dk DX7_waysOfNext 13 rfl) rfl (lv_at hl 5 rfl) ?_
      refine lv_if_le (tgt := 45) hx hb (dk DX7_waysOfNext 14 rfl) (by decide) (fun c27 => ?_) (fun c27 => ?_)
      · have hF := if_t c27 hF
        exact J45 mq5 _ _ ls (lv_sub hl [2, 3, 5, 1] rfl) hR hF
      · have hF := if_f c27 hF
        refine lv_goto (tgt := 37) hx hb (dk DX7_waysOfNext 15 rfl) (by decide) ?_
        exact J37 mq5 _ _ ls (lv_sub hl [2, 3, 0] rfl) hR hF
set_option maxHeartbeats 4000000 in
set_option maxRecDepth 100000 in
theorem C_Od_waysBehind (l : Launch) (hl0 : l.stackTraces = false) (G : GG) (D : Nat) (rc : Int32 → Int32 → Int32 → Int32 → Mem → Option (Int64 × Mem)) (hrc : ∀ (b0 : Int32) (b1 : Int32) (b2 : Int32) (b3 : Int32) (m0 : Mem) (v : Int64) (m' : Mem), rc b0 b1 b2 b3 m0 = some (v, m') → Ct l G mr0 N0 yX7_waysAt cX7_waysAt 8 (some .long) D [.ref (G.2.1 + 2), .int b0, .int b1, .int b2, .int b3] m0 (some (.long v)) m') (hD : 3 ≤ D) (a1 : Int32) (a2 : Int32) (a3 : Int32) (a4 : Int32) (m0 : Mem) (v : Int64) (m' : Mem) (hF : F_Od_waysBehind rc a1 a2 a3 a4 m0 = some (v, m')) : Ct l G mr0 N0 yX7_waysBehind cX7_waysBehind 7 (some .long) (D + 2) [.ref (G.2.1 + 2), .int a1, .int a2, .int a3, .int a4] m0 (some (.long v)) m' := by
  refine Ct_of hl0 (by decide) (Nat.le_of_ble_eq_true rfl) ?_
  intro p e s mid args below meth c ls C hrt hl hR
  have hx := C.1.1
  have hb := C.1.2.1
  have hl : lv_has ls 7 [(0, .ref (G.2.1 + 2)), (1, .int a1), (2, .int a2), (3, .int a3), (4, .int a4)] := hl
  unfold F_Od_waysBehind at hF
  refine lv_iload_n hx hb (dk DX7_waysBehind 0 rfl) rfl (lv_at hl 2 rfl) ?_
  obtain ⟨xq3, mq1, hzq2, hF⟩ := bnd_ex hF
  refine r_callSi (As := [.int a2]) (rest := []) C hR (C_Od_inningsOf l hl0 G a2 m0 _ _ hzq2) (by omega) (by decide) wX7_77 rfl rfl (Nat.le_of_ble_eq_true rfl) hl.1 ⟨Nat.zero_le _, Nat.zero_le _⟩ (dk DX7_waysBehind 1 rfl) (fun H locs hR => ?_)
  refine lv_iconst (v := (3 : Int32)) hx hb (dk DX7_waysBehind 2 rfl) (by decide) ?_
  refine lv_icmp_eq (tgt := 35) hx hb (dk DX7_waysBehind 3 rfl) (by decide) (fun c5 => ?_) (fun c5 => ?_)
  · have hF := if_t c5 hF
    refine lv_iload_n hx hb (dk DX7_waysBehind 20 rfl) rfl (lv_at hl 2 rfl) ?_
    obtain ⟨zq6, mq4, hzq5, hF⟩ := bnd_ex hF
    refine r_callSi (As := [.int a2]) (rest := []) C hR (C_Od_firstBats l hl0 G a2 mq1 _ _ hzq5) (by omega) (by decide) wX7_88 rfl rfl (Nat.le_of_ble_eq_true rfl) hl.1 ⟨Nat.zero_le _, Nat.zero_le _⟩ (dk DX7_waysBehind 21 rfl) (fun H locs hR => ?_)
    refine lv_istore (lv' := [(5, .int (b2i zq6)), (0, .ref (G.2.1 + 2)), (1, .int a1), (2, .int a2), (3, .int a3), (4, .int a4)]) hx hb (dk DX7_waysBehind 22 rfl) hl (by decide) rfl (fun ls hl => ?_)
    refine lv_iload hx hb (dk DX7_waysBehind 23 rfl) (lv_at hl 0 rfl) ?_
    obtain ⟨k54_8, ek54_8, hF⟩ := lt_ex hF
    have J54 : ∀ (xq8 : Int32) (mq7 : Mem) (H : Heap) (locs : List Loc) (ls : Array Slot), lv_has ls 7 [(0, .ref (G.2.1 + 2)), (1, .int a1), (2, .int a2), (3, .int a3), (4, .int a4), (5, .int (b2i zq6))] → Rp G mr0 N0 mq7 s H locs → k54_8 xq8 mq7 = some (v, m') → W p l e (rmD (D + 2)) s mid args below meth c H locs 0 0 (MQ below (QR G mr0 N0 (some (.long v)) m') args s 0 0 (fun q => G.2.1 ≤ q)) (F0 mid 54 ls [.int xq8]) := by
      intro xq8 mq7 H locs ls hl hR hF
      rw [ek54_8] at hF
      refine lv_istore (lv' := [(6, .int xq8), (0, .ref (G.2.1 + 2)), (1, .int a1), (2, .int a2), (3, .int a3), (4, .int a4), (5, .int (b2i zq6))]) hx hb (dk DX7_waysBehind 29 rfl) hl (by decide) rfl (fun ls hl => ?_)
      refine lv_iload hx hb (dk DX7_waysBehind 30 rfl) (lv_at hl 0 rfl) ?_
      refine lv_if_le (tgt := 69) hx hb (dk DX7_waysBehind 31 rfl) (by decide) (fun c58 => ?_) (fun c58 => ?_)
      · have hF := if_t c58 hF
        refine lv_iload_n hx hb (dk DX7_waysBehind 37 rfl) rfl (lv_at hl 4 rfl) ?_
        refine lv_bipush (v := (10 : Int32)) hx hb (dk DX7_waysBehind 38 rfl) (by decide) ?_
        refine lv_icmp_ne (tgt := 100) hx hb (dk DX7_waysBehind 39 rfl) (by decide) (fun c72 => ?_) (fun c72 => ?_)
        · have hF := if_f c72 hF
          refine lv_aload_n hx hb (dk DX7_waysBehind 53 rfl) rfl (lv_at hl 1 rfl) ?_
          refine lv_iload_n hx hb (dk DX7_waysBehind 54 rfl) rfl (lv_at hl 2 rfl) ?_
          refine lv_iload_n hx hb (dk DX7_waysBehind 55 rfl) rfl (lv_at hl 3 rfl) ?_
          refine lv_iload_n hx hb (dk DX7_waysBehind 56 rfl) rfl (lv_at hl 4 rfl) ?_
          refine lv_iload hx hb (dk DX7_waysBehind 57 rfl) (lv_at hl 5 rfl) ?_
          obtain ⟨yq11, mq9, hzq10, hF⟩ := bnd_ex hF
          refine r_callVl (As := [.int a1, .int a2, .int a3, .int a4]) (rest := []) C hR (hrc a1 a2 a3 a4 mq7 _ _ hzq10) (by omega) (by decide) ob2 rfl wX7_56 rfl rfl (Nat.le_of_ble_eq_true rfl) hl.1 ⟨Nat.zero_le _, Nat.zero_le _⟩ (dk DX7_waysBehind 58 rfl) (fun H locs hR => ?_)
          cases hF
          exact r_lret C hrt hR (dk DX7_waysBehind 59 rfl)
        · have hF := if_t c72 hF
          refine lv_iload hx hb (dk DX7_waysBehind 40 rfl) (lv_at hl 0 rfl) ?_
          refine lv_if_ne (tgt := 84) hx hb (dk DX7_waysBehind 41 rfl) (by decide) (fun c77 => ?_) (fun c77 => ?_)
          · have hF := if_f c77 hF
            refine lv_aload_n hx hb (dk DX7_waysBehind 44 rfl) rfl (lv_at hl 1 rfl) ?_
            refine lv_iload hx hb (dk DX7_waysBehind 45 rfl) (lv_at hl 6 rfl) ?_
            obtain ⟨k95_13, ek95_13, hF⟩ := lt_ex hF
            have J95 : ∀ (zq13 : Bool) (mq12 : Mem) (H : Heap) (locs : List Loc) (ls : Array Slot), lv_has ls 7 [(1, .int a1)] → Rp G mr0 N0 mq12 s H locs → k95_13 zq13 mq12 = some (v, m') → W p l e (rmD (D + 2)) s mid args below meth c H locs 0 0 (MQ below (QR G mr0 N0 (some (.long v)) m') args s 0 0 (fun q => G.2.1 ≤ q)) (F0 mid 95 ls [.int (b2i zq13), .ref (G.2.1 + 2)]) := by
              intro zq13 mq12 H locs ls hl hR hF
              rw [ek95_13] at hF
              refine lv_iload_n hx hb (dk DX7_waysBehind 50 rfl) rfl (lv_at hl 0 rfl) ?_
              obtain ⟨yq16, mq14, hzq15, hF⟩ := bnd_ex hF
              refine r_callVl (As := [.int (b2i zq13), .int a1]) (rest := []) C hR (C_Od_allTo l hl0 G zq13 a1 mq12 _ _ hzq15) (by omega) (by decide) ob2 rfl wX7_148 rfl rfl (Nat.le_of_ble_eq_true rfl) hl.1 ⟨Nat.zero_le _, Nat.zero_le _⟩ (dk DX7_waysBehind 51 rfl) (fun H locs hR => ?_)
              cases hF
              exact r_lret C hrt hR (dk DX7_waysBehind 52 rfl)
            refine z_ifne (tgt := 94) hx hb (dk DX7_waysBehind 46 rfl) (by decide) (fun c87 => ?_) (fun c87 => ?_)
            · have hF := if_t c87 hF
              refine lv_iconst (v := (0 : Int32)) hx hb (dk DX7_waysBehind 49 rfl) (by decide) ?_
              exact J95 false mq7 _ _ ls (lv_sub hl [2] rfl) hR hF
            · have hF := if_f c87 hF
              refine lv_iconst (v := (1 : Int32)) hx hb (dk DX7_waysBehind 47 rfl) (by decide) ?_
              refine lv_goto (tgt := 95) hx hb (dk DX7_waysBehind 48 rfl) (by decide) ?_
              exact J95 true mq7 _ _ ls (lv_sub hl [2] rfl) hR hF
          · have hF := if_t c77 hF
            refine lv_lconst (v := (0 : Int64)) hx hb (dk DX7_waysBehind 42 rfl) (by decide) ?_
            refine lv_goto (tgt := 99) hx hb (dk DX7_waysBehind 43 rfl) (by decide) ?_
            cases hF
            exact r_lret C hrt hR (dk DX7_waysBehind 52 rfl)
      · have hF := if_f c58 hF
        refine lv_aload_n hx hb (dk DX7_waysBehind 32 rfl) rfl (lv_at hl 1 rfl) ?_
        refine lv_iload hx hb (dk DX7_waysBehind 33 rfl) (lv_at hl 6 rfl) ?_
        refine lv_iload_n hx hb (dk DX7_waysBehind 34 rfl) rfl (lv_at hl 2 rfl) ?_
        obtain ⟨yq19, mq17, hzq18, hF⟩ := bnd_ex hF
        refine r_callVl (As := [.int (b2i zq6), .int a1]) (rest := []) C hR (C_Od_allTo l hl0 G zq6 a1 mq7 _ _ hzq18) (by omega) (by decide) ob2 rfl wX7_148 rfl rfl (Nat.le_of_ble_eq_true rfl) hl.1 ⟨Nat.zero_le _, Nat.zero_le _⟩ (dk DX7_waysBehind 35 rfl) (fun H locs hR => ?_)
        cases hF
        exact r_lret C hrt hR (dk DX7_waysBehind 36 rfl)
    refine z_ifeq (tgt := 51) hx hb (dk DX7_waysBehind 24 rfl) (by decide) (fun c43 => ?_) (fun c43 => ?_)
    · have hF := if_f c43 hF
      refine lv_iload hx hb (dk DX7_waysBehind 27 rfl) (lv_at hl 5 rfl) ?_
      refine lv_ineg hx hb (dk DX7_waysBehind 28 rfl) ?_
      exact J54 (-a4) mq4 _ _ ls (lv_sub hl [1, 2, 3, 4, 5, 0] rfl) hR hF
    · have hF := if_t c43 hF
      refine lv_iload hx hb (dk DX7_waysBehind 25 rfl) (lv_at hl 5 rfl) ?_
      refine lv_goto (tgt := 54) hx hb (dk DX7_waysBehind 26 rfl) (by decide) ?_
      exact J54 a4 mq4 _ _ ls (lv_sub hl [1, 2, 3, 4, 5, 0] rfl) hR hF
  · have hF := if_f c5 hF
    refine lv_iload_n hx hb (dk DX7_waysBehind 4 rfl) rfl (lv_at hl 3 rfl) ?_
    refine lv_bipush (v := (10 : Int32)) hx hb (dk DX7_waysBehind 5 rfl) (by decide) ?_
    refine lv_icmp_ne (tgt := 25) hx hb (dk DX7_waysBehind 6 rfl) (by decide) (fun c11 => ?_) (fun c11 => ?_)
    · have hF := if_f c11 hF
      refine lv_aload_n hx hb (dk DX7_waysBehind 13 rfl) rfl (lv_at hl 0 rfl) ?_
      refine lv_iload_n hx hb (dk DX7_waysBehind 14 rfl) rfl (lv_at hl 1 rfl) ?_
      refine lv_iload_n hx hb (dk DX7_waysBehind 15 rfl) rfl (lv_at hl 2 rfl) ?_
      refine lv_iload_n hx hb (dk DX7_waysBehind 16 rfl) rfl (lv_at hl 3 rfl) ?_
      refine lv_iload hx hb (dk DX7_waysBehind 17 rfl) (lv_at hl 4 rfl) ?_
      obtain ⟨yq22, mq20, hzq21, hF⟩ := bnd_ex hF
      refine r_callVl (As := [.int a1, .int a2, .int a3, .int a4]) (rest := []) C hR (hrc a1 a2 a3 a4 mq1 _ _ hzq21) (by omega) (by decide) ob2 rfl wX7_56 rfl rfl (Nat.le_of_ble_eq_true rfl) hl.1 ⟨Nat.zero_le _, Nat.zero_le _⟩ (dk DX7_waysBehind 18 rfl) (fun H locs hR => ?_)
      cases hF
      exact r_lret C hrt hR (dk DX7_waysBehind 19 rfl)
    · have hF := if_t c11 hF
      refine lv_aload_n hx hb (dk DX7_waysBehind 7 rfl) rfl (lv_at hl 0 rfl) ?_
      refine lv_iload_n hx hb (dk DX7_waysBehind 8 rfl) rfl (lv_at hl 1 rfl) ?_
      refine lv_iload_n hx hb (dk DX7_waysBehind 9 rfl) rfl (lv_at hl 2 rfl) ?_
      refine lv_iload hx hb (dk DX7_waysBehind 10 rfl) (lv_at hl 4 rfl) ?_
      obtain ⟨yq25, mq23, hzq24, hF⟩ := bnd_ex hF
      refine r_callVl (As := [.int a1, .int a2, .int a4]) (rest := []) C hR (C_Od_waysOfNext l hl0 G D rc hrc (by omega) a1 a2 a4 mq1 _ _ hzq24) (by omega) (by decide) ob2 rfl wX7_123 rfl rfl (Nat.le_of_ble_eq_true rfl) hl.1 ⟨Nat.zero_le _, Nat.zero_le _⟩ (dk DX7_waysBehind 11 rfl) (fun H locs hR => ?_)
      refine lv_goto (tgt := 34) hx hb (dk DX7_waysBehind 12 rfl) (by decide) ?_
      cases hF
      exact r_lret C hrt hR (dk DX7_waysBehind 19 rfl)
set_option maxHeartbeats 4000000 in
set_option maxRecDepth 100000 in
theorem C_Gr_runsOf (l : Launch) (hl0 : l.stackTraces = false) (G : GG) (a1 : Int32) (a2 : Int32) (m0 : Mem) (v : Int32) (m' : Mem) (hF : F_Gr_runsOf a1 a2 m0 = some (v, m')) : Ct l G mr0 N0 yX1_runsOf cX1_runsOf 4 (some .int) 1 [.ref (G.2.1 + 3), .int a1, .int a2] m0 (some (.int v)) m' := by
  refine Ct_of hl0 (by decide) (Nat.le_of_ble_eq_true rfl) ?_
  intro p e s mid args below meth c ls C hrt hl hR
  have hx := C.1.1
  have hb := C.1.2.1
  have hl : lv_has ls 4 [(0, .ref (G.2.1 + 3)), (1, .int a1), (2, .int a2)] := hl
  unfold F_Gr_runsOf at hF
  refine lv_iload_n hx hb (dk DX1_runsOf 0 rfl) rfl (lv_at hl 1 rfl) ?_
  refine lv_iconst (v := (4 : Int32)) hx hb (dk DX1_runsOf 1 rfl) (by decide) ?_
  refine lv_imul hx hb (dk DX1_runsOf 2 rfl) ?_
  refine lv_iload_n hx hb (dk DX1_runsOf 3 rfl) rfl (lv_at hl 2 rfl) ?_
  refine lv_iadd hx hb (dk DX1_runsOf 4 rfl) ?_
  refine lv_topi (fun xq1 exq1 => ?_)
  have hF := lt_at exq1 hF
  refine lv_istore_n (lv' := [(3, .int xq1), (0, .ref (G.2.1 + 3)), (1, .int a1), (2, .int a2)]) hx hb (dk DX1_runsOf 5 rfl) rfl hl (by decide) rfl (fun ls hl => ?_)
  refine lv_iload_n hx hb (dk DX1_runsOf 6 rfl) rfl (lv_at hl 0 rfl) ?_
  refine lv_if_lt (tgt := 16) hx hb (dk DX1_runsOf 7 rfl) (by decide) (fun c7 => ?_) (fun c7 => ?_)
  · have hF := if_t c7 hF
    refine lv_iconst (v := (0 : Int32)) hx hb (dk DX1_runsOf 11 rfl) (by decide) ?_
    refine lv_goto (tgt := 26) hx hb (dk DX1_runsOf 12 rfl) (by decide) ?_
    cases hF
    exact r_iret C hrt hR (dk DX1_runsOf 17 rfl)
  · have hF := if_f c7 hF
    refine lv_iload_n hx hb (dk DX1_runsOf 8 rfl) rfl (lv_at hl 0 rfl) ?_
    refine lv_bipush (v := (16 : Int32)) hx hb (dk DX1_runsOf 9 rfl) (by decide) ?_
    refine lv_icmp_lt (tgt := 20) hx hb (dk DX1_runsOf 10 rfl) (by decide) (fun c13 => ?_) (fun c13 => ?_)
    · have hF := if_t c13 hF
      refine lv_aload_n hx hb (dk DX1_runsOf 13 rfl) rfl (lv_at hl 1 rfl) ?_
      refine gX1_40 C hR ob3 rf3_9 (dk DX1_runsOf 14 rfl) ?_
      refine lv_iload_n hx hb (dk DX1_runsOf 15 rfl) rfl (lv_at hl 0 rfl) ?_
      obtain ⟨hq2, hF⟩ := ckB_ex hF
      refine r_iald C hR ob6 hq2 (dk DX1_runsOf 16 rfl) ?_
      refine lv_topi (fun xq3 exq3 => ?_)
      have hF := lt_at exq3 hF
      cases hF
      exact r_iret C hrt hR (dk DX1_runsOf 17 rfl)
    · have hF := if_f c13 hF
      refine lv_iconst (v := (0 : Int32)) hx hb (dk DX1_runsOf 11 rfl) (by decide) ?_
      refine lv_goto (tgt := 26) hx hb (dk DX1_runsOf 12 rfl) (by decide) ?_
      cases hF
      exact r_iret C hrt hR (dk DX1_runsOf 17 rfl)
set_option maxHeartbeats 4000000 in
set_option maxRecDepth 100000 in
theorem C_Gr_runsIn (l : Launch) (hl0 : l.stackTraces = false) (G : GG) (a1 : Int32) (a2 : Int32) (a3 : Int32) (m0 : Mem) (v : Int32) (m' : Mem) (hF : F_Gr_runsIn a1 a2 a3 m0 = some (v, m')) : Ct l G mr0 N0 yX1_runsIn cX1_runsIn 4 (some .int) 2 [.ref (G.2.1 + 3), .int a1, .int a2, .int a3] m0 (some (.int v)) m' := by
  refine Ct_of hl0 (by decide) (Nat.le_of_ble_eq_true rfl) ?_
  intro p e s mid args below meth c ls C hrt hl hR
  have hx := C.1.1
  have hb := C.1.2.1
  have hl : lv_has ls 4 [(0, .ref (G.2.1 + 3)), (1, .int a1), (2, .int a2), (3, .int a3)] := hl
  unfold F_Gr_runsIn at hF
  refine lv_aload_n hx hb (dk DX1_runsIn 0 rfl) rfl (lv_at hl 0 rfl) ?_
  refine gX1_21 C hR ob3 (dk DX1_runsIn 1 rfl) ?_
  refine lv_iload_n hx hb (dk DX1_runsIn 2 rfl) rfl (lv_at hl 1 rfl) ?_
  obtain ⟨xq3, mq1, hzq2, hF⟩ := bnd_ex hF
  refine r_callSNi (As := [.int (gI m0 3 3), .int a1]) (rest := []) C hR (C_T_bitOf l hl0 G (gI m0 3 3) a1 m0 _ _ hzq2) (by decide) (by decide) wX1_70 rfl rfl (Nat.le_of_ble_eq_true rfl) hl.1 ⟨Nat.zero_le _, Nat.zero_le _⟩ (dk DX1_runsIn 3 rfl) (fun H locs hR => ?_)
  refine lv_iconst (v := (1 : Int32)) hx hb (dk DX1_runsIn 4 rfl) (by decide) ?_
  refine lv_icmp_ne (tgt := 16) hx hb (dk DX1_runsIn 5 rfl) (by decide) (fun c9 => ?_) (fun c9 => ?_)
  · have hF := if_f c9 hF
    refine lv_aload_n hx hb (dk DX1_runsIn 8 rfl) rfl (lv_at hl 0 rfl) ?_
    refine lv_iload_n hx hb (dk DX1_runsIn 9 rfl) rfl (lv_at hl 2 rfl) ?_
    refine lv_iload_n hx hb (dk DX1_runsIn 10 rfl) rfl (lv_at hl 3 rfl) ?_
    obtain ⟨xq6, mq4, hzq5, hF⟩ := bnd_ex hF
    refine r_callVi (As := [.int a2, .int a3]) (rest := []) C hR (C_Gr_runsOf l hl0 G a2 a3 mq1 _ _ hzq5) (by decide) (by decide) ob3 rfl wX1_74 rfl rfl (Nat.le_of_ble_eq_true rfl) hl.1 ⟨Nat.zero_le _, Nat.zero_le _⟩ (dk DX1_runsIn 11 rfl) (fun H locs hR => ?_)
    cases hF
    exact r_iret C hrt hR (dk DX1_runsIn 12 rfl)
  · have hF := if_t c9 hF
    refine lv_iconst (v := (0 : Int32)) hx hb (dk DX1_runsIn 6 rfl) (by decide) ?_
    refine lv_goto (tgt := 22) hx hb (dk DX1_runsIn 7 rfl) (by decide) ?_
    cases hF
    exact r_iret C hrt hR (dk DX1_runsIn 12 rfl)
set_option maxHeartbeats 4000000 in
set_option maxRecDepth 100000 in
theorem C_Od_waysOfSlot (l : Launch) (hl0 : l.stackTraces = false) (G : GG) (D : Nat) (rc : Int32 → Int32 → Int32 → Int32 → Mem → Option (Int64 × Mem)) (hrc : ∀ (b0 : Int32) (b1 : Int32) (b2 : Int32) (b3 : Int32) (m0 : Mem) (v : Int64) (m' : Mem), rc b0 b1 b2 b3 m0 = some (v, m') → Ct l G mr0 N0 yX7_waysAt cX7_waysAt 8 (some .long) D [.ref (G.2.1 + 2), .int b0, .int b1, .int b2, .int b3] m0 (some (.long v)) m') (hD : 4 ≤ D) (a1 : Int32) (a2 : Int32) (a3 : Int32) (a4 : Int32) (a5 : Int32) (a6 : Bool) (m0 : Mem) (v : Int64) (m' : Mem) (hF : F_Od_waysOfSlot rc a1 a2 a3 a4 a5 a6 m0 = some (v, m')) : Ct l G mr0 N0 yX7_waysOfSlot cX7_waysOfSlot 11 (some .long) (D + 3) [.ref (G.2.1 + 2), .int a1, .int a2, .int a3, .int a4, .int a5, .int (b2i a6)] m0 (some (.long v)) m' := by
  refine Ct_of hl0 (by decide) (Nat.le_of_ble_eq_true rfl) ?_
  intro p e s mid args below meth c ls C hrt hl hR
  have hx := C.1.1
  have hb := C.1.2.1
  have hl : lv_has ls 11 [(0, .ref (G.2.1 + 2)), (1, .int a1), (2, .int a2), (3, .int a3), (4, .int a4), (5, .int a5), (6, .int (b2i a6))] := hl
  unfold F_Od_waysOfSlot at hF
  refine lv_iload_n hx hb (dk DX7_waysOfSlot 0 rfl) rfl (lv_at hl 2 rfl) ?_
  obtain ⟨zq3, mq1, hzq2, hF⟩ := bnd_ex hF
  refine r_callSi (As := [.int a2]) (rest := []) C hR (C_Od_firstBats l hl0 G a2 m0 _ _ hzq2) (by omega) (by decide) wX7_88 rfl rfl (Nat.le_of_ble_eq_true rfl) hl.1 ⟨Nat.zero_le _, Nat.zero_le _⟩ (dk DX7_waysOfSlot 1 rfl) (fun H locs hR => ?_)
  refine lv_istore (lv' := [(7, .int (b2i zq3)), (0, .ref (G.2.1 + 2)), (1, .int a1), (2, .int a2), (3, .int a3), (4, .int a4), (5, .int a5), (6, .int (b2i a6))]) hx hb (dk DX7_waysOfSlot 2 rfl) hl (by decide) rfl (fun ls hl => ?_)
  refine lv_aload_n hx hb (dk DX7_waysOfSlot 3 rfl) rfl (lv_at hl 1 rfl) ?_
  refine gX7_14 C hR ob2 rf2_0 (dk DX7_waysOfSlot 4 rfl) ?_
  refine lv_iload_n hx hb (dk DX7_waysOfSlot 5 rfl) rfl (lv_at hl 2 rfl) ?_
  refine lv_iload_n hx hb (dk DX7_waysOfSlot 6 rfl) rfl (lv_at hl 3 rfl) ?_
  obtain ⟨xq6, mq4, hzq5, hF⟩ := bnd_ex hF
  refine r_callSi (As := [.int a2]) (rest := [.int a1, .ref (G.2.1 + 3)]) C hR (C_Od_inningsOf l hl0 G a2 mq1 _ _ hzq5) (by omega) (by decide) wX7_77 rfl rfl (Nat.le_of_ble_eq_true rfl) hl.1 ⟨Nat.zero_le _, Nat.zero_le _⟩ (dk DX7_waysOfSlot 7 rfl) (fun H locs hR => ?_)
  refine lv_iload hx hb (dk DX7_waysOfSlot 8 rfl) (lv_at hl 0 rfl) ?_
  obtain ⟨k33_8, ek33_8, hF⟩ := lt_ex hF
  have J33 : ∀ (xq8 : Int32) (mq7 : Mem) (H : Heap) (locs : List Loc) (ls : Array Slot), lv_has ls 11 [(0, .ref (G.2.1 + 2)), (1, .int a1), (2, .int a2), (3, .int a3), (4, .int a4), (5, .int a5), (6, .int (b2i a6)), (7, .int (b2i zq3))] → Rp G mr0 N0 mq7 s H locs → k33_8 xq8 mq7 = some (v, m') → W p l e (rmD (D + 3)) s mid args below meth c H locs 0 0 (MQ below (QR G mr0 N0 (some (.long v)) m') args s 0 0 (fun q => G.2.1 ≤ q)) (F0 mid 33 ls [.int xq8, .int xq6, .int a1, .ref (G.2.1 + 3)]) := by
    intro xq8 mq7 H locs ls hl hR hF
    rw [ek33_8] at hF
    obtain ⟨xq11, mq9, hzq10, hF⟩ := bnd_ex hF
    refine r_callVi (As := [.int a1, .int xq6, .int xq8]) (rest := []) C hR (C_Gr_levelOf l hl0 G a1 xq6 xq8 mq7 _ _ hzq10) (by omega) (by decide) ob3 rfl wX7_127 rfl rfl (Nat.le_of_ble_eq_true rfl) hl.1 ⟨Nat.zero_le _, Nat.zero_le _⟩ (dk DX7_waysOfSlot 17 rfl) (fun H locs hR => ?_)
    refine lv_istore (lv' := [(8, .int xq11), (0, .ref (G.2.1 + 2)), (1, .int a1), (2, .int a2), (3, .int a3), (4, .int a4), (5, .int a5), (6, .int (b2i a6)), (7, .int (b2i zq3))]) hx hb (dk DX7_waysOfSlot 18 rfl) hl (by decide) rfl (fun ls hl => ?_)
    refine lv_iload hx hb (dk DX7_waysOfSlot 19 rfl) (lv_at hl 7 rfl) ?_
    obtain ⟨k59_13, ek59_13, hF⟩ := lt_ex hF
    have J59 : ∀ (xq13 : Int32) (mq12 : Mem) (H : Heap) (locs : List Loc) (ls : Array Slot), lv_has ls 11 [(0, .ref (G.2.1 + 2)), (1, .int a1), (2, .int a2), (3, .int a3), (4, .int a4), (5, .int a5), (6, .int (b2i a6)), (7, .int (b2i zq3)), (8, .int xq11)] → Rp G mr0 N0 mq12 s H locs → k59_13 xq13 mq12 = some (v, m') → W p l e (rmD (D + 3)) s mid args below meth c H locs 0 0 (MQ below (QR G mr0 N0 (some (.long v)) m') args s 0 0 (fun q => G.2.1 ≤ q)) (F0 mid 59 ls [.int xq13]) := by
      intro xq13 mq12 H locs ls hl hR hF
      rw [ek59_13] at hF
      refine lv_istore (lv' := [(9, .int xq13), (0, .ref (G.2.1 + 2)), (1, .int a1), (2, .int a2), (3, .int a3), (4, .int a4), (5, .int a5), (6, .int (b2i a6)), (7, .int (b2i zq3)), (8, .int xq11)]) hx hb (dk DX7_waysOfSlot 29 rfl) hl (by decide) rfl (fun ls hl => ?_)
      refine lv_aload_n hx hb (dk DX7_waysOfSlot 30 rfl) rfl (lv_at hl 1 rfl) ?_
      refine gX7_14 C hR ob2 rf2_0 (dk DX7_waysOfSlot 31 rfl) ?_
      refine lv_iload_n hx hb (dk DX7_waysOfSlot 32 rfl) rfl (lv_at hl 2 rfl) ?_
      refine lv_iload hx hb (dk DX7_waysOfSlot 33 rfl) (lv_at hl 9 rfl) ?_
      refine lv_iload hx hb (dk DX7_waysOfSlot 34 rfl) (lv_at hl 6 rfl) ?_
      obtain ⟨xq16, mq14, hzq15, hF⟩ := bnd_ex hF
      refine r_callVi (As := [.int a1, .int xq11, .int a5]) (rest := []) C hR (C_Gr_outsIn l hl0 G a1 xq11 a5 mq12 _ _ hzq15) (by omega) (by decide) ob3 rfl wX7_133 rfl rfl (Nat.le_of_ble_eq_true rfl) hl.1 ⟨Nat.zero_le _, Nat.zero_le _⟩ (dk DX7_waysOfSlot 35 rfl) (fun H locs hR => ?_)
      refine lv_istore (lv' := [(10, .int xq16), (9, .int xq13), (0, .ref (G.2.1 + 2)), (1, .int a1), (2, .int a2), (3, .int a3), (4, .int a4), (5, .int a5), (6, .int (b2i a6)), (7, .int (b2i zq3)), (8, .int xq11)]) hx hb (dk DX7_waysOfSlot 36 rfl) hl (by decide) rfl (fun ls hl => ?_)
      refine lv_iload hx hb (dk DX7_waysOfSlot 37 rfl) (lv_at hl 8 rfl) ?_
      obtain ⟨k90_18, ek90_18, hF⟩ := lt_ex hF
      have J90 : ∀ (xq18 : Int32) (mq17 : Mem) (H : Heap) (locs : List Loc) (ls : Array Slot), lv_has ls 11 [(0, .ref (G.2.1 + 2)), (1, .int a1), (2, .int a2), (3, .int a3), (4, .int a4), (7, .int (b2i zq3)), (9, .int xq13), (10, .int xq18)] → Rp G mr0 N0 mq17 s H locs → k90_18 xq18 mq17 = some (v, m') → W p l e (rmD (D + 3)) s mid args below meth c H locs 0 0 (MQ below (QR G mr0 N0 (some (.long v)) m') args s 0 0 (fun q => G.2.1 ≤ q)) (F0 mid 90 ls []) := by
        intro xq18 mq17 H locs ls hl hR hF
        rw [ek90_18] at hF
        refine lv_aload_n hx hb (dk DX7_waysOfSlot 45 rfl) rfl (lv_at hl 0 rfl) ?_
        refine lv_iload_n hx hb (dk DX7_waysOfSlot 46 rfl) rfl (lv_at hl 1 rfl) ?_
        refine lv_iconst (v := (1 : Int32)) hx hb (dk DX7_waysOfSlot 47 rfl) (by decide) ?_
        refine lv_iadd hx hb (dk DX7_waysOfSlot 48 rfl) ?_
        refine lv_iload_n hx hb (dk DX7_waysOfSlot 49 rfl) rfl (lv_at hl 2 rfl) ?_
        refine lv_bipush (v := (10 : Int32)) hx hb (dk DX7_waysOfSlot 50 rfl) (by decide) ?_
        refine lv_iload_n hx hb (dk DX7_waysOfSlot 51 rfl) rfl (lv_at hl 3 rfl) ?_
        refine lv_iload hx hb (dk DX7_waysOfSlot 52 rfl) (lv_at hl 7 rfl) ?_
        refine lv_iadd hx hb (dk DX7_waysOfSlot 53 rfl) ?_
        refine r_mnI C (gd q719 rfl) (by omega) (Nat.le_of_ble_eq_true rfl) hl.1 ⟨Nat.zero_le _, Nat.zero_le _⟩ (dk DX7_waysOfSlot 54 rfl) ?_
        refine lv_iload hx hb (dk DX7_waysOfSlot 55 rfl) (lv_at hl 5 rfl) ?_
        obtain ⟨k122_20, ek122_20, hF⟩ := lt_ex hF
        have J122 : ∀ (xq20 : Int32) (mq19 : Mem) (H : Heap) (locs : List Loc) (ls : Array Slot), lv_has ls 11 [] → Rp G mr0 N0 mq19 s H locs → k122_20 xq20 mq19 = some (v, m') → W p l e (rmD (D + 3)) s mid args below meth c H locs 0 0 (MQ below (QR G mr0 N0 (some (.long v)) m') args s 0 0 (fun q => G.2.1 ≤ q)) (F0 mid 122 ls [.int xq20, .int (mnI (10 : Int32) (a3 + xq18)), .int a2, .int (a1 + (1 : Int32)), .ref (G.2.1 + 2)]) := by
          intro xq20 mq19 H locs ls hl hR hF
          rw [ek122_20] at hF
          obtain ⟨yq23, mq21, hzq22, hF⟩ := bnd_ex hF
          refine r_callVl (As := [.int (a1 + (1 : Int32)), .int a2, .int (mnI (10 : Int32) (a3 + xq18)), .int xq20]) (rest := []) C hR (C_Od_waysBehind l hl0 G D rc hrc (by omega) (a1 + (1 : Int32)) a2 (mnI (10 : Int32) (a3 + xq18)) xq20 mq19 _ _ hzq22) (by omega) (by decide) ob2 rfl wX7_145 rfl rfl (Nat.le_of_ble_eq_true rfl) hl.1 ⟨Nat.zero_le _, Nat.zero_le _⟩ (dk DX7_waysOfSlot 64 rfl) (fun H locs hR => ?_)
          cases hF
          exact r_lret C hrt hR (dk DX7_waysOfSlot 65 rfl)
        refine z_ifeq (tgt := 117) hx hb (dk DX7_waysOfSlot 56 rfl) (by decide) (fun c106 => ?_) (fun c106 => ?_)
        · have hF := if_f c106 hF
          refine lv_iload hx hb (dk DX7_waysOfSlot 61 rfl) (lv_at hl 4 rfl) ?_
          refine lv_iload hx hb (dk DX7_waysOfSlot 62 rfl) (lv_at hl 6 rfl) ?_
          refine lv_isub hx hb (dk DX7_waysOfSlot 63 rfl) ?_
          exact J122 (a4 - xq13) mq17 _ _ ls (lv_sub hl [] rfl) hR hF
        · have hF := if_t c106 hF
          refine lv_iload hx hb (dk DX7_waysOfSlot 57 rfl) (lv_at hl 4 rfl) ?_
          refine lv_iload hx hb (dk DX7_waysOfSlot 58 rfl) (lv_at hl 6 rfl) ?_
          refine lv_iadd hx hb (dk DX7_waysOfSlot 59 rfl) ?_
          refine lv_goto (tgt := 122) hx hb (dk DX7_waysOfSlot 60 rfl) (by decide) ?_
          exact J122 (a4 + xq13) mq17 _ _ ls (lv_sub hl [] rfl) hR hF
      refine z_ifeq (tgt := 90) hx hb (dk DX7_waysOfSlot 38 rfl) (by decide) (fun c77 => ?_) (fun c77 => ?_)
      · have hF := if_f c77 hF
        exact J90 xq16 mq14 _ _ ls (lv_sub hl [2, 3, 4, 5, 6, 9, 1, 0] rfl) hR hF
      · have hF := if_t c77 hF
        refine lv_iconst (v := (0 : Int32)) hx hb (dk DX7_waysOfSlot 39 rfl) (by decide) ?_
        refine lv_iload hx hb (dk DX7_waysOfSlot 40 rfl) (lv_at hl 0 rfl) ?_
        refine lv_iconst (v := (1 : Int32)) hx hb (dk DX7_waysOfSlot 41 rfl) (by decide) ?_
        refine lv_isub hx hb (dk DX7_waysOfSlot 42 rfl) ?_
        refine r_mxI C (gd q716 rfl) (by omega) (Nat.le_of_ble_eq_true rfl) hl.1 ⟨Nat.zero_le _, Nat.zero_le _⟩ (dk DX7_waysOfSlot 43 rfl) ?_
        refine lv_topi (fun xq24 exq24 => ?_)
        have hF := lt_at exq24 hF
        refine lv_istore (lv' := [(10, .int xq24), (9, .int xq13), (0, .ref (G.2.1 + 2)), (1, .int a1), (2, .int a2), (3, .int a3), (4, .int a4), (5, .int a5), (6, .int (b2i a6)), (7, .int (b2i zq3)), (8, .int xq11)]) hx hb (dk DX7_waysOfSlot 44 rfl) hl (by decide) rfl (fun ls hl => ?_)
        exact J90 xq24 mq14 _ _ ls (lv_sub hl [2, 3, 4, 5, 6, 9, 1, 0] rfl) hR hF
    refine z_ifeq (tgt := 47) hx hb (dk DX7_waysOfSlot 20 rfl) (by decide) (fun c40 => ?_) (fun c40 => ?_)
    · have hF := if_f c40 hF
      refine lv_aload_n hx hb (dk DX7_waysOfSlot 23 rfl) rfl (lv_at hl 1 rfl) ?_
      refine gX7_14 C hR ob2 rf2_0 (dk DX7_waysOfSlot 24 rfl) ?_
      refine lv_iload_n hx hb (dk DX7_waysOfSlot 25 rfl) rfl (lv_at hl 2 rfl) ?_
      refine lv_iload hx hb (dk DX7_waysOfSlot 26 rfl) (lv_at hl 0 rfl) ?_
      refine lv_iload hx hb (dk DX7_waysOfSlot 27 rfl) (lv_at hl 6 rfl) ?_
      obtain ⟨xq27, mq25, hzq26, hF⟩ := bnd_ex hF
      refine r_callVi (As := [.int a1, .int xq11, .int a5]) (rest := []) C hR (C_Gr_runsIn l hl0 G a1 xq11 a5 mq9 _ _ hzq26) (by omega) (by decide) ob3 rfl wX7_130 rfl rfl (Nat.le_of_ble_eq_true rfl) hl.1 ⟨Nat.zero_le _, Nat.zero_le _⟩ (dk DX7_waysOfSlot 28 rfl) (fun H locs hR => ?_)
      exact J59 xq27 mq25 _ _ ls (lv_sub hl [1, 2, 3, 4, 5, 6, 7, 8, 0] rfl) hR hF
    · have hF := if_t c40 hF
      refine lv_iconst (v := (0 : Int32)) hx hb (dk DX7_waysOfSlot 21 rfl) (by decide) ?_
      refine lv_goto (tgt := 59) hx hb (dk DX7_waysOfSlot 22 rfl) (by decide) ?_
      exact J59 (0 : Int32) mq9 _ _ ls (lv_sub hl [1, 2, 3, 4, 5, 6, 7, 8, 0] rfl) hR hF
  refine z_ifeq (tgt := 27) hx hb (dk DX7_waysOfSlot 9 rfl) (by decide) (fun c17 => ?_) (fun c17 => ?_)
  · have hF := if_f c17 hF
    refine lv_iconst (v := (1 : Int32)) hx hb (dk DX7_waysOfSlot 13 rfl) (by decide) ?_
    refine lv_aload_n hx hb (dk DX7_waysOfSlot 14 rfl) rfl (lv_at hl 1 rfl) ?_
    refine gX7_31 C hR ob2 (dk DX7_waysOfSlot 15 rfl) ?_
    refine lv_isub hx hb (dk DX7_waysOfSlot 16 rfl) ?_
    exact J33 ((1 : Int32) - (gI mq4 2 4)) mq4 _ _ ls (lv_sub hl [1, 2, 3, 4, 5, 6, 7, 0] rfl) hR hF
  · have hF := if_t c17 hF
    refine lv_aload_n hx hb (dk DX7_waysOfSlot 10 rfl) rfl (lv_at hl 1 rfl) ?_
    refine gX7_31 C hR ob2 (dk DX7_waysOfSlot 11 rfl) ?_
    refine lv_goto (tgt := 33) hx hb (dk DX7_waysOfSlot 12 rfl) (by decide) ?_
    exact J33 (gI mq4 2 4) mq4 _ _ ls (lv_sub hl [1, 2, 3, 4, 5, 6, 7, 0] rfl) hR hF
set_option maxHeartbeats 4000000 in
set_option maxRecDepth 100000 in
theorem C_Od_placeOf (l : Launch) (hl0 : l.stackTraces = false) (G : GG) (a1 : Int32) (a2 : Int32) (a3 : Int32) (a4 : Int32) (m0 : Mem) (v : Int32) (m' : Mem) (hF : F_Od_placeOf a1 a2 a3 a4 m0 = some (v, m')) : Ct l G mr0 N0 yX7_placeOf cX7_placeOf 6 (some .int) 1 [.ref (G.2.1 + 2), .int a1, .int a2, .int a3, .int a4] m0 (some (.int v)) m' := by
  refine Ct_of hl0 (by decide) (Nat.le_of_ble_eq_true rfl) ?_
  intro p e s mid args below meth c ls C hrt hl hR
  have hx := C.1.1
  have hb := C.1.2.1
  have hl : lv_has ls 6 [(0, .ref (G.2.1 + 2)), (1, .int a1), (2, .int a2), (3, .int a3), (4, .int a4)] := hl
  unfold F_Od_placeOf at hF
  refine lv_iload_n hx hb (dk DX7_placeOf 0 rfl) rfl (lv_at hl 1 rfl) ?_
  refine lv_bipush (v := (9 : Int32)) hx hb (dk DX7_placeOf 1 rfl) (by decide) ?_
  refine lv_icmp_ge (tgt := 42) hx hb (dk DX7_placeOf 2 rfl) (by decide) (fun c3 => ?_) (fun c3 => ?_)
  · have hF := if_t c3 hF
    refine lv_iconst (v := (-1 : Int32)) hx hb (dk DX7_placeOf 19 rfl) (by decide) ?_
    cases hF
    exact r_iret C hrt hR (dk DX7_placeOf 20 rfl)
  · have hF := if_f c3 hF
    refine lv_iload_n hx hb (dk DX7_placeOf 3 rfl) rfl (lv_at hl 2 rfl) ?_
    refine lv_if_lt (tgt := 42) hx hb (dk DX7_placeOf 4 rfl) (by decide) (fun c7 => ?_) (fun c7 => ?_)
    · have hF := if_t c7 hF
      refine lv_iconst (v := (-1 : Int32)) hx hb (dk DX7_placeOf 19 rfl) (by decide) ?_
      cases hF
      exact r_iret C hrt hR (dk DX7_placeOf 20 rfl)
    · have hF := if_f c7 hF
      refine lv_iload_n hx hb (dk DX7_placeOf 5 rfl) rfl (lv_at hl 2 rfl) ?_
      refine lv_bipush (v := (6 : Int32)) hx hb (dk DX7_placeOf 6 rfl) (by decide) ?_
      refine lv_icmp_ge (tgt := 42) hx hb (dk DX7_placeOf 7 rfl) (by decide) (fun c13 => ?_) (fun c13 => ?_)
      · have hF := if_t c13 hF
        refine lv_iconst (v := (-1 : Int32)) hx hb (dk DX7_placeOf 19 rfl) (by decide) ?_
        cases hF
        exact r_iret C hrt hR (dk DX7_placeOf 20 rfl)
      · have hF := if_f c13 hF
        refine lv_iload_n hx hb (dk DX7_placeOf 8 rfl) rfl (lv_at hl 3 rfl) ?_
        refine lv_if_lt (tgt := 42) hx hb (dk DX7_placeOf 9 rfl) (by decide) (fun c17 => ?_) (fun c17 => ?_)
        · have hF := if_t c17 hF
          refine lv_iconst (v := (-1 : Int32)) hx hb (dk DX7_placeOf 19 rfl) (by decide) ?_
          cases hF
          exact r_iret C hrt hR (dk DX7_placeOf 20 rfl)
        · have hF := if_f c17 hF
          refine lv_iload_n hx hb (dk DX7_placeOf 10 rfl) rfl (lv_at hl 3 rfl) ?_
          refine lv_bipush (v := (11 : Int32)) hx hb (dk DX7_placeOf 11 rfl) (by decide) ?_
          refine lv_icmp_ge (tgt := 42) hx hb (dk DX7_placeOf 12 rfl) (by decide) (fun c23 => ?_) (fun c23 => ?_)
          · have hF := if_t c23 hF
            refine lv_iconst (v := (-1 : Int32)) hx hb (dk DX7_placeOf 19 rfl) (by decide) ?_
            cases hF
            exact r_iret C hrt hR (dk DX7_placeOf 20 rfl)
          · have hF := if_f c23 hF
            refine lv_iload hx hb (dk DX7_placeOf 13 rfl) (lv_at hl 4 rfl) ?_
            refine lv_sipush (v := (-162 : Int32)) hx hb (dk DX7_placeOf 14 rfl) (by decide) ?_
            refine lv_icmp_lt (tgt := 42) hx hb (dk DX7_placeOf 15 rfl) (by decide) (fun c31 => ?_) (fun c31 => ?_)
            · have hF := if_t c31 hF
              refine lv_iconst (v := (-1 : Int32)) hx hb (dk DX7_placeOf 19 rfl) (by decide) ?_
              cases hF
              exact r_iret C hrt hR (dk DX7_placeOf 20 rfl)
            · have hF := if_f c31 hF
              refine lv_iload hx hb (dk DX7_placeOf 16 rfl) (lv_at hl 4 rfl) ?_
              refine lv_sipush (v := (162 : Int32)) hx hb (dk DX7_placeOf 17 rfl) (by decide) ?_
              refine lv_icmp_le (tgt := 44) hx hb (dk DX7_placeOf 18 rfl) (by decide) (fun c39 => ?_) (fun c39 => ?_)
              · have hF := if_t c39 hF
                refine lv_iload_n hx hb (dk DX7_placeOf 21 rfl) rfl (lv_at hl 1 rfl) ?_
                refine lv_bipush (v := (6 : Int32)) hx hb (dk DX7_placeOf 22 rfl) (by decide) ?_
                refine lv_imul hx hb (dk DX7_placeOf 23 rfl) ?_
                refine lv_iload_n hx hb (dk DX7_placeOf 24 rfl) rfl (lv_at hl 2 rfl) ?_
                refine lv_iadd hx hb (dk DX7_placeOf 25 rfl) ?_
                refine lv_bipush (v := (11 : Int32)) hx hb (dk DX7_placeOf 26 rfl) (by decide) ?_
                refine lv_imul hx hb (dk DX7_placeOf 27 rfl) ?_
                refine lv_iload_n hx hb (dk DX7_placeOf 28 rfl) rfl (lv_at hl 3 rfl) ?_
                refine lv_iadd hx hb (dk DX7_placeOf 29 rfl) ?_
                refine lv_topi (fun xq1 exq1 => ?_)
                have hF := lt_at exq1 hF
                refine lv_sipush (v := (325 : Int32)) hx hb (dk DX7_placeOf 30 rfl) (by decide) ?_
                refine lv_imul hx hb (dk DX7_placeOf 31 rfl) ?_
                refine lv_iload hx hb (dk DX7_placeOf 32 rfl) (lv_at hl 4 rfl) ?_
                refine lv_iadd hx hb (dk DX7_placeOf 33 rfl) ?_
                refine lv_sipush (v := (162 : Int32)) hx hb (dk DX7_placeOf 34 rfl) (by decide) ?_
                refine lv_iadd hx hb (dk DX7_placeOf 35 rfl) ?_
                refine lv_topi (fun xq2 exq2 => ?_)
                have hF := lt_at exq2 hF
                refine lv_istore (lv' := [(5, .int xq2), (0, .ref (G.2.1 + 2)), (1, .int a1), (2, .int a2), (3, .int a3), (4, .int a4)]) hx hb (dk DX7_placeOf 36 rfl) hl (by decide) rfl (fun ls hl => ?_)
                refine lv_iload hx hb (dk DX7_placeOf 37 rfl) (lv_at hl 0 rfl) ?_
                refine lv_if_lt (tgt := 83) hx hb (dk DX7_placeOf 38 rfl) (by decide) (fun c70 => ?_) (fun c70 => ?_)
                · have hF := if_t c70 hF
                  refine lv_iconst (v := (-1 : Int32)) hx hb (dk DX7_placeOf 44 rfl) (by decide) ?_
                  refine lv_goto (tgt := 89) hx hb (dk DX7_placeOf 45 rfl) (by decide) ?_
                  cases hF
                  exact r_iret C hrt hR (dk DX7_placeOf 47 rfl)
                · have hF := if_f c70 hF
                  refine lv_iload hx hb (dk DX7_placeOf 39 rfl) (lv_at hl 0 rfl) ?_
                  refine lv_aload_n hx hb (dk DX7_placeOf 40 rfl) rfl (lv_at hl 1 rfl) ?_
                  refine gX7_19 C hR ob2 rf2_1 (dk DX7_placeOf 41 rfl) ?_
                  refine r_alenl (v := (193050 : Int32)) C hR ob15 rfl (dk DX7_placeOf 42 rfl) ?_
                  refine lv_icmp_lt (tgt := 87) hx hb (dk DX7_placeOf 43 rfl) (by decide) (fun c80 => ?_) (fun c80 => ?_)
                  · have hF := if_t c80 hF
                    refine lv_iload hx hb (dk DX7_placeOf 46 rfl) (lv_at hl 0 rfl) ?_
                    cases hF
                    exact r_iret C hrt hR (dk DX7_placeOf 47 rfl)
                  · have hF := if_f c80 hF
                    refine lv_iconst (v := (-1 : Int32)) hx hb (dk DX7_placeOf 44 rfl) (by decide) ?_
                    refine lv_goto (tgt := 89) hx hb (dk DX7_placeOf 45 rfl) (by decide) ?_
                    cases hF
                    exact r_iret C hrt hR (dk DX7_placeOf 47 rfl)
              · have hF := if_f c39 hF
                refine lv_iconst (v := (-1 : Int32)) hx hb (dk DX7_placeOf 19 rfl) (by decide) ?_
                cases hF
                exact r_iret C hrt hR (dk DX7_placeOf 20 rfl)
set_option maxHeartbeats 4000000 in
set_option maxRecDepth 100000 in
theorem C_Od_waysOfSession (l : Launch) (hl0 : l.stackTraces = false) (G : GG) (D : Nat) (rc : Int32 → Int32 → Int32 → Int32 → Mem → Option (Int64 × Mem)) (hrc : ∀ (b0 : Int32) (b1 : Int32) (b2 : Int32) (b3 : Int32) (m0 : Mem) (v : Int64) (m' : Mem), rc b0 b1 b2 b3 m0 = some (v, m') → Ct l G mr0 N0 yX7_waysAt cX7_waysAt 8 (some .long) D [.ref (G.2.1 + 2), .int b0, .int b1, .int b2, .int b3] m0 (some (.long v)) m') (hD : 4 ≤ D) (a1 : Int32) (a2 : Int32) (a3 : Int32) (a4 : Int32) (a5 : Bool) (m0 : Mem) (v : Int64) (m' : Mem) (hF : F_Od_waysOfSession rc a1 a2 a3 a4 a5 m0 = some (v, m')) : Ct l G mr0 N0 yX7_waysOfSession cX7_waysOfSession 9 (some .long) (D + 4) [.ref (G.2.1 + 2), .int a1, .int a2, .int a3, .int a4, .int (b2i a5)] m0 (some (.long v)) m' := by
  refine Ct_of hl0 (by decide) (Nat.le_of_ble_eq_true rfl) ?_
  intro p e s mid args below meth c ls C hrt hl hR
  have hx := C.1.1
  have hb := C.1.2.1
  have hl : lv_has ls 9 [(0, .ref (G.2.1 + 2)), (1, .int a1), (2, .int a2), (3, .int a3), (4, .int a4), (5, .int (b2i a5))] := hl
  unfold F_Od_waysOfSession at hF
  refine lv_lconst (v := (0 : Int64)) hx hb (dk DX7_waysOfSession 0 rfl) (by decide) ?_
  refine lv_lstore (lv' := [(6, .long (0 : Int64)), (0, .ref (G.2.1 + 2)), (1, .int a1), (2, .int a2), (3, .int a3), (4, .int a4), (5, .int (b2i a5))]) hx hb (dk DX7_waysOfSession 1 rfl) hl (by decide) rfl (fun ls hl => ?_)
  refine lv_iconst (v := (0 : Int32)) hx hb (dk DX7_waysOfSession 2 rfl) (by decide) ?_
  refine lv_istore (lv' := [(8, .int (0 : Int32)), (6, .long (0 : Int64)), (0, .ref (G.2.1 + 2)), (1, .int a1), (2, .int a2), (3, .int a3), (4, .int a4), (5, .int (b2i a5))]) hx hb (dk DX7_waysOfSession 3 rfl) hl (by decide) rfl (fun ls hl => ?_)
  have L6 : ∀ (nf : Nat) (yq2 : Int64) (xq3 : Int32) (mq1 : Mem) (H : Heap) (locs : List Loc) (ls : Array Slot), lv_has ls 9 [(0, .ref (G.2.1 + 2)), (1, .int a1), (2, .int a2), (3, .int a3), (4, .int a4), (5, .int (b2i a5)), (6, .long yq2), (8, .int xq3)] → Rp G mr0 N0 mq1 s H locs → F_Od_waysOfSession_L6 rc a1 a2 a3 a4 a5 nf yq2 xq3 mq1 = some (v, m') → W p l e (rmD (D + 4)) s mid args below meth c H locs 0 0 (MQ below (QR G mr0 N0 (some (.long v)) m') args s 0 0 (fun q => G.2.1 ≤ q)) (F0 mid 6 ls []) := by
    intro nf
    induction nf with
    | zero =>
      intro yq2 xq3 mq1 H locs ls hl hR hF
      rw [F_Od_waysOfSession_L6] at hF
      cases hF
    | succ nf ihq5 =>
      intro yq2 xq3 mq1 H locs ls hl hR hF
      rw [F_Od_waysOfSession_L6] at hF
      refine lv_iload hx hb (dk DX7_waysOfSession 4 rfl) (lv_at hl 7 rfl) ?_
      refine lv_iconst (v := (4 : Int32)) hx hb (dk DX7_waysOfSession 5 rfl) (by decide) ?_
      refine lv_icmp_ge (tgt := 36) hx hb (dk DX7_waysOfSession 6 rfl) (by decide) (fun c9 => ?_) (fun c9 => ?_)
      · have hF := if_t c9 hF
        refine lv_lload hx hb (dk DX7_waysOfSession 20 rfl) (lv_at hl 6 rfl) ?_
        cases hF
        exact r_lret C hrt hR (dk DX7_waysOfSession 21 rfl)
      · have hF := if_f c9 hF
        refine lv_lload hx hb (dk DX7_waysOfSession 7 rfl) (lv_at hl 6 rfl) ?_
        refine lv_aload_n hx hb (dk DX7_waysOfSession 8 rfl) rfl (lv_at hl 0 rfl) ?_
        refine lv_iload_n hx hb (dk DX7_waysOfSession 9 rfl) rfl (lv_at hl 1 rfl) ?_
        refine lv_iload_n hx hb (dk DX7_waysOfSession 10 rfl) rfl (lv_at hl 2 rfl) ?_
        refine lv_iload_n hx hb (dk DX7_waysOfSession 11 rfl) rfl (lv_at hl 3 rfl) ?_
        refine lv_iload hx hb (dk DX7_waysOfSession 12 rfl) (lv_at hl 4 rfl) ?_
        refine lv_iload hx hb (dk DX7_waysOfSession 13 rfl) (lv_at hl 7 rfl) ?_
        refine lv_iload hx hb (dk DX7_waysOfSession 14 rfl) (lv_at hl 5 rfl) ?_
        obtain ⟨yq8, mq6, hzq7, hF⟩ := bnd_ex hF
        refine r_callVl (As := [.int a1, .int a2, .int a3, .int a4, .int xq3, .int (b2i a5)]) (rest := [.long yq2]) C hR (C_Od_waysOfSlot l hl0 G D rc hrc (by omega) a1 a2 a3 a4 xq3 a5 mq1 _ _ hzq7) (by omega) (by decide) ob2 rfl wX7_106 rfl rfl (Nat.le_of_ble_eq_true rfl) hl.1 ⟨Nat.zero_le _, Nat.zero_le _⟩ (dk DX7_waysOfSession 15 rfl) (fun H locs hR => ?_)
        refine lv_ladd hx hb (dk DX7_waysOfSession 16 rfl) ?_
        refine lv_topl (fun yq9 eyq9 => ?_)
        have hF := lt_at eyq9 hF
        refine lv_lstore (lv' := [(6, .long yq9), (0, .ref (G.2.1 + 2)), (1, .int a1), (2, .int a2), (3, .int a3), (4, .int a4), (5, .int (b2i a5)), (8, .int xq3)]) hx hb (dk DX7_waysOfSession 17 rfl) hl (by decide) rfl (fun ls hl => ?_)
        obtain ⟨xq10, exq10, hF⟩ := lt_ex hF
        refine lv_iinc (v := xq10) (lv' := [(8, .int xq10), (6, .long yq9), (0, .ref (G.2.1 + 2)), (1, .int a1), (2, .int a2), (3, .int a3), (4, .int a4), (5, .int (b2i a5))]) hx hb (dk DX7_waysOfSession 18 rfl) hl (k := 7) rfl (by rw [exq10]; rfl) (by decide) rfl (fun ls hl => ?_)
        refine lv_goto (tgt := 6) hx hb (dk DX7_waysOfSession 19 rfl) (by decide) ?_
        exact ihq5 yq9 xq10 mq6 _ _ ls (lv_sub hl [2, 3, 4, 5, 6, 7, 1, 0] rfl) hR hF
  exact L6 1000000 (0 : Int64) (0 : Int32) m0 _ _ ls (lv_sub hl [2, 3, 4, 5, 6, 7, 1, 0] rfl) hR hF
