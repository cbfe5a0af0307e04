set_option maxHeartbeats 4000000 in
set_option maxRecDepth 100000 in
theorem C_M_firstSide (l : Launch) (hl0 : l.stackTraces = false) (G : GG) (m0 : Mem) (v : Int32) (m' : Mem) (hF : F_M_firstSide m0 = some (v, m')) : Ct l G mr0 N0 yX11_firstSide cX11_firstSide 1 (some .int) 1 [.ref (G.2.1 + 78)] m0 (some (.int v)) m' := by
  refine Ct_of hl0 (by decide) (Nat.le_of_ble_eq_true rfl) ?_
  intro p e s mid args below meth c ls C hrt hl hR
  have hx := C.1.1
  have hb := C.1.2.1
  have hl : lv_has ls 1 [(0, .ref (G.2.1 + 78))] := hl
  unfold F_M_firstSide at hF
  refine lv_aload_n hx hb (dk DX11_firstSide 0 rfl) rfl (lv_at hl 0 rfl) ?_
  refine gX11_13 C hR ob78 rf78_1 (dk DX11_firstSide 1 rfl) ?_
  refine lv_bipush (v := (10 : Int32)) hx hb (dk DX11_firstSide 2 rfl) (by decide) ?_
  refine r_iald C hR ob79 rfl (dk DX11_firstSide 3 rfl) ?_
  cases hF
  exact r_iret C hrt hR (dk DX11_firstSide 4 rfl)
set_option maxHeartbeats 4000000 in
set_option maxRecDepth 100000 in
theorem C_M_isOver (l : Launch) (hl0 : l.stackTraces = false) (G : GG) (m0 : Mem) (v : Bool) (m' : Mem) (hF : F_M_isOver m0 = some (v, m')) : Ct l G mr0 N0 yX11_isOver cX11_isOver 1 (some .boolean) 1 [.ref (G.2.1 + 78)] m0 (some (.int (b2i v))) m' := by
  refine Ct_of hl0 (by decide) (Nat.le_of_ble_eq_true rfl) ?_
  intro p e s mid args below meth c ls C hrt hl hR
  have hx := C.1.1
  have hb := C.1.2.1
  have hl : lv_has ls 1 [(0, .ref (G.2.1 + 78))] := hl
  unfold F_M_isOver at hF
  refine lv_aload_n hx hb (dk DX11_isOver 0 rfl) rfl (lv_at hl 0 rfl) ?_
  refine gX11_13 C hR ob78 rf78_1 (dk DX11_isOver 1 rfl) ?_
  refine lv_bipush (v := (18 : Int32)) hx hb (dk DX11_isOver 2 rfl) (by decide) ?_
  refine r_iald C hR ob79 rfl (dk DX11_isOver 3 rfl) ?_
  refine lv_if_lt (tgt := 14) hx hb (dk DX11_isOver 4 rfl) (by decide) (fun c7 => ?_) (fun c7 => ?_)
  · have hF := if_t c7 hF
    refine lv_iconst (v := (0 : Int32)) hx hb (dk DX11_isOver 7 rfl) (by decide) ?_
    cases hF
    exact r_zret C hrt hR (dk DX11_isOver 8 rfl)
  · have hF := if_f c7 hF
    refine lv_iconst (v := (1 : Int32)) hx hb (dk DX11_isOver 5 rfl) (by decide) ?_
    refine lv_goto (tgt := 15) hx hb (dk DX11_isOver 6 rfl) (by decide) ?_
    cases hF
    exact r_zret C hrt hR (dk DX11_isOver 8 rfl)
set_option maxHeartbeats 4000000 in
set_option maxRecDepth 100000 in
theorem C_M_isOn (l : Launch) (hl0 : l.stackTraces = false) (G : GG) (m0 : Mem) (v : Bool) (m' : Mem) (hF : F_M_isOn m0 = some (v, m')) : Ct l G mr0 N0 yX11_isOn cX11_isOn 1 (some .boolean) 2 [.ref (G.2.1 + 78)] m0 (some (.int (b2i v))) m' := by
  refine Ct_of hl0 (by decide) (Nat.le_of_ble_eq_true rfl) ?_
  intro p e s mid args below meth c ls C hrt hl hR
  have hx := C.1.1
  have hb := C.1.2.1
  have hl : lv_has ls 1 [(0, .ref (G.2.1 + 78))] := hl
  unfold F_M_isOn at hF
  refine lv_aload_n hx hb (dk DX11_isOn 0 rfl) rfl (lv_at hl 0 rfl) ?_
  obtain ⟨xq3, mq1, hzq2, hF⟩ := bnd_ex hF
  refine r_callVi (As := []) (rest := []) C hR (C_M_firstSide l hl0 G m0 _ _ hzq2) (by decide) (by decide) ob78 rfl wX11_265 rfl rfl (Nat.le_of_ble_eq_true rfl) hl.1 ⟨Nat.zero_le _, Nat.zero_le _⟩ (dk DX11_isOn 1 rfl) (fun H locs hR => ?_)
  refine lv_if_lt (tgt := 18) hx hb (dk DX11_isOn 2 rfl) (by decide) (fun c4 => ?_) (fun c4 => ?_)
  · have hF := if_t c4 hF
    refine lv_iconst (v := (0 : Int32)) hx hb (dk DX11_isOn 8 rfl) (by decide) ?_
    cases hF
    exact r_zret C hrt hR (dk DX11_isOn 9 rfl)
  · have hF := if_f c4 hF
    refine lv_aload_n hx hb (dk DX11_isOn 3 rfl) rfl (lv_at hl 0 rfl) ?_
    obtain ⟨zq6, mq4, hzq5, hF⟩ := bnd_ex hF
    refine r_callVi (As := []) (rest := []) C hR (C_M_isOver l hl0 G mq1 _ _ hzq5) (by decide) (by decide) ob78 rfl wX11_275 rfl rfl (Nat.le_of_ble_eq_true rfl) hl.1 ⟨Nat.zero_le _, Nat.zero_le _⟩ (dk DX11_isOn 4 rfl) (fun H locs hR => ?_)
    refine z_ifne (tgt := 18) hx hb (dk DX11_isOn 5 rfl) (by decide) (fun c11 => ?_) (fun c11 => ?_)
    · have hF := if_t c11 hF
      refine lv_iconst (v := (0 : Int32)) hx hb (dk DX11_isOn 8 rfl) (by decide) ?_
      cases hF
      exact r_zret C hrt hR (dk DX11_isOn 9 rfl)
    · have hF := if_f c11 hF
      refine lv_iconst (v := (1 : Int32)) hx hb (dk DX11_isOn 6 rfl) (by decide) ?_
      refine lv_goto (tgt := 19) hx hb (dk DX11_isOn 7 rfl) (by decide) ?_
      cases hF
      exact r_zret C hrt hR (dk DX11_isOn 9 rfl)
set_option maxHeartbeats 4000000 in
set_option maxRecDepth 100000 in
theorem C_M_played (l : Launch) (hl0 : l.stackTraces = false) (G : GG) (m0 : Mem) (v : Int32) (m' : Mem) (hF : F_M_played m0 = some (v, m')) : Ct l G mr0 N0 yX11_played cX11_played 1 (some .int) 1 [.ref (G.2.1 + 78)] m0 (some (.int v)) m' := by
  refine Ct_of hl0 (by decide) (Nat.le_of_ble_eq_true rfl) ?_
  intro p e s mid args below meth c ls C hrt hl hR
  have hx := C.1.1
  have hb := C.1.2.1
  have hl : lv_has ls 1 [(0, .ref (G.2.1 + 78))] := hl
  unfold F_M_played at hF
  refine lv_aload_n hx hb (dk DX11_played 0 rfl) rfl (lv_at hl 0 rfl) ?_
  refine gX11_13 C hR ob78 rf78_1 (dk DX11_played 1 rfl) ?_
  refine lv_bipush (v := (17 : Int32)) hx hb (dk DX11_played 2 rfl) (by decide) ?_
  refine r_iald C hR ob79 rfl (dk DX11_played 3 rfl) ?_
  cases hF
  exact r_iret C hrt hR (dk DX11_played 4 rfl)
set_option maxHeartbeats 4000000 in
set_option maxRecDepth 100000 in
theorem C_M_isFollowed (l : Launch) (hl0 : l.stackTraces = false) (G : GG) (m0 : Mem) (v : Bool) (m' : Mem) (hF : F_M_isFollowed m0 = some (v, m')) : Ct l G mr0 N0 yX11_isFollowed cX11_isFollowed 1 (some .boolean) 1 [.ref (G.2.1 + 78)] m0 (some (.int (b2i v))) m' := by
  refine Ct_of hl0 (by decide) (Nat.le_of_ble_eq_true rfl) ?_
  intro p e s mid args below meth c ls C hrt hl hR
  have hx := C.1.1
  have hb := C.1.2.1
  have hl : lv_has ls 1 [(0, .ref (G.2.1 + 78))] := hl
  unfold F_M_isFollowed at hF
  refine lv_aload_n hx hb (dk DX11_isFollowed 0 rfl) rfl (lv_at hl 0 rfl) ?_
  refine gX11_13 C hR ob78 rf78_1 (dk DX11_isFollowed 1 rfl) ?_
  refine lv_bipush (v := (12 : Int32)) hx hb (dk DX11_isFollowed 2 rfl) (by decide) ?_
  refine r_iald C hR ob79 rfl (dk DX11_isFollowed 3 rfl) ?_
  refine lv_iconst (v := (1 : Int32)) hx hb (dk DX11_isFollowed 4 rfl) (by decide) ?_
  refine lv_icmp_ne (tgt := 15) hx hb (dk DX11_isFollowed 5 rfl) (by decide) (fun c8 => ?_) (fun c8 => ?_)
  · have hF := if_f c8 hF
    refine lv_iconst (v := (0 : Int32)) hx hb (dk DX11_isFollowed 8 rfl) (by decide) ?_
    cases hF
    exact r_zret C hrt hR (dk DX11_isFollowed 9 rfl)
  · have hF := if_t c8 hF
    refine lv_iconst (v := (1 : Int32)) hx hb (dk DX11_isFollowed 6 rfl) (by decide) ?_
    refine lv_goto (tgt := 16) hx hb (dk DX11_isFollowed 7 rfl) (by decide) ?_
    cases hF
    exact r_zret C hrt hR (dk DX11_isFollowed 9 rfl)
set_option maxHeartbeats 4000000 in
set_option maxRecDepth 100000 in
theorem C_M_batting (l : Launch) (hl0 : l.stackTraces = false) (G : GG) (a0 : Int32) (a1 : Int32) (a2 : Bool) (m0 : Mem) (v : Int32) (m' : Mem) (hF : F_M_batting a0 a1 a2 m0 = some (v, m')) : Ct l G mr0 N0 yX11_batting cX11_batting 3 (some .int) 1 [.int a0, .int a1, .int (b2i a2)] m0 (some (.int v)) m' := by
  refine Ct_of hl0 (by decide) (Nat.le_of_ble_eq_true rfl) ?_
  intro p e s mid args below meth c ls C hrt hl hR
  have hx := C.1.1
  have hb := C.1.2.1
  have hl : lv_has ls 3 [(0, .int a0), (1, .int a1), (2, .int (b2i a2))] := hl
  unfold F_M_batting at hF
  refine lv_iload_n hx hb (dk DX11_batting 0 rfl) rfl (lv_at hl 1 rfl) ?_
  obtain ⟨k14_2, ek14_2, hF⟩ := lt_ex hF
  have J14 : ∀ (zq2 : Bool) (mq1 : Mem) (H : Heap) (locs : List Loc) (ls : Array Slot), lv_has ls 3 [(0, .int a0), (2, .int (b2i a2))] → Rp G mr0 N0 mq1 s H locs → k14_2 zq2 mq1 = some (v, m') → W p l e (rmD 1) s mid args below meth c H locs 0 0 (MQ below (QR G mr0 N0 (some (.int v)) m') args s 0 0 (fun q => G.2.1 ≤ q)) (F0 mid 14 ls [.int (b2i zq2)]) := by
    intro zq2 mq1 H locs ls hl hR hF
    rw [ek14_2] at hF
    refine lv_iload_n hx hb (dk DX11_batting 8 rfl) rfl (lv_at hl 1 rfl) ?_
    refine lv_icmp_eq (tgt := 22) hx hb (dk DX11_batting 9 rfl) (by decide) (fun c15 => ?_) (fun c15 => ?_)
    · have hF := if_t c15 hF
      refine lv_iconst (v := (1 : Int32)) hx hb (dk DX11_batting 12 rfl) (by decide) ?_
      refine lv_iload_n hx hb (dk DX11_batting 13 rfl) rfl (lv_at hl 0 rfl) ?_
      refine lv_isub hx hb (dk DX11_batting 14 rfl) ?_
      cases hF
      exact r_iret C hrt hR (dk DX11_batting 15 rfl)
    · have hF := if_f c15 hF
      refine lv_iload_n hx hb (dk DX11_batting 10 rfl) rfl (lv_at hl 0 rfl) ?_
      refine lv_goto (tgt := 25) hx hb (dk DX11_batting 11 rfl) (by decide) ?_
      cases hF
      exact r_iret C hrt hR (dk DX11_batting 15 rfl)
  obtain ⟨k9_3, ek9_3, hF⟩ := lt_ex hF
  have J9 : ∀ (mq3 : Mem) (H : Heap) (locs : List Loc) (ls : Array Slot), lv_has ls 3 [(0, .int a0), (2, .int (b2i a2))] → Rp G mr0 N0 mq3 s H locs → k9_3  mq3 = some (v, m') → W p l e (rmD 1) s mid args below meth c H locs 0 0 (MQ below (QR G mr0 N0 (some (.int v)) m') args s 0 0 (fun q => G.2.1 ≤ q)) (F0 mid 9 ls []) := by
    intro  mq3 H locs ls hl hR hF
    rw [ek9_3] at hF
    refine lv_iconst (v := (1 : Int32)) hx hb (dk DX11_batting 5 rfl) (by decide) ?_
    refine lv_goto (tgt := 14) hx hb (dk DX11_batting 6 rfl) (by decide) ?_
    exact J14 true mq3 _ _ ls (lv_sub hl [0, 1] rfl) hR hF
  refine lv_if_eq (tgt := 9) hx hb (dk DX11_batting 1 rfl) (by decide) (fun c1 => ?_) (fun c1 => ?_)
  · have hF := if_t c1 hF
    exact J9 m0 _ _ ls (lv_sub hl [0, 2] rfl) hR hF
  · have hF := if_f c1 hF
    refine lv_iload_n hx hb (dk DX11_batting 2 rfl) rfl (lv_at hl 1 rfl) ?_
    refine lv_iconst (v := (2 : Int32)) hx hb (dk DX11_batting 3 rfl) (by decide) ?_
    refine lv_icmp_ne (tgt := 13) hx hb (dk DX11_batting 4 rfl) (by decide) (fun c6 => ?_) (fun c6 => ?_)
    · have hF := if_f c6 hF
      refine lv_iconst (v := (0 : Int32)) hx hb (dk DX11_batting 7 rfl) (by decide) ?_
      exact J14 false m0 _ _ ls (lv_sub hl [0, 2] rfl) hR hF
    · have hF := if_t c6 hF
      exact J9 m0 _ _ ls (lv_sub hl [0, 2] rfl) hR hF
set_option maxHeartbeats 4000000 in
set_option maxRecDepth 100000 in
theorem C_M_batter (l : Launch) (hl0 : l.stackTraces = false) (G : GG) (m0 : Mem) (v : Int32) (m' : Mem) (hF : F_M_batter m0 = some (v, m')) : Ct l G mr0 N0 yX11_batter cX11_batter 1 (some .int) 2 [.ref (G.2.1 + 78)] m0 (some (.int v)) m' := by
  refine Ct_of hl0 (by decide) (Nat.le_of_ble_eq_true rfl) ?_
  intro p e s mid args below meth c ls C hrt hl hR
  have hx := C.1.1
  have hb := C.1.2.1
  have hl : lv_has ls 1 [(0, .ref (G.2.1 + 78))] := hl
  unfold F_M_batter at hF
  refine lv_aload_n hx hb (dk DX11_batter 0 rfl) rfl (lv_at hl 0 rfl) ?_
  obtain ⟨xq3, mq1, hzq2, hF⟩ := bnd_ex hF
  refine r_callVi (As := []) (rest := []) C hR (C_M_firstSide l hl0 G m0 _ _ hzq2) (by decide) (by decide) ob78 rfl wX11_265 rfl rfl (Nat.le_of_ble_eq_true rfl) hl.1 ⟨Nat.zero_le _, Nat.zero_le _⟩ (dk DX11_batter 1 rfl) (fun H locs hR => ?_)
  refine lv_aload_n hx hb (dk DX11_batter 2 rfl) rfl (lv_at hl 0 rfl) ?_
  refine gX11_13 C hR ob78 rf78_1 (dk DX11_batter 3 rfl) ?_
  refine lv_bipush (v := (11 : Int32)) hx hb (dk DX11_batter 4 rfl) (by decide) ?_
  refine r_iald C hR ob79 rfl (dk DX11_batter 5 rfl) ?_
  refine lv_aload_n hx hb (dk DX11_batter 6 rfl) rfl (lv_at hl 0 rfl) ?_
  obtain ⟨zq6, mq4, hzq5, hF⟩ := bnd_ex hF
  refine r_callVi (As := []) (rest := [.int (gI mq1 79 11), .int xq3]) C hR (C_M_isFollowed l hl0 G mq1 _ _ hzq5) (by decide) (by decide) ob78 rfl wX11_268 rfl rfl (Nat.le_of_ble_eq_true rfl) hl.1 ⟨Nat.zero_le _, Nat.zero_le _⟩ (dk DX11_batter 7 rfl) (fun H locs hR => ?_)
  obtain ⟨xq9, mq7, hzq8, hF⟩ := bnd_ex hF
  refine r_callSi (As := [.int xq3, .int (gI mq1 79 11), .int (b2i zq6)]) (rest := []) C hR (C_M_batting l hl0 G xq3 (gI mq1 79 11) zq6 mq4 _ _ hzq8) (by decide) (by decide) wX11_271 rfl rfl (Nat.le_of_ble_eq_true rfl) hl.1 ⟨Nat.zero_le _, Nat.zero_le _⟩ (dk DX11_batter 8 rfl) (fun H locs hR => ?_)
  cases hF
  exact r_iret C hrt hR (dk DX11_batter 9 rfl)
set_option maxHeartbeats 4000000 in
set_option maxRecDepth 100000 in
theorem C_M_leadOf (l : Launch) (hl0 : l.stackTraces = false) (G : GG) (a1 : Int32) (m0 : Mem) (v : Int32) (m' : Mem) (hF : F_M_leadOf a1 m0 = some (v, m')) : Ct l G mr0 N0 yX11_leadOf cX11_leadOf 2 (some .int) 1 [.ref (G.2.1 + 78), .int a1] m0 (some (.int v)) m' := by
  refine Ct_of hl0 (by decide) (Nat.le_of_ble_eq_true rfl) ?_
  intro p e s mid args below meth c ls C hrt hl hR
  have hx := C.1.1
  have hb := C.1.2.1
  have hl : lv_has ls 2 [(0, .ref (G.2.1 + 78)), (1, .int a1)] := hl
  unfold F_M_leadOf at hF
  refine lv_aload_n hx hb (dk DX11_leadOf 0 rfl) rfl (lv_at hl 0 rfl) ?_
  refine gX11_13 C hR ob78 rf78_1 (dk DX11_leadOf 1 rfl) ?_
  refine lv_bipush (v := (15 : Int32)) hx hb (dk DX11_leadOf 2 rfl) (by decide) ?_
  refine lv_iload_n hx hb (dk DX11_leadOf 3 rfl) rfl (lv_at hl 1 rfl) ?_
  refine lv_iadd hx hb (dk DX11_leadOf 4 rfl) ?_
  obtain ⟨hq1, hF⟩ := ckB_ex hF
  refine r_iald C hR ob79 hq1 (dk DX11_leadOf 5 rfl) ?_
  refine lv_topi (fun xq2 exq2 => ?_)
  have hF := lt_at exq2 hF
  refine lv_aload_n hx hb (dk DX11_leadOf 6 rfl) rfl (lv_at hl 0 rfl) ?_
  refine gX11_13 C hR ob78 rf78_1 (dk DX11_leadOf 7 rfl) ?_
  refine lv_bipush (v := (16 : Int32)) hx hb (dk DX11_leadOf 8 rfl) (by decide) ?_
  refine lv_iload_n hx hb (dk DX11_leadOf 9 rfl) rfl (lv_at hl 1 rfl) ?_
  refine lv_isub hx hb (dk DX11_leadOf 10 rfl) ?_
  obtain ⟨hq3, hF⟩ := ckB_ex hF
  refine r_iald C hR ob79 hq3 (dk DX11_leadOf 11 rfl) ?_
  refine lv_topi (fun xq4 exq4 => ?_)
  have hF := lt_at exq4 hF
  refine lv_isub hx hb (dk DX11_leadOf 12 rfl) ?_
  cases hF
  exact r_iret C hrt hR (dk DX11_leadOf 13 rfl)
set_option maxHeartbeats 4000000 in
set_option maxRecDepth 100000 in
theorem C_M_mostRuns (l : Launch) (hl0 : l.stackTraces = false) (G : GG) (m0 : Mem) (v : Int32) (m' : Mem) (hF : F_M_mostRuns m0 = some (v, m')) : Ct l G mr0 N0 yX11_mostRuns cX11_mostRuns 3 (some .int) 1 [.ref (G.2.1 + 78)] m0 (some (.int v)) m' := by
  refine Ct_of hl0 (by decide) (Nat.le_of_ble_eq_true rfl) ?_
  intro p e s mid args below meth c ls C hrt hl hR
  have hx := C.1.1
  have hb := C.1.2.1
  have hl : lv_has ls 3 [(0, .ref (G.2.1 + 78))] := hl
  unfold F_M_mostRuns at hF
  refine lv_iconst (v := (0 : Int32)) hx hb (dk DX11_mostRuns 0 rfl) (by decide) ?_
  refine lv_istore_n (lv' := [(1, .int (0 : Int32)), (0, .ref (G.2.1 + 78))]) hx hb (dk DX11_mostRuns 1 rfl) rfl hl (by decide) rfl (fun ls hl => ?_)
  refine lv_iconst (v := (0 : Int32)) hx hb (dk DX11_mostRuns 2 rfl) (by decide) ?_
  refine lv_istore_n (lv' := [(2, .int (0 : Int32)), (1, .int (0 : Int32)), (0, .ref (G.2.1 + 78))]) hx hb (dk DX11_mostRuns 3 rfl) rfl hl (by decide) rfl (fun ls hl => ?_)
  have L4 : ∀ (nf : Nat) (xq2 : Int32) (xq3 : Int32) (mq1 : Mem) (H : Heap) (locs : List Loc) (ls : Array Slot), lv_has ls 3 [(0, .ref (G.2.1 + 78)), (1, .int xq2), (2, .int xq3)] → Rp G mr0 N0 mq1 s H locs → F_M_mostRuns_L4 nf xq2 xq3 mq1 = some (v, m') → W p l e (rmD 1) s mid args below meth c H locs 0 0 (MQ below (QR G mr0 N0 (some (.int v)) m') args s 0 0 (fun q => G.2.1 ≤ q)) (F0 mid 4 ls []) := by
    intro nf
    induction nf with
    | zero =>
      intro xq2 xq3 mq1 H locs ls hl hR hF
      rw [F_M_mostRuns_L4] at hF
      cases hF
    | succ nf ihq5 =>
      intro xq2 xq3 mq1 H locs ls hl hR hF
      rw [F_M_mostRuns_L4] at hF
      refine lv_iload_n hx hb (dk DX11_mostRuns 4 rfl) rfl (lv_at hl 2 rfl) ?_
      refine lv_bipush (v := (16 : Int32)) hx hb (dk DX11_mostRuns 5 rfl) (by decide) ?_
      refine lv_icmp_ge (tgt := 32) hx hb (dk DX11_mostRuns 6 rfl) (by decide) (fun c7 => ?_) (fun c7 => ?_)
      · have hF := if_t c7 hF
        refine lv_iload_n hx hb (dk DX11_mostRuns 20 rfl) rfl (lv_at hl 1 rfl) ?_
        cases hF
        exact r_iret C hrt hR (dk DX11_mostRuns 21 rfl)
      · have hF := if_f c7 hF
        refine lv_iload_n hx hb (dk DX11_mostRuns 7 rfl) rfl (lv_at hl 1 rfl) ?_
        refine lv_aload_n hx hb (dk DX11_mostRuns 8 rfl) rfl (lv_at hl 0 rfl) ?_
        refine gX11_13 C hR ob78 rf78_1 (dk DX11_mostRuns 9 rfl) ?_
        refine lv_bipush (v := (23 : Int32)) hx hb (dk DX11_mostRuns 10 rfl) (by decide) ?_
        refine lv_iconst (v := (2 : Int32)) hx hb (dk DX11_mostRuns 11 rfl) (by decide) ?_
        refine lv_iload_n hx hb (dk DX11_mostRuns 12 rfl) rfl (lv_at hl 2 rfl) ?_
        refine lv_imul hx hb (dk DX11_mostRuns 13 rfl) ?_
        refine lv_iadd hx hb (dk DX11_mostRuns 14 rfl) ?_
        obtain ⟨hq6, hF⟩ := ckB_ex hF
        refine r_iald C hR ob79 hq6 (dk DX11_mostRuns 15 rfl) ?_
        refine lv_topi (fun xq7 exq7 => ?_)
        have hF := lt_at exq7 hF
        refine r_mxI C (gd q2017 rfl) (by decide) (Nat.le_of_ble_eq_true rfl) hl.1 ⟨Nat.zero_le _, Nat.zero_le _⟩ (dk DX11_mostRuns 16 rfl) ?_
        refine lv_topi (fun xq8 exq8 => ?_)
        have hF := lt_at exq8 hF
        refine lv_istore_n (lv' := [(1, .int xq8), (0, .ref (G.2.1 + 78)), (2, .int xq3)]) hx hb (dk DX11_mostRuns 17 rfl) rfl hl (by decide) rfl (fun ls hl => ?_)
        obtain ⟨xq9, exq9, hF⟩ := lt_ex hF
        refine lv_iinc (v := xq9) (lv' := [(2, .int xq9), (1, .int xq8), (0, .ref (G.2.1 + 78))]) hx hb (dk DX11_mostRuns 18 rfl) hl (k := 2) rfl (by rw [exq9]; rfl) (by decide) rfl (fun ls hl => ?_)
        refine lv_goto (tgt := 4) hx hb (dk DX11_mostRuns 19 rfl) (by decide) ?_
        exact ihq5 xq8 xq9 mq1 _ _ ls (lv_sub hl [2, 1, 0] rfl) hR hF
  exact L4 1000000 (0 : Int32) (0 : Int32) m0 _ _ ls (lv_sub hl [2, 1, 0] rfl) hR hF
set_option maxHeartbeats 4000000 in
set_option maxRecDepth 100000 in
theorem C_M_size (l : Launch) (hl0 : l.stackTraces = false) (G : GG) (m0 : Mem) (v : Int32) (m' : Mem) (hF : F_M_size m0 = some (v, m')) : Ct l G mr0 N0 yX11_size cX11_size 1 (some .int) 1 [.ref (G.2.1 + 78)] m0 (some (.int v)) m' := by
  refine Ct_of hl0 (by decide) (Nat.le_of_ble_eq_true rfl) ?_
  intro p e s mid args below meth c ls C hrt hl hR
  have hx := C.1.1
  have hb := C.1.2.1
  have hl : lv_has ls 1 [(0, .ref (G.2.1 + 78))] := hl
  unfold F_M_size at hF
  refine lv_aload_n hx hb (dk DX11_size 0 rfl) rfl (lv_at hl 0 rfl) ?_
  refine gX11_13 C hR ob78 rf78_1 (dk DX11_size 1 rfl) ?_
  refine lv_iconst (v := (0 : Int32)) hx hb (dk DX11_size 2 rfl) (by decide) ?_
  refine r_iald C hR ob79 rfl (dk DX11_size 3 rfl) ?_
  cases hF
  exact r_iret C hrt hR (dk DX11_size 4 rfl)
set_option maxHeartbeats 4000000 in
set_option maxRecDepth 100000 in
theorem C_M_inningsOf (l : Launch) (hl0 : l.stackTraces = false) (G : GG) (a0 : Int32) (m0 : Mem) (v : Int32) (m' : Mem) (hF : F_M_inningsOf a0 m0 = some (v, m')) : Ct l G mr0 N0 yX11_inningsOf cX11_inningsOf 1 (some .int) 1 [.int a0] m0 (some (.int v)) m' := by
  refine Ct_of hl0 (by decide) (Nat.le_of_ble_eq_true rfl) ?_
  intro p e s mid args below meth c ls C hrt hl hR
  have hx := C.1.1
  have hb := C.1.2.1
  have hl : lv_has ls 1 [(0, .int a0)] := hl
  unfold F_M_inningsOf at hF
  refine lv_iload_n hx hb (dk DX11_inningsOf 0 rfl) rfl (lv_at hl 0 rfl) ?_
  refine lv_iconst (v := (2 : Int32)) hx hb (dk DX11_inningsOf 1 rfl) (by decide) ?_
  refine lv_icmp_ge (tgt := 9) hx hb (dk DX11_inningsOf 2 rfl) (by decide) (fun c2 => ?_) (fun c2 => ?_)
  · have hF := if_t c2 hF
    refine lv_iload_n hx hb (dk DX11_inningsOf 5 rfl) rfl (lv_at hl 0 rfl) ?_
    refine lv_iconst (v := (4 : Int32)) hx hb (dk DX11_inningsOf 6 rfl) (by decide) ?_
    refine lv_icmp_ge (tgt := 18) hx hb (dk DX11_inningsOf 7 rfl) (by decide) (fun c11 => ?_) (fun c11 => ?_)
    · have hF := if_t c11 hF
      refine lv_iconst (v := (3 : Int32)) hx hb (dk DX11_inningsOf 10 rfl) (by decide) ?_
      cases hF
      exact r_iret C hrt hR (dk DX11_inningsOf 11 rfl)
    · have hF := if_f c11 hF
      refine lv_iconst (v := (2 : Int32)) hx hb (dk DX11_inningsOf 8 rfl) (by decide) ?_
      refine lv_goto (tgt := 19) hx hb (dk DX11_inningsOf 9 rfl) (by decide) ?_
      cases hF
      exact r_iret C hrt hR (dk DX11_inningsOf 11 rfl)
  · have hF := if_f c2 hF
    refine lv_iload_n hx hb (dk DX11_inningsOf 3 rfl) rfl (lv_at hl 0 rfl) ?_
    refine lv_goto (tgt := 19) hx hb (dk DX11_inningsOf 4 rfl) (by decide) ?_
    cases hF
    exact r_iret C hrt hR (dk DX11_inningsOf 11 rfl)
set_option maxHeartbeats 4000000 in
set_option maxRecDepth 100000 in
theorem C_M_isBehind (l : Launch) (hl0 : l.stackTraces = false) (G : GG) (a0 : Int32) (m0 : Mem) (v : Bool) (m' : Mem) (hF : F_M_isBehind a0 m0 = some (v, m')) : Ct l G mr0 N0 yX11_isBehind cX11_isBehind 1 (some .boolean) 1 [.int a0] m0 (some (.int (b2i v))) m' := by
  refine Ct_of hl0 (by decide) (Nat.le_of_ble_eq_true rfl) ?_
  intro p e s mid args below meth c ls C hrt hl hR
  have hx := C.1.1
  have hb := C.1.2.1
  have hl : lv_has ls 1 [(0, .int a0)] := hl
  unfold F_M_isBehind at hF
  refine lv_iload_n hx hb (dk DX11_isBehind 0 rfl) rfl (lv_at hl 0 rfl) ?_
  refine lv_iconst (v := (3 : Int32)) hx hb (dk DX11_isBehind 1 rfl) (by decide) ?_
  refine lv_icmp_eq (tgt := 10) hx hb (dk DX11_isBehind 2 rfl) (by decide) (fun c2 => ?_) (fun c2 => ?_)
  · have hF := if_t c2 hF
    refine lv_iconst (v := (1 : Int32)) hx hb (dk DX11_isBehind 6 rfl) (by decide) ?_
    refine lv_goto (tgt := 15) hx hb (dk DX11_isBehind 7 rfl) (by decide) ?_
    cases hF
    exact r_zret C hrt hR (dk DX11_isBehind 9 rfl)
  · have hF := if_f c2 hF
    refine lv_iload_n hx hb (dk DX11_isBehind 3 rfl) rfl (lv_at hl 0 rfl) ?_
    refine lv_iconst (v := (5 : Int32)) hx hb (dk DX11_isBehind 4 rfl) (by decide) ?_
    refine lv_icmp_ne (tgt := 14) hx hb (dk DX11_isBehind 5 rfl) (by decide) (fun c7 => ?_) (fun c7 => ?_)
    · have hF := if_f c7 hF
      refine lv_iconst (v := (0 : Int32)) hx hb (dk DX11_isBehind 8 rfl) (by decide) ?_
      cases hF
      exact r_zret C hrt hR (dk DX11_isBehind 9 rfl)
    · have hF := if_t c7 hF
      refine lv_iconst (v := (1 : Int32)) hx hb (dk DX11_isBehind 6 rfl) (by decide) ?_
      refine lv_goto (tgt := 15) hx hb (dk DX11_isBehind 7 rfl) (by decide) ?_
      cases hF
      exact r_zret C hrt hR (dk DX11_isBehind 9 rfl)
set_option maxHeartbeats 4000000 in
set_option maxRecDepth 100000 in
theorem C_M_factOf (l : Launch) (hl0 : l.stackTraces = false) (G : GG) (a1 : Int32) (a2 : Int32) (a3 : Int32) (a4 : Int32) (a5 : Int32) (m0 : Mem) (v : Int32) (m' : Mem) (hF : F_M_factOf a1 a2 a3 a4 a5 m0 = some (v, m')) : Ct l G mr0 N0 yX11_factOf cX11_factOf 6 (some .int) 1 [.ref (G.2.1 + 78), .int a1, .int a2, .int a3, .int a4, .int a5] m0 (some (.int v)) m' := by
  refine Ct_of hl0 (by decide) (Nat.le_of_ble_eq_true rfl) ?_
  intro p e s mid args below meth c ls C hrt hl hR
  have hx := C.1.1
  have hb := C.1.2.1
  have hl : lv_has ls 6 [(0, .ref (G.2.1 + 78)), (1, .int a1), (2, .int a2), (3, .int a3), (4, .int a4), (5, .int a5)] := hl
  unfold F_M_factOf at hF
  refine lv_iload_n hx hb (dk DX11_factOf 0 rfl) rfl (lv_at hl 1 rfl) ?_
  by_cases d0 : a1 = (0 : Int32)
  · have hF := if_t d0 hF
    refine lv_tableIn (tgt := 48) hx hb (dk DX11_factOf 1 rfl) (by rw [d0]; decide) (by rw [d0]; decide) (by rw [d0]; rfl) (by decide) ?_
    refine lv_iload_n hx hb (dk DX11_factOf 2 rfl) rfl (lv_at hl 3 rfl) ?_
    cases hF
    exact r_iret C hrt hR (dk DX11_factOf 3 rfl)
  · have hF := if_f d0 hF
    by_cases d1 : a1 = (1 : Int32)
    · have hF := if_t d1 hF
      refine lv_tableIn (tgt := 50) hx hb (dk DX11_factOf 1 rfl) (by rw [d1]; decide) (by rw [d1]; decide) (by rw [d1]; rfl) (by decide) ?_
      refine lv_iload_n hx hb (dk DX11_factOf 4 rfl) rfl (lv_at hl 3 rfl) ?_
      refine lv_iconst (v := (3 : Int32)) hx hb (dk DX11_factOf 5 rfl) (by decide) ?_
      refine lv_idiv hx hb (dk DX11_factOf 6 rfl) (by decide) ?_
      cases hF
      exact r_iret C hrt hR (dk DX11_factOf 7 rfl)
    · have hF := if_f d1 hF
      by_cases d2 : a1 = (2 : Int32)
      · have hF := if_t d2 hF
        refine lv_tableIn (tgt := 54) hx hb (dk DX11_factOf 1 rfl) (by rw [d2]; decide) (by rw [d2]; decide) (by rw [d2]; rfl) (by decide) ?_
        refine lv_iload hx hb (dk DX11_factOf 8 rfl) (lv_at hl 4 rfl) ?_
        cases hF
        exact r_iret C hrt hR (dk DX11_factOf 9 rfl)
      · have hF := if_f d2 hF
        by_cases d3 : a1 = (3 : Int32)
        · have hF := if_t d3 hF
          refine lv_tableIn (tgt := 57) hx hb (dk DX11_factOf 1 rfl) (by rw [d3]; decide) (by rw [d3]; decide) (by rw [d3]; rfl) (by decide) ?_
          refine lv_iload hx hb (dk DX11_factOf 10 rfl) (lv_at hl 5 rfl) ?_
          cases hF
          exact r_iret C hrt hR (dk DX11_factOf 11 rfl)
        · have hF := if_f d3 hF
          by_cases d4 : a1 = (4 : Int32)
          · have hF := if_t d4 hF
            refine lv_tableIn (tgt := 60) hx hb (dk DX11_factOf 1 rfl) (by rw [d4]; decide) (by rw [d4]; decide) (by rw [d4]; rfl) (by decide) ?_
            refine lv_aload_n hx hb (dk DX11_factOf 12 rfl) rfl (lv_at hl 0 rfl) ?_
            refine gX11_13 C hR ob78 rf78_1 (dk DX11_factOf 13 rfl) ?_
            refine lv_bipush (v := (19 : Int32)) hx hb (dk DX11_factOf 14 rfl) (by decide) ?_
            refine lv_iconst (v := (2 : Int32)) hx hb (dk DX11_factOf 15 rfl) (by decide) ?_
            refine lv_iload hx hb (dk DX11_factOf 16 rfl) (lv_at hl 5 rfl) ?_
            refine lv_imul hx hb (dk DX11_factOf 17 rfl) ?_
            refine lv_iadd hx hb (dk DX11_factOf 18 rfl) ?_
            obtain ⟨hq1, hF⟩ := ckB_ex hF
            refine r_iald C hR ob79 hq1 (dk DX11_factOf 19 rfl) ?_
            refine lv_topi (fun xq2 exq2 => ?_)
            have hF := lt_at exq2 hF
            cases hF
            exact r_iret C hrt hR (dk DX11_factOf 20 rfl)
          · have hF := if_f d4 hF
            by_cases d5 : a1 = (5 : Int32)
            · have hF := if_t d5 hF
              refine lv_tableIn (tgt := 73) hx hb (dk DX11_factOf 1 rfl) (by rw [d5]; decide) (by rw [d5]; decide) (by rw [d5]; rfl) (by decide) ?_
              refine lv_aload_n hx hb (dk DX11_factOf 21 rfl) rfl (lv_at hl 0 rfl) ?_
              refine gX11_13 C hR ob78 rf78_1 (dk DX11_factOf 22 rfl) ?_
              refine lv_bipush (v := (19 : Int32)) hx hb (dk DX11_factOf 23 rfl) (by decide) ?_
              refine lv_iconst (v := (2 : Int32)) hx hb (dk DX11_factOf 24 rfl) (by decide) ?_
              refine lv_iconst (v := (1 : Int32)) hx hb (dk DX11_factOf 25 rfl) (by decide) ?_
              refine lv_iload hx hb (dk DX11_factOf 26 rfl) (lv_at hl 5 rfl) ?_
              refine lv_isub hx hb (dk DX11_factOf 27 rfl) ?_
              refine lv_imul hx hb (dk DX11_factOf 28 rfl) ?_
              refine lv_iadd hx hb (dk DX11_factOf 29 rfl) ?_
              refine lv_topi (fun xq3 exq3 => ?_)
              have hF := lt_at exq3 hF
              refine lv_iconst (v := (1 : Int32)) hx hb (dk DX11_factOf 30 rfl) (by decide) ?_
              refine lv_iadd hx hb (dk DX11_factOf 31 rfl) ?_
              obtain ⟨hq4, hF⟩ := ckB_ex hF
              refine r_iald C hR ob79 hq4 (dk DX11_factOf 32 rfl) ?_
              refine lv_topi (fun xq5 exq5 => ?_)
              have hF := lt_at exq5 hF
              cases hF
              exact r_iret C hrt hR (dk DX11_factOf 33 rfl)
            · have hF := if_f d5 hF
              by_cases d6 : a1 = (6 : Int32)
              · have hF := if_t d6 hF
                refine lv_tableIn (tgt := 90) hx hb (dk DX11_factOf 1 rfl) (by rw [d6]; decide) (by rw [d6]; decide) (by rw [d6]; rfl) (by decide) ?_
                refine lv_aload_n hx hb (dk DX11_factOf 34 rfl) rfl (lv_at hl 0 rfl) ?_
                refine gX11_13 C hR ob78 rf78_1 (dk DX11_factOf 35 rfl) ?_
                refine lv_bipush (v := (6 : Int32)) hx hb (dk DX11_factOf 36 rfl) (by decide) ?_
                refine r_iald C hR ob79 rfl (dk DX11_factOf 37 rfl) ?_
                refine lv_iload_n hx hb (dk DX11_factOf 38 rfl) rfl (lv_at hl 3 rfl) ?_
                refine lv_ishr hx hb (dk DX11_factOf 39 rfl) ?_
                refine lv_iconst (v := (1 : Int32)) hx hb (dk DX11_factOf 40 rfl) (by decide) ?_
                refine lv_iand hx hb (dk DX11_factOf 41 rfl) ?_
                cases hF
                exact r_iret C hrt hR (dk DX11_factOf 42 rfl)
              · have hF := if_f d6 hF
                by_cases d7 : a1 = (7 : Int32)
                · have hF := if_t d7 hF
                  refine lv_tableIn (tgt := 102) hx hb (dk DX11_factOf 1 rfl) (by rw [d7]; decide) (by rw [d7]; decide) (by rw [d7]; rfl) (by decide) ?_
                  refine lv_aload_n hx hb (dk DX11_factOf 43 rfl) rfl (lv_at hl 0 rfl) ?_
                  refine gX11_13 C hR ob78 rf78_1 (dk DX11_factOf 44 rfl) ?_
                  refine lv_bipush (v := (7 : Int32)) hx hb (dk DX11_factOf 45 rfl) (by decide) ?_
                  refine r_iald C hR ob79 rfl (dk DX11_factOf 46 rfl) ?_
                  refine lv_iload_n hx hb (dk DX11_factOf 47 rfl) rfl (lv_at hl 3 rfl) ?_
                  refine lv_ishr hx hb (dk DX11_factOf 48 rfl) ?_
                  refine lv_iconst (v := (1 : Int32)) hx hb (dk DX11_factOf 49 rfl) (by decide) ?_
                  refine lv_iand hx hb (dk DX11_factOf 50 rfl) ?_
                  cases hF
                  exact r_iret C hrt hR (dk DX11_factOf 51 rfl)
                · have hF := if_f d7 hF
                  have n0 := i32_ne d0 (z := 0) rfl
                  have n1 := i32_ne d1 (z := 1) rfl
                  have n2 := i32_ne d2 (z := 2) rfl
                  have n3 := i32_ne d3 (z := 3) rfl
                  have n4 := i32_ne d4 (z := 4) rfl
                  have n5 := i32_ne d5 (z := 5) rfl
                  have n6 := i32_ne d6 (z := 6) rfl
                  have n7 := i32_ne d7 (z := 7) rfl
                  refine lv_tableOut (tgt := 114) hx hb (dk DX11_factOf 1 rfl) (by omega) (by decide) ?_
                  refine lv_iload_n hx hb (dk DX11_factOf 52 rfl) rfl (lv_at hl 2 rfl) ?_
                  cases hF
                  exact r_iret C hrt hR (dk DX11_factOf 53 rfl)
set_option maxHeartbeats 4000000 in
set_option maxRecDepth 100000 in
theorem C_M_holdsLine (l : Launch) (hl0 : l.stackTraces = false) (G : GG) (a1 : Int32) (a2 : Int32) (a3 : Int32) (a4 : Int32) (m0 : Mem) (v : Bool) (m' : Mem) (hF : F_M_holdsLine a1 a2 a3 a4 m0 = some (v, m')) : Ct l G mr0 N0 yX11_holdsLine cX11_holdsLine 12 (some .boolean) 2 [.ref (G.2.1 + 78), .int a1, .int a2, .int a3, .int a4] m0 (some (.int (b2i v))) m' := by
  refine Ct_of hl0 (by decide) (Nat.le_of_ble_eq_true rfl) ?_
  intro p e s mid args below meth c ls C hrt hl hR
  have hx := C.1.1
  have hb := C.1.2.1
  have hl : lv_has ls 12 [(0, .ref (G.2.1 + 78)), (1, .int a1), (2, .int a2), (3, .int a3), (4, .int a4)] := hl
  unfold F_M_holdsLine at hF
  refine lv_iconst (v := (0 : Int32)) hx hb (dk DX11_holdsLine 0 rfl) (by decide) ?_
  refine lv_istore (lv' := [(5, .int (0 : Int32)), (0, .ref (G.2.1 + 78)), (1, .int a1), (2, .int a2), (3, .int a3), (4, .int a4)]) hx hb (dk DX11_holdsLine 1 rfl) hl (by decide) rfl (fun ls hl => ?_)
  refine lv_sipush (v := (299 : Int32)) hx hb (dk DX11_holdsLine 2 rfl) (by decide) ?_
  refine lv_iconst (v := (3 : Int32)) hx hb (dk DX11_holdsLine 3 rfl) (by decide) ?_
  refine lv_iload_n hx hb (dk DX11_holdsLine 4 rfl) rfl (lv_at hl 2 rfl) ?_
  refine lv_imul hx hb (dk DX11_holdsLine 5 rfl) ?_
  refine lv_iadd hx hb (dk DX11_holdsLine 6 rfl) ?_
  refine lv_topi (fun xq1 exq1 => ?_)
  have hF := lt_at exq1 hF
  refine lv_istore (lv' := [(6, .int xq1), (5, .int (0 : Int32)), (0, .ref (G.2.1 + 78)), (1, .int a1), (2, .int a2), (3, .int a3), (4, .int a4)]) hx hb (dk DX11_holdsLine 7 rfl) hl (by decide) rfl (fun ls hl => ?_)
  refine lv_aload_n hx hb (dk DX11_holdsLine 8 rfl) rfl (lv_at hl 2 rfl) ?_
  refine gX11_13 C hR ob78 rf78_1 (dk DX11_holdsLine 9 rfl) ?_
  refine lv_iload hx hb (dk DX11_holdsLine 10 rfl) (lv_at hl 0 rfl) ?_
  refine lv_iconst (v := (1 : Int32)) hx hb (dk DX11_holdsLine 11 rfl) (by decide) ?_
  refine lv_iadd hx hb (dk DX11_holdsLine 12 rfl) ?_
  obtain ⟨hq2, hF⟩ := ckB_ex hF
  refine r_iald C hR ob79 hq2 (dk DX11_holdsLine 13 rfl) ?_
  refine lv_topi (fun xq3 exq3 => ?_)
  have hF := lt_at exq3 hF
  refine lv_istore (lv' := [(7, .int xq3), (6, .int xq1), (5, .int (0 : Int32)), (0, .ref (G.2.1 + 78)), (1, .int a1), (2, .int a2), (3, .int a3), (4, .int a4)]) hx hb (dk DX11_holdsLine 14 rfl) hl (by decide) rfl (fun ls hl => ?_)
  obtain ⟨k273_5, ek273_5, hF⟩ := lt_ex hF
  have J273 : ∀ (xq5 : Int32) (mq4 : Mem) (H : Heap) (locs : List Loc) (ls : Array Slot), lv_has ls 12 [(0, .ref (G.2.1 + 78)), (5, .int xq5)] → Rp G mr0 N0 mq4 s H locs → k273_5 xq5 mq4 = some (v, m') → W p l e (rmD 2) s mid args below meth c H locs 0 0 (MQ below (QR G mr0 N0 (some (.int (b2i v))) m') args s 0 0 (fun q => G.2.1 ≤ q)) (F0 mid 273 ls []) := by
    intro xq5 mq4 H locs ls hl hR hF
    rw [ek273_5] at hF
    refine lv_iload hx hb (dk DX11_holdsLine 148 rfl) (lv_at hl 1 rfl) ?_
    refine lv_if_eq (tgt := 288) hx hb (dk DX11_holdsLine 149 rfl) (by decide) (fun c275 => ?_) (fun c275 => ?_)
    · have hF := if_t c275 hF
      refine lv_iconst (v := (1 : Int32)) hx hb (dk DX11_holdsLine 156 rfl) (by decide) ?_
      refine lv_goto (tgt := 293) hx hb (dk DX11_holdsLine 157 rfl) (by decide) ?_
      cases hF
      exact r_zret C hrt hR (dk DX11_holdsLine 159 rfl)
    · have hF := if_f c275 hF
      refine lv_aload_n hx hb (dk DX11_holdsLine 150 rfl) rfl (lv_at hl 0 rfl) ?_
      refine gX11_36 C hR ob78 rf78_16 (dk DX11_holdsLine 151 rfl) ?_
      refine lv_iconst (v := (0 : Int32)) hx hb (dk DX11_holdsLine 152 rfl) (by decide) ?_
      refine r_iald C hR ob85 rfl (dk DX11_holdsLine 153 rfl) ?_
      refine lv_iconst (v := (1 : Int32)) hx hb (dk DX11_holdsLine 154 rfl) (by decide) ?_
      refine lv_icmp_ne (tgt := 292) hx hb (dk DX11_holdsLine 155 rfl) (by decide) (fun c285 => ?_) (fun c285 => ?_)
      · have hF := if_f c285 hF
        refine lv_iconst (v := (0 : Int32)) hx hb (dk DX11_holdsLine 158 rfl) (by decide) ?_
        cases hF
        exact r_zret C hrt hR (dk DX11_holdsLine 159 rfl)
      · have hF := if_t c285 hF
        refine lv_iconst (v := (1 : Int32)) hx hb (dk DX11_holdsLine 156 rfl) (by decide) ?_
        refine lv_goto (tgt := 293) hx hb (dk DX11_holdsLine 157 rfl) (by decide) ?_
        cases hF
        exact r_zret C hrt hR (dk DX11_holdsLine 159 rfl)
  have L23 : ∀ (nf : Nat) (xq7 : Int32) (xq8 : Int32) (mq6 : Mem) (H : Heap) (locs : List Loc) (ls : Array Slot), lv_has ls 12 [(0, .ref (G.2.1 + 78)), (2, .int a2), (3, .int a3), (4, .int a4), (5, .int xq7), (6, .int xq1), (7, .int xq8)] → Rp G mr0 N0 mq6 s H locs → F_M_holdsLine_L23 a2 a3 a4 xq1 k273_5 nf xq7 xq8 mq6 = some (v, m') → W p l e (rmD 2) s mid args below meth c H locs 0 0 (MQ below (QR G mr0 N0 (some (.int (b2i v))) m') args s 0 0 (fun q => G.2.1 ≤ q)) (F0 mid 23 ls []) := by
    intro nf
    induction nf with
    | zero =>
      intro xq7 xq8 mq6 H locs ls hl hR hF
      rw [F_M_holdsLine_L23] at hF
      cases hF
    | succ nf ihq10 =>
      intro xq7 xq8 mq6 H locs ls hl hR hF
      rw [F_M_holdsLine_L23] at hF
      refine lv_iload hx hb (dk DX11_holdsLine 15 rfl) (lv_at hl 6 rfl) ?_
      refine lv_aload_n hx hb (dk DX11_holdsLine 16 rfl) rfl (lv_at hl 0 rfl) ?_
      refine gX11_13 C hR ob78 rf78_1 (dk DX11_holdsLine 17 rfl) ?_
      refine lv_iload hx hb (dk DX11_holdsLine 18 rfl) (lv_at hl 5 rfl) ?_
      refine lv_iconst (v := (2 : Int32)) hx hb (dk DX11_holdsLine 19 rfl) (by decide) ?_
      refine lv_iadd hx hb (dk DX11_holdsLine 20 rfl) ?_
      obtain ⟨hq11, hF⟩ := ckB_ex hF
      refine r_iald C hR ob79 hq11 (dk DX11_holdsLine 21 rfl) ?_
      refine lv_topi (fun xq12 exq12 => ?_)
      have hF := lt_at exq12 hF
      refine lv_icmp_ge (tgt := 273) hx hb (dk DX11_holdsLine 22 rfl) (by decide) (fun c34 => ?_) (fun c34 => ?_)
      · have hF := if_t c34 hF
        exact J273 xq7 mq6 _ _ ls (lv_sub hl [0, 4] rfl) hR hF
      · have hF := if_f c34 hF
        refine lv_aload_n hx hb (dk DX11_holdsLine 23 rfl) rfl (lv_at hl 0 rfl) ?_
        refine gX11_13 C hR ob78 rf78_1 (dk DX11_holdsLine 24 rfl) ?_
        refine lv_sipush (v := (335 : Int32)) hx hb (dk DX11_holdsLine 25 rfl) (by decide) ?_
        refine lv_iconst (v := (2 : Int32)) hx hb (dk DX11_holdsLine 26 rfl) (by decide) ?_
        refine lv_iload hx hb (dk DX11_holdsLine 27 rfl) (lv_at hl 6 rfl) ?_
        refine lv_imul hx hb (dk DX11_holdsLine 28 rfl) ?_
        refine lv_iadd hx hb (dk DX11_holdsLine 29 rfl) ?_
        obtain ⟨hq13, hF⟩ := ckB_ex hF
        refine r_iald C hR ob79 hq13 (dk DX11_holdsLine 30 rfl) ?_
        refine lv_topi (fun xq14 exq14 => ?_)
        have hF := lt_at exq14 hF
        refine lv_istore (lv' := [(8, .int xq14), (0, .ref (G.2.1 + 78)), (2, .int a2), (3, .int a3), (4, .int a4), (5, .int xq7), (6, .int xq1), (7, .int xq8)]) hx hb (dk DX11_holdsLine 31 rfl) hl (by decide) rfl (fun ls hl => ?_)
        refine lv_iload hx hb (dk DX11_holdsLine 32 rfl) (lv_at hl 0 rfl) ?_
        refine lv_bipush (v := (8 : Int32)) hx hb (dk DX11_holdsLine 33 rfl) (by decide) ?_
        obtain ⟨k267_16, ek267_16, hF⟩ := lt_ex hF
        have J267 : ∀ (xq16 : Int32) (mq15 : Mem) (H : Heap) (locs : List Loc) (ls : Array Slot), lv_has ls 12 [(0, .ref (G.2.1 + 78)), (2, .int a2), (3, .int a3), (4, .int a4), (5, .int xq16), (6, .int xq1), (7, .int xq8)] → Rp G mr0 N0 mq15 s H locs → k267_16 xq16 mq15 = some (v, m') → W p l e (rmD 2) s mid args below meth c H locs 0 0 (MQ below (QR G mr0 N0 (some (.int (b2i v))) m') args s 0 0 (fun q => G.2.1 ≤ q)) (F0 mid 267 ls []) := by
          intro xq16 mq15 H locs ls hl hR hF
          rw [ek267_16] at hF
          obtain ⟨xq17, exq17, hF⟩ := lt_ex hF
          refine lv_iinc (v := xq17) (lv' := [(7, .int xq17), (0, .ref (G.2.1 + 78)), (2, .int a2), (3, .int a3), (4, .int a4), (5, .int xq16), (6, .int xq1)]) hx hb (dk DX11_holdsLine 146 rfl) hl (k := 6) rfl (by rw [exq17]; rfl) (by decide) rfl (fun ls hl => ?_)
          refine lv_goto (tgt := 23) hx hb (dk DX11_holdsLine 147 rfl) (by decide) ?_
          exact ihq10 xq16 xq17 mq15 _ _ ls (lv_sub hl [1, 2, 3, 4, 5, 6, 0] rfl) hR hF
        refine lv_icmp_gt (tgt := 97) hx hb (dk DX11_holdsLine 34 rfl) (by decide) (fun c56 => ?_) (fun c56 => ?_)
        · have hF := if_t c56 hF
          refine lv_iload hx hb (dk DX11_holdsLine 57 rfl) (lv_at hl 0 rfl) ?_
          refine lv_bipush (v := (12 : Int32)) hx hb (dk DX11_holdsLine 58 rfl) (by decide) ?_
          refine lv_icmp_ne (tgt := 127) hx hb (dk DX11_holdsLine 59 rfl) (by decide) (fun c101 => ?_) (fun c101 => ?_)
          · have hF := if_f c101 hF
            obtain ⟨xq18, exq18, hF⟩ := lt_ex hF
            refine lv_iinc (v := xq18) (lv' := [(5, .int xq18), (8, .int xq14), (0, .ref (G.2.1 + 78)), (2, .int a2), (3, .int a3), (4, .int a4), (6, .int xq1), (7, .int xq8)]) hx hb (dk DX11_holdsLine 75 rfl) hl (k := 5) rfl (by rw [exq18]; rfl) (by decide) rfl (fun ls hl => ?_)
            refine lv_aload_n hx hb (dk DX11_holdsLine 76 rfl) rfl (lv_at hl 2 rfl) ?_
            refine gX11_36 C hR ob78 rf78_16 (dk DX11_holdsLine 77 rfl) ?_
            refine lv_iload hx hb (dk DX11_holdsLine 78 rfl) (lv_at hl 0 rfl) ?_
            refine lv_iconst (v := (1 : Int32)) hx hb (dk DX11_holdsLine 79 rfl) (by decide) ?_
            refine lv_isub hx hb (dk DX11_holdsLine 80 rfl) ?_
            obtain ⟨hq19, hF⟩ := ckB_ex hF
            refine r_iald C hR ob85 hq19 (dk DX11_holdsLine 81 rfl) ?_
            refine lv_topi (fun xq20 exq20 => ?_)
            have hF := lt_at exq20 hF
            refine lv_istore (lv' := [(9, .int xq20), (5, .int xq18), (8, .int xq14), (0, .ref (G.2.1 + 78)), (2, .int a2), (3, .int a3), (4, .int a4), (6, .int xq1), (7, .int xq8)]) hx hb (dk DX11_holdsLine 82 rfl) hl (by decide) rfl (fun ls hl => ?_)
            refine lv_aload_n hx hb (dk DX11_holdsLine 83 rfl) rfl (lv_at hl 3 rfl) ?_
            refine gX11_36 C hR ob78 rf78_16 (dk DX11_holdsLine 84 rfl) ?_
            refine lv_iload hx hb (dk DX11_holdsLine 85 rfl) (lv_at hl 1 rfl) ?_
            obtain ⟨hq21, hF⟩ := ckB_ex hF
            refine r_iald C hR ob85 hq21 (dk DX11_holdsLine 86 rfl) ?_
            refine lv_topi (fun xq22 exq22 => ?_)
            have hF := lt_at exq22 hF
            refine lv_istore (lv' := [(10, .int xq22), (9, .int xq20), (5, .int xq18), (8, .int xq14), (0, .ref (G.2.1 + 78)), (2, .int a2), (3, .int a3), (4, .int a4), (6, .int xq1), (7, .int xq8)]) hx hb (dk DX11_holdsLine 87 rfl) hl (by decide) rfl (fun ls hl => ?_)
            refine lv_iload hx hb (dk DX11_holdsLine 88 rfl) (lv_at hl 3 rfl) ?_
            refine lv_bipush (v := (10 : Int32)) hx hb (dk DX11_holdsLine 89 rfl) (by decide) ?_
            obtain ⟨k231_24, ek231_24, hF⟩ := lt_ex hF
            have J231 : ∀ (zq24 : Bool) (mq23 : Mem) (H : Heap) (locs : List Loc) (ls : Array Slot), lv_has ls 12 [(0, .ref (G.2.1 + 78)), (2, .int a2), (3, .int a3), (4, .int a4), (5, .int xq18), (6, .int xq1), (7, .int xq8), (8, .int xq14), (9, .int xq20), (10, .int xq22)] → Rp G mr0 N0 mq23 s H locs → k231_24 zq24 mq23 = some (v, m') → W p l e (rmD 2) s mid args below meth c H locs 0 0 (MQ below (QR G mr0 N0 (some (.int (b2i v))) m') args s 0 0 (fun q => G.2.1 ≤ q)) (F0 mid 231 ls [.int (b2i zq24)]) := by
              intro zq24 mq23 H locs ls hl hR hF
              rw [ek231_24] at hF
              refine lv_istore (lv' := [(11, .int (b2i zq24)), (0, .ref (G.2.1 + 78)), (2, .int a2), (3, .int a3), (4, .int a4), (5, .int xq18), (6, .int xq1), (7, .int xq8), (8, .int xq14), (9, .int xq20), (10, .int xq22)]) hx hb (dk DX11_holdsLine 127 rfl) hl (by decide) rfl (fun ls hl => ?_)
              refine lv_aload_n hx hb (dk DX11_holdsLine 128 rfl) rfl (lv_at hl 1 rfl) ?_
              refine gX11_36 C hR ob78 rf78_16 (dk DX11_holdsLine 129 rfl) ?_
              refine lv_iload hx hb (dk DX11_holdsLine 130 rfl) (lv_at hl 5 rfl) ?_
              refine lv_iconst (v := (1 : Int32)) hx hb (dk DX11_holdsLine 131 rfl) (by decide) ?_
              refine lv_isub hx hb (dk DX11_holdsLine 132 rfl) ?_
              refine lv_iload hx hb (dk DX11_holdsLine 133 rfl) (lv_at hl 8 rfl) ?_
              refine lv_bipush (v := (9 : Int32)) hx hb (dk DX11_holdsLine 134 rfl) (by decide) ?_
              obtain ⟨k266_26, ek266_26, hF⟩ := lt_ex hF
              have J266 : ∀ (xq26 : Int32) (mq25 : Mem) (H : Heap) (locs : List Loc) (ls : Array Slot), lv_has ls 12 [(0, .ref (G.2.1 + 78)), (2, .int a2), (3, .int a3), (4, .int a4), (5, .int xq18), (6, .int xq1), (7, .int xq8)] → Rp G mr0 N0 mq25 s H locs → k266_26 xq26 mq25 = some (v, m') → W p l e (rmD 2) s mid args below meth c H locs 0 0 (MQ below (QR G mr0 N0 (some (.int (b2i v))) m') args s 0 0 (fun q => G.2.1 ≤ q)) (F0 mid 266 ls [.int xq26, .int (xq18 - (1 : Int32)), .ref (G.2.1 + 85)]) := by
                intro xq26 mq25 H locs ls hl hR hF
                rw [ek266_26] at hF
                obtain ⟨hq28, hF⟩ := ckB_ex hF
                refine r_iast C hR ob85 hq28 (dk DX11_holdsLine 145 rfl) (fun H locs hR => ?_)
                obtain ⟨mq27, emq27, hF⟩ := lt_ex hF
                have hR := Rp_at emq27 hR
                exact J267 xq18 mq27 _ _ ls (lv_sub hl [0, 1, 2, 3, 4, 5, 6] rfl) hR hF
              refine lv_icmp_ne (tgt := 256) hx hb (dk DX11_holdsLine 135 rfl) (by decide) (fun c245 => ?_) (fun c245 => ?_)
              · have hF := if_f c245 hF
                refine lv_iload hx hb (dk DX11_holdsLine 140 rfl) (lv_at hl 0 rfl) ?_
                refine z_ifeq (tgt := 265) hx hb (dk DX11_holdsLine 141 rfl) (by decide) (fun c258 => ?_) (fun c258 => ?_)
                · have hF := if_f c258 hF
                  refine lv_iconst (v := (0 : Int32)) hx hb (dk DX11_holdsLine 144 rfl) (by decide) ?_
                  exact J266 (0 : Int32) mq23 _ _ ls (lv_sub hl [1, 2, 3, 4, 5, 6, 7] rfl) hR hF
                · have hF := if_t c258 hF
                  refine lv_iconst (v := (1 : Int32)) hx hb (dk DX11_holdsLine 142 rfl) (by decide) ?_
                  refine lv_goto (tgt := 266) hx hb (dk DX11_holdsLine 143 rfl) (by decide) ?_
                  exact J266 (1 : Int32) mq23 _ _ ls (lv_sub hl [1, 2, 3, 4, 5, 6, 7] rfl) hR hF
              · have hF := if_t c245 hF
                refine lv_iload hx hb (dk DX11_holdsLine 136 rfl) (lv_at hl 9 rfl) ?_
                refine lv_iload hx hb (dk DX11_holdsLine 137 rfl) (lv_at hl 10 rfl) ?_
                refine lv_iadd hx hb (dk DX11_holdsLine 138 rfl) ?_
                refine lv_goto (tgt := 266) hx hb (dk DX11_holdsLine 139 rfl) (by decide) ?_
                exact J266 (xq20 + xq22) mq23 _ _ ls (lv_sub hl [1, 2, 3, 4, 5, 6, 7] rfl) hR hF
            refine lv_icmp_ne (tgt := 172) hx hb (dk DX11_holdsLine 90 rfl) (by decide) (fun c154 => ?_) (fun c154 => ?_)
            · have hF := if_f c154 hF
              refine lv_iload hx hb (dk DX11_holdsLine 98 rfl) (lv_at hl 3 rfl) ?_
              refine lv_bipush (v := (11 : Int32)) hx hb (dk DX11_holdsLine 99 rfl) (by decide) ?_
              refine lv_icmp_ne (tgt := 194) hx hb (dk DX11_holdsLine 100 rfl) (by decide) (fun c176 => ?_) (fun c176 => ?_)
              · have hF := if_f c176 hF
                refine lv_iload hx hb (dk DX11_holdsLine 108 rfl) (lv_at hl 3 rfl) ?_
                refine lv_bipush (v := (13 : Int32)) hx hb (dk DX11_holdsLine 109 rfl) (by decide) ?_
                refine lv_icmp_ne (tgt := 218) hx hb (dk DX11_holdsLine 110 rfl) (by decide) (fun c198 => ?_) (fun c198 => ?_)
                · have hF := if_f c198 hF
                  refine lv_iload hx hb (dk DX11_holdsLine 120 rfl) (lv_at hl 1 rfl) ?_
                  refine lv_iload hx hb (dk DX11_holdsLine 121 rfl) (lv_at hl 0 rfl) ?_
                  refine lv_iadd hx hb (dk DX11_holdsLine 122 rfl) ?_
                  refine lv_if_le (tgt := 230) hx hb (dk DX11_holdsLine 123 rfl) (by decide) (fun c223 => ?_) (fun c223 => ?_)
                  · have hF := if_t c223 hF
                    refine lv_iconst (v := (0 : Int32)) hx hb (dk DX11_holdsLine 126 rfl) (by decide) ?_
                    exact J231 false mq6 _ _ ls (lv_sub hl [4, 5, 6, 7, 2, 8, 9, 3, 1, 0] rfl) hR hF
                  · have hF := if_f c223 hF
                    refine lv_iconst (v := (1 : Int32)) hx hb (dk DX11_holdsLine 124 rfl) (by decide) ?_
                    refine lv_goto (tgt := 231) hx hb (dk DX11_holdsLine 125 rfl) (by decide) ?_
                    exact J231 true mq6 _ _ ls (lv_sub hl [4, 5, 6, 7, 2, 8, 9, 3, 1, 0] rfl) hR hF
                · have hF := if_t c198 hF
                  refine lv_iload hx hb (dk DX11_holdsLine 111 rfl) (lv_at hl 1 rfl) ?_
                  refine lv_iload hx hb (dk DX11_holdsLine 112 rfl) (lv_at hl 0 rfl) ?_
                  refine lv_iadd hx hb (dk DX11_holdsLine 113 rfl) ?_
                  refine lv_iconst (v := (2 : Int32)) hx hb (dk DX11_holdsLine 114 rfl) (by decide) ?_
                  refine lv_icmp_ne (tgt := 214) hx hb (dk DX11_holdsLine 115 rfl) (by decide) (fun c207 => ?_) (fun c207 => ?_)
                  · have hF := if_f c207 hF
                    refine lv_iconst (v := (0 : Int32)) hx hb (dk DX11_holdsLine 118 rfl) (by decide) ?_
                    refine lv_goto (tgt := 231) hx hb (dk DX11_holdsLine 119 rfl) (by decide) ?_
                    exact J231 false mq6 _ _ ls (lv_sub hl [4, 5, 6, 7, 2, 8, 9, 3, 1, 0] rfl) hR hF
                  · have hF := if_t c207 hF
                    refine lv_iconst (v := (1 : Int32)) hx hb (dk DX11_holdsLine 116 rfl) (by decide) ?_
                    refine lv_goto (tgt := 231) hx hb (dk DX11_holdsLine 117 rfl) (by decide) ?_
                    exact J231 true mq6 _ _ ls (lv_sub hl [4, 5, 6, 7, 2, 8, 9, 3, 1, 0] rfl) hR hF
              · have hF := if_t c176 hF
                refine lv_iload hx hb (dk DX11_holdsLine 101 rfl) (lv_at hl 1 rfl) ?_
                refine lv_iload hx hb (dk DX11_holdsLine 102 rfl) (lv_at hl 0 rfl) ?_
                refine lv_icmp_le (tgt := 190) hx hb (dk DX11_holdsLine 103 rfl) (by decide) (fun c183 => ?_) (fun c183 => ?_)
                · have hF := if_t c183 hF
                  refine lv_iconst (v := (0 : Int32)) hx hb (dk DX11_holdsLine 106 rfl) (by decide) ?_
                  refine lv_goto (tgt := 231) hx hb (dk DX11_holdsLine 107 rfl) (by decide) ?_
                  exact J231 false mq6 _ _ ls (lv_sub hl [4, 5, 6, 7, 2, 8, 9, 3, 1, 0] rfl) hR hF
                · have hF := if_f c183 hF
                  refine lv_iconst (v := (1 : Int32)) hx hb (dk DX11_holdsLine 104 rfl) (by decide) ?_
                  refine lv_goto (tgt := 231) hx hb (dk DX11_holdsLine 105 rfl) (by decide) ?_
                  exact J231 true mq6 _ _ ls (lv_sub hl [4, 5, 6, 7, 2, 8, 9, 3, 1, 0] rfl) hR hF
            · have hF := if_t c154 hF
              refine lv_iload hx hb (dk DX11_holdsLine 91 rfl) (lv_at hl 1 rfl) ?_
              refine lv_iload hx hb (dk DX11_holdsLine 92 rfl) (lv_at hl 0 rfl) ?_
              refine lv_icmp_ge (tgt := 168) hx hb (dk DX11_holdsLine 93 rfl) (by decide) (fun c161 => ?_) (fun c161 => ?_)
              · have hF := if_t c161 hF
                refine lv_iconst (v := (0 : Int32)) hx hb (dk DX11_holdsLine 96 rfl) (by decide) ?_
                refine lv_goto (tgt := 231) hx hb (dk DX11_holdsLine 97 rfl) (by decide) ?_
                exact J231 false mq6 _ _ ls (lv_sub hl [4, 5, 6, 7, 2, 8, 9, 3, 1, 0] rfl) hR hF
              · have hF := if_f c161 hF
                refine lv_iconst (v := (1 : Int32)) hx hb (dk DX11_holdsLine 94 rfl) (by decide) ?_
                refine lv_goto (tgt := 231) hx hb (dk DX11_holdsLine 95 rfl) (by decide) ?_
                exact J231 true mq6 _ _ ls (lv_sub hl [4, 5, 6, 7, 2, 8, 9, 3, 1, 0] rfl) hR hF
          · have hF := if_t c101 hF
            refine lv_aload_n hx hb (dk DX11_holdsLine 60 rfl) rfl (lv_at hl 1 rfl) ?_
            refine gX11_36 C hR ob78 rf78_16 (dk DX11_holdsLine 61 rfl) ?_
            refine lv_iload hx hb (dk DX11_holdsLine 62 rfl) (lv_at hl 5 rfl) ?_
            refine lv_iconst (v := (1 : Int32)) hx hb (dk DX11_holdsLine 63 rfl) (by decide) ?_
            refine lv_isub hx hb (dk DX11_holdsLine 64 rfl) ?_
            refine lv_iconst (v := (1 : Int32)) hx hb (dk DX11_holdsLine 65 rfl) (by decide) ?_
            refine lv_aload_n hx hb (dk DX11_holdsLine 66 rfl) rfl (lv_at hl 1 rfl) ?_
            refine gX11_36 C hR ob78 rf78_16 (dk DX11_holdsLine 67 rfl) ?_
            refine lv_iload hx hb (dk DX11_holdsLine 68 rfl) (lv_at hl 5 rfl) ?_
            refine lv_iconst (v := (1 : Int32)) hx hb (dk DX11_holdsLine 69 rfl) (by decide) ?_
            refine lv_isub hx hb (dk DX11_holdsLine 70 rfl) ?_
            obtain ⟨hq29, hF⟩ := ckB_ex hF
            refine r_iald C hR ob85 hq29 (dk DX11_holdsLine 71 rfl) ?_
            refine lv_topi (fun xq30 exq30 => ?_)
            have hF := lt_at exq30 hF
            refine lv_isub hx hb (dk DX11_holdsLine 72 rfl) ?_
            obtain ⟨hq32, hF⟩ := ckB_ex hF
            refine r_iast C hR ob85 hq32 (dk DX11_holdsLine 73 rfl) (fun H locs hR => ?_)
            obtain ⟨mq31, emq31, hF⟩ := lt_ex hF
            have hR := Rp_at emq31 hR
            refine lv_goto (tgt := 267) hx hb (dk DX11_holdsLine 74 rfl) (by decide) ?_
            exact J267 xq7 mq31 _ _ ls (lv_sub hl [1, 2, 3, 4, 5, 6, 7] rfl) hR hF
        · have hF := if_f c56 hF
          refine lv_aload_n hx hb (dk DX11_holdsLine 35 rfl) rfl (lv_at hl 1 rfl) ?_
          refine gX11_36 C hR ob78 rf78_16 (dk DX11_holdsLine 36 rfl) ?_
          refine lv_iload hx hb (dk DX11_holdsLine 37 rfl) (lv_at hl 5 rfl) ?_
          refine lv_aload_n hx hb (dk DX11_holdsLine 38 rfl) rfl (lv_at hl 1 rfl) ?_
          refine lv_iload hx hb (dk DX11_holdsLine 39 rfl) (lv_at hl 0 rfl) ?_
          refine lv_aload_n hx hb (dk DX11_holdsLine 40 rfl) rfl (lv_at hl 1 rfl) ?_
          refine gX11_13 C hR ob78 rf78_1 (dk DX11_holdsLine 41 rfl) ?_
          refine lv_sipush (v := (335 : Int32)) hx hb (dk DX11_holdsLine 42 rfl) (by decide) ?_
          refine lv_iconst (v := (2 : Int32)) hx hb (dk DX11_holdsLine 43 rfl) (by decide) ?_
          refine lv_iload hx hb (dk DX11_holdsLine 44 rfl) (lv_at hl 7 rfl) ?_
          refine lv_imul hx hb (dk DX11_holdsLine 45 rfl) ?_
          refine lv_iadd hx hb (dk DX11_holdsLine 46 rfl) ?_
          refine lv_iconst (v := (1 : Int32)) hx hb (dk DX11_holdsLine 47 rfl) (by decide) ?_
          refine lv_iadd hx hb (dk DX11_holdsLine 48 rfl) ?_
          refine lv_topi (fun xq33 exq33 => ?_)
          have hF := lt_at exq33 hF
          obtain ⟨hq34, hF⟩ := ckB_ex hF
          refine r_iald C hR ob79 hq34 (dk DX11_holdsLine 49 rfl) ?_
          refine lv_topi (fun xq35 exq35 => ?_)
          have hF := lt_at exq35 hF
          refine lv_iload_n hx hb (dk DX11_holdsLine 50 rfl) rfl (lv_at hl 2 rfl) ?_
          refine lv_iload_n hx hb (dk DX11_holdsLine 51 rfl) rfl (lv_at hl 3 rfl) ?_
          refine lv_iload hx hb (dk DX11_holdsLine 52 rfl) (lv_at hl 4 rfl) ?_
          obtain ⟨xq38, mq36, hzq37, hF⟩ := bnd_ex hF
          refine r_callVi (As := [.int xq14, .int xq35, .int a2, .int a3, .int a4]) (rest := [.int xq7, .ref (G.2.1 + 85)]) C hR (C_M_factOf l hl0 G xq14 xq35 a2 a3 a4 mq6 _ _ hzq37) (by decide) (by decide) ob78 rfl wX11_230 rfl rfl (Nat.le_of_ble_eq_true rfl) hl.1 ⟨Nat.zero_le _, Nat.zero_le _⟩ (dk DX11_holdsLine 53 rfl) (fun H locs hR => ?_)
          obtain ⟨hq40, hF⟩ := ckB_ex hF
          refine r_iast C hR ob85 hq40 (dk DX11_holdsLine 54 rfl) (fun H locs hR => ?_)
          obtain ⟨mq39, emq39, hF⟩ := lt_ex hF
          have hR := Rp_at emq39 hR
          obtain ⟨xq41, exq41, hF⟩ := lt_ex hF
          refine lv_iinc (v := xq41) (lv' := [(5, .int xq41), (8, .int xq14), (0, .ref (G.2.1 + 78)), (2, .int a2), (3, .int a3), (4, .int a4), (6, .int xq1), (7, .int xq8)]) hx hb (dk DX11_holdsLine 55 rfl) hl (k := 5) rfl (by rw [exq41]; rfl) (by decide) rfl (fun ls hl => ?_)
          refine lv_goto (tgt := 267) hx hb (dk DX11_holdsLine 56 rfl) (by decide) ?_
          exact J267 xq41 mq39 _ _ ls (lv_sub hl [2, 3, 4, 5, 0, 6, 7] rfl) hR hF
  exact L23 1000000 (0 : Int32) xq3 m0 _ _ ls (lv_sub hl [3, 5, 6, 7, 2, 1, 0] rfl) hR hF
set_option maxHeartbeats 4000000 in
set_option maxRecDepth 100000 in
theorem C_M_levelOf (l : Launch) (hl0 : l.stackTraces = false) (G : GG) (a1 : Int32) (a2 : Int32) (a3 : Int32) (m0 : Mem) (v : Int32) (m' : Mem) (hF : F_M_levelOf a1 a2 a3 m0 = some (v, m')) : Ct l G mr0 N0 yX11_levelOf cX11_levelOf 6 (some .int) 3 [.ref (G.2.1 + 78), .int a1, .int a2, .int a3] m0 (some (.int v)) m' := by
  refine Ct_of hl0 (by decide) (Nat.le_of_ble_eq_true rfl) ?_
  intro p e s mid args below meth c ls C hrt hl hR
  have hx := C.1.1
  have hb := C.1.2.1
  have hl : lv_has ls 6 [(0, .ref (G.2.1 + 78)), (1, .int a1), (2, .int a2), (3, .int a3)] := hl
  unfold F_M_levelOf at hF
  refine lv_aload_n hx hb (dk DX11_levelOf 0 rfl) rfl (lv_at hl 0 rfl) ?_
  refine gX11_13 C hR ob78 rf78_1 (dk DX11_levelOf 1 rfl) ?_
  refine lv_iconst (v := (4 : Int32)) hx hb (dk DX11_levelOf 2 rfl) (by decide) ?_
  refine r_iald C hR ob79 rfl (dk DX11_levelOf 3 rfl) ?_
  refine lv_if_ne (tgt := 11) hx hb (dk DX11_levelOf 4 rfl) (by decide) (fun c6 => ?_) (fun c6 => ?_)
  · have hF := if_f c6 hF
    refine lv_iconst (v := (0 : Int32)) hx hb (dk DX11_levelOf 7 rfl) (by decide) ?_
    refine lv_istore (lv' := [(4, .int (0 : Int32)), (0, .ref (G.2.1 + 78)), (1, .int a1), (2, .int a2), (3, .int a3)]) hx hb (dk DX11_levelOf 8 rfl) hl (by decide) rfl (fun ls hl => ?_)
    refine lv_iconst (v := (0 : Int32)) hx hb (dk DX11_levelOf 9 rfl) (by decide) ?_
    refine lv_istore (lv' := [(5, .int (0 : Int32)), (4, .int (0 : Int32)), (0, .ref (G.2.1 + 78)), (1, .int a1), (2, .int a2), (3, .int a3)]) hx hb (dk DX11_levelOf 10 rfl) hl (by decide) rfl (fun ls hl => ?_)
    obtain ⟨k70_2, ek70_2, hF⟩ := lt_ex hF
    have J70 : ∀ (xq2 : Int32) (mq1 : Mem) (H : Heap) (locs : List Loc) (ls : Array Slot), lv_has ls 6 [(4, .int xq2)] → Rp G mr0 N0 mq1 s H locs → k70_2 xq2 mq1 = some (v, m') → W p l e (rmD 3) s mid args below meth c H locs 0 0 (MQ below (QR G mr0 N0 (some (.int v)) m') args s 0 0 (fun q => G.2.1 ≤ q)) (F0 mid 70 ls []) := by
      intro xq2 mq1 H locs ls hl hR hF
      rw [ek70_2] at hF
      refine lv_iconst (v := (3 : Int32)) hx hb (dk DX11_levelOf 39 rfl) (by decide) ?_
      refine lv_iload hx hb (dk DX11_levelOf 40 rfl) (lv_at hl 0 rfl) ?_
      refine r_mnI C (gd q1941 rfl) (by decide) (Nat.le_of_ble_eq_true rfl) hl.1 ⟨Nat.zero_le _, Nat.zero_le _⟩ (dk DX11_levelOf 41 rfl) ?_
      cases hF
      exact r_iret C hrt hR (dk DX11_levelOf 42 rfl)
    have L17 : ∀ (nf : Nat) (xq4 : Int32) (xq5 : Int32) (mq3 : Mem) (H : Heap) (locs : List Loc) (ls : Array Slot), lv_has ls 6 [(0, .ref (G.2.1 + 78)), (1, .int a1), (2, .int a2), (3, .int a3), (4, .int xq4), (5, .int xq5)] → Rp G mr0 N0 mq3 s H locs → F_M_levelOf_L17 a1 a2 a3 k70_2 nf xq4 xq5 mq3 = some (v, m') → W p l e (rmD 3) s mid args below meth c H locs 0 0 (MQ below (QR G mr0 N0 (some (.int v)) m') args s 0 0 (fun q => G.2.1 ≤ q)) (F0 mid 17 ls []) := by
      intro nf
      induction nf with
      | zero =>
        intro xq4 xq5 mq3 H locs ls hl hR hF
        rw [F_M_levelOf_L17] at hF
        cases hF
      | succ nf ihq7 =>
        intro xq4 xq5 mq3 H locs ls hl hR hF
        rw [F_M_levelOf_L17] at hF
        refine lv_iload hx hb (dk DX11_levelOf 11 rfl) (lv_at hl 5 rfl) ?_
        refine lv_aload_n hx hb (dk DX11_levelOf 12 rfl) rfl (lv_at hl 0 rfl) ?_
        refine gX11_13 C hR ob78 rf78_1 (dk DX11_levelOf 13 rfl) ?_
        refine lv_sipush (v := (298 : Int32)) hx hb (dk DX11_levelOf 14 rfl) (by decide) ?_
        refine r_iald C hR ob79 rfl (dk DX11_levelOf 15 rfl) ?_
        refine lv_icmp_ge (tgt := 70) hx hb (dk DX11_levelOf 16 rfl) (by decide) (fun c27 => ?_) (fun c27 => ?_)
        · have hF := if_t c27 hF
          exact J70 xq4 mq3 _ _ ls (lv_sub hl [4] rfl) hR hF
        · have hF := if_f c27 hF
          refine lv_iload hx hb (dk DX11_levelOf 17 rfl) (lv_at hl 4 rfl) ?_
          refine lv_aload_n hx hb (dk DX11_levelOf 18 rfl) rfl (lv_at hl 0 rfl) ?_
          refine lv_iload hx hb (dk DX11_levelOf 19 rfl) (lv_at hl 5 rfl) ?_
          refine lv_iload_n hx hb (dk DX11_levelOf 20 rfl) rfl (lv_at hl 1 rfl) ?_
          refine lv_iload_n hx hb (dk DX11_levelOf 21 rfl) rfl (lv_at hl 2 rfl) ?_
          refine lv_iload_n hx hb (dk DX11_levelOf 22 rfl) rfl (lv_at hl 3 rfl) ?_
          obtain ⟨zq10, mq8, hzq9, hF⟩ := bnd_ex hF
          refine r_callVi (As := [.int xq5, .int a1, .int a2, .int a3]) (rest := [.int xq4]) C hR (C_M_holdsLine l hl0 G xq5 a1 a2 a3 mq3 _ _ hzq9) (by decide) (by decide) ob78 rfl wX11_234 rfl rfl (Nat.le_of_ble_eq_true rfl) hl.1 ⟨Nat.zero_le _, Nat.zero_le _⟩ (dk DX11_levelOf 23 rfl) (fun H locs hR => ?_)
          obtain ⟨k61_12, ek61_12, hF⟩ := lt_ex hF
          have J61 : ∀ (xq12 : Int32) (mq11 : Mem) (H : Heap) (locs : List Loc) (ls : Array Slot), lv_has ls 6 [(0, .ref (G.2.1 + 78)), (1, .int a1), (2, .int a2), (3, .int a3), (5, .int xq5)] → Rp G mr0 N0 mq11 s H locs → k61_12 xq12 mq11 = some (v, m') → W p l e (rmD 3) s mid args below meth c H locs 0 0 (MQ below (QR G mr0 N0 (some (.int v)) m') args s 0 0 (fun q => G.2.1 ≤ q)) (F0 mid 61 ls [.int xq12, .int xq4]) := by
            intro xq12 mq11 H locs ls hl hR hF
            rw [ek61_12] at hF
            refine lv_iadd hx hb (dk DX11_levelOf 35 rfl) ?_
            refine lv_topi (fun xq13 exq13 => ?_)
            have hF := lt_at exq13 hF
            refine lv_istore (lv' := [(4, .int xq13), (0, .ref (G.2.1 + 78)), (1, .int a1), (2, .int a2), (3, .int a3), (5, .int xq5)]) hx hb (dk DX11_levelOf 36 rfl) hl (by decide) rfl (fun ls hl => ?_)
            obtain ⟨xq14, exq14, hF⟩ := lt_ex hF
            refine lv_iinc (v := xq14) (lv' := [(5, .int xq14), (4, .int xq13), (0, .ref (G.2.1 + 78)), (1, .int a1), (2, .int a2), (3, .int a3)]) hx hb (dk DX11_levelOf 37 rfl) hl (k := 5) rfl (by rw [exq14]; rfl) (by decide) rfl (fun ls hl => ?_)
            refine lv_goto (tgt := 17) hx hb (dk DX11_levelOf 38 rfl) (by decide) ?_
            exact ihq7 xq13 xq14 mq11 _ _ ls (lv_sub hl [2, 3, 4, 5, 1, 0] rfl) hR hF
          refine z_ifeq (tgt := 60) hx hb (dk DX11_levelOf 24 rfl) (by decide) (fun c41 => ?_) (fun c41 => ?_)
          · have hF := if_f c41 hF
            refine lv_iconst (v := (0 : Int32)) hx hb (dk DX11_levelOf 34 rfl) (by decide) ?_
            exact J61 (0 : Int32) mq8 _ _ ls (lv_sub hl [0, 1, 2, 3, 5] rfl) hR hF
          · have hF := if_t c41 hF
            refine lv_aload_n hx hb (dk DX11_levelOf 25 rfl) rfl (lv_at hl 0 rfl) ?_
            refine gX11_13 C hR ob78 rf78_1 (dk DX11_levelOf 26 rfl) ?_
            refine lv_sipush (v := (299 : Int32)) hx hb (dk DX11_levelOf 27 rfl) (by decide) ?_
            refine lv_iconst (v := (3 : Int32)) hx hb (dk DX11_levelOf 28 rfl) (by decide) ?_
            refine lv_iload hx hb (dk DX11_levelOf 29 rfl) (lv_at hl 5 rfl) ?_
            refine lv_imul hx hb (dk DX11_levelOf 30 rfl) ?_
            refine lv_iadd hx hb (dk DX11_levelOf 31 rfl) ?_
            obtain ⟨hq15, hF⟩ := ckB_ex hF
            refine r_iald C hR ob79 hq15 (dk DX11_levelOf 32 rfl) ?_
            refine lv_topi (fun xq16 exq16 => ?_)
            have hF := lt_at exq16 hF
            refine lv_goto (tgt := 61) hx hb (dk DX11_levelOf 33 rfl) (by decide) ?_
            exact J61 xq16 mq8 _ _ ls (lv_sub hl [0, 1, 2, 3, 5] rfl) hR hF
    exact L17 1000000 (0 : Int32) (0 : Int32) m0 _ _ ls (lv_sub hl [2, 3, 4, 5, 1, 0] rfl) hR hF
  · have hF := if_t c6 hF
    refine lv_iconst (v := (1 : Int32)) hx hb (dk DX11_levelOf 5 rfl) (by decide) ?_
    cases hF
    exact r_iret C hrt hR (dk DX11_levelOf 6 rfl)
set_option maxHeartbeats 4000000 in
set_option maxRecDepth 100000 in
theorem C_M_laysLevels (l : Launch) (hl0 : l.stackTraces = false) (G : GG) (a1 : Int32) (m0 : Mem) (v : Unit) (m' : Mem) (hF : F_M_laysLevels a1 m0 = some (v, m')) : Ct l G mr0 N0 yX11_laysLevels cX11_laysLevels 3 none 4 [.ref (G.2.1 + 78), .int a1] m0 none m' := by
  refine Ct_of hl0 (by decide) (Nat.le_of_ble_eq_true rfl) ?_
  intro p e s mid args below meth c ls C hrt hl hR
  have hx := C.1.1
  have hb := C.1.2.1
  have hl : lv_has ls 3 [(0, .ref (G.2.1 + 78)), (1, .int a1)] := hl
  unfold F_M_laysLevels at hF
  refine lv_iconst (v := (0 : Int32)) hx hb (dk DX11_laysLevels 0 rfl) (by decide) ?_
  refine lv_istore_n (lv' := [(2, .int (0 : Int32)), (0, .ref (G.2.1 + 78)), (1, .int a1)]) hx hb (dk DX11_laysLevels 1 rfl) rfl hl (by decide) rfl (fun ls hl => ?_)
  have L2 : ∀ (nf : Nat) (xq2 : Int32) (mq1 : Mem) (H : Heap) (locs : List Loc) (ls : Array Slot), lv_has ls 3 [(0, .ref (G.2.1 + 78)), (1, .int a1), (2, .int xq2)] → Rp G mr0 N0 mq1 s H locs → F_M_laysLevels_L2 a1 nf xq2 mq1 = some (v, m') → W p l e (rmD 4) s mid args below meth c H locs 0 0 (MQ below (QR G mr0 N0 none m') args s 0 0 (fun q => G.2.1 ≤ q)) (F0 mid 2 ls []) := by
    intro nf
    induction nf with
    | zero =>
      intro xq2 mq1 H locs ls hl hR hF
      rw [F_M_laysLevels_L2] at hF
      cases hF
    | succ nf ihq4 =>
      intro xq2 mq1 H locs ls hl hR hF
      rw [F_M_laysLevels_L2] at hF
      refine lv_iload_n hx hb (dk DX11_laysLevels 2 rfl) rfl (lv_at hl 2 rfl) ?_
      refine lv_bipush (v := (6 : Int32)) hx hb (dk DX11_laysLevels 3 rfl) (by decide) ?_
      refine lv_icmp_ge (tgt := 44) hx hb (dk DX11_laysLevels 4 rfl) (by decide) (fun c5 => ?_) (fun c5 => ?_)
      · have hF := if_t c5 hF
        cases hF
        exact r_vret C hrt hR (dk DX11_laysLevels 23 rfl)
      · have hF := if_f c5 hF
        refine lv_aload_n hx hb (dk DX11_laysLevels 5 rfl) rfl (lv_at hl 0 rfl) ?_
        refine gX11_46 C hR ob78 rf78_19 (dk DX11_laysLevels 6 rfl) ?_
        refine lv_iload_n hx hb (dk DX11_laysLevels 7 rfl) rfl (lv_at hl 2 rfl) ?_
        refine lv_aload_n hx hb (dk DX11_laysLevels 8 rfl) rfl (lv_at hl 0 rfl) ?_
        refine lv_iload_n hx hb (dk DX11_laysLevels 9 rfl) rfl (lv_at hl 1 rfl) ?_
        refine lv_iload_n hx hb (dk DX11_laysLevels 10 rfl) rfl (lv_at hl 2 rfl) ?_
        obtain ⟨xq7, mq5, hzq6, hF⟩ := bnd_ex hF
        refine r_callSi (As := [.int xq2]) (rest := [.int a1, .ref (G.2.1 + 78), .int xq2, .ref (G.2.1 + 88)]) C hR (C_M_inningsOf l hl0 G xq2 mq1 _ _ hzq6) (by decide) (by decide) wX11_323 rfl rfl (Nat.le_of_ble_eq_true rfl) hl.1 ⟨Nat.zero_le _, Nat.zero_le _⟩ (dk DX11_laysLevels 11 rfl) (fun H locs hR => ?_)
        refine lv_aload_n hx hb (dk DX11_laysLevels 12 rfl) rfl (lv_at hl 0 rfl) ?_
        refine gX11_326 C hR ob78 (dk DX11_laysLevels 13 rfl) ?_
        refine lv_iload_n hx hb (dk DX11_laysLevels 14 rfl) rfl (lv_at hl 2 rfl) ?_
        obtain ⟨xq10, mq8, hzq9, hF⟩ := bnd_ex hF
        refine r_callSi (As := [.int xq2]) (rest := [.int (gI mq5 78 20), .int xq7, .int a1, .ref (G.2.1 + 78), .int xq2, .ref (G.2.1 + 88)]) C hR (C_M_inningsOf l hl0 G xq2 mq5 _ _ hzq9) (by decide) (by decide) wX11_323 rfl rfl (Nat.le_of_ble_eq_true rfl) hl.1 ⟨Nat.zero_le _, Nat.zero_le _⟩ (dk DX11_laysLevels 15 rfl) (fun H locs hR => ?_)
        refine lv_iload_n hx hb (dk DX11_laysLevels 16 rfl) rfl (lv_at hl 2 rfl) ?_
        obtain ⟨zq13, mq11, hzq12, hF⟩ := bnd_ex hF
        refine r_callSi (As := [.int xq2]) (rest := [.int xq10, .int (gI mq5 78 20), .int xq7, .int a1, .ref (G.2.1 + 78), .int xq2, .ref (G.2.1 + 88)]) C hR (C_M_isBehind l hl0 G xq2 mq8 _ _ hzq12) (by decide) (by decide) wX11_329 rfl rfl (Nat.le_of_ble_eq_true rfl) hl.1 ⟨Nat.zero_le _, Nat.zero_le _⟩ (dk DX11_laysLevels 17 rfl) (fun H locs hR => ?_)
        obtain ⟨xq16, mq14, hzq15, hF⟩ := bnd_ex hF
        refine r_callSi (As := [.int (gI mq5 78 20), .int xq10, .int (b2i zq13)]) (rest := [.int xq7, .int a1, .ref (G.2.1 + 78), .int xq2, .ref (G.2.1 + 88)]) C hR (C_M_batting l hl0 G (gI mq5 78 20) xq10 zq13 mq11 _ _ hzq15) (by decide) (by decide) wX11_271 rfl rfl (Nat.le_of_ble_eq_true rfl) hl.1 ⟨Nat.zero_le _, Nat.zero_le _⟩ (dk DX11_laysLevels 18 rfl) (fun H locs hR => ?_)
        obtain ⟨xq19, mq17, hzq18, hF⟩ := bnd_ex hF
        refine r_callVi (As := [.int a1, .int xq7, .int xq16]) (rest := [.int xq2, .ref (G.2.1 + 88)]) C hR (C_M_levelOf l hl0 G a1 xq7 xq16 mq14 _ _ hzq18) (by decide) (by decide) ob78 rfl wX11_259 rfl rfl (Nat.le_of_ble_eq_true rfl) hl.1 ⟨Nat.zero_le _, Nat.zero_le _⟩ (dk DX11_laysLevels 19 rfl) (fun H locs hR => ?_)
        obtain ⟨hq21, hF⟩ := ckB_ex hF
        refine r_iast C hR ob88 hq21 (dk DX11_laysLevels 20 rfl) (fun H locs hR => ?_)
        obtain ⟨mq20, emq20, hF⟩ := lt_ex hF
        have hR := Rp_at emq20 hR
        obtain ⟨xq22, exq22, hF⟩ := lt_ex hF
        refine lv_iinc (v := xq22) (lv' := [(2, .int xq22), (0, .ref (G.2.1 + 78)), (1, .int a1)]) hx hb (dk DX11_laysLevels 21 rfl) hl (k := 2) rfl (by rw [exq22]; rfl) (by decide) rfl (fun ls hl => ?_)
        refine lv_goto (tgt := 2) hx hb (dk DX11_laysLevels 22 rfl) (by decide) ?_
        exact ihq4 xq22 mq20 _ _ ls (lv_sub hl [1, 2, 0] rfl) hR hF
  exact L2 1000000 (0 : Int32) m0 _ _ ls (lv_sub hl [1, 2, 0] rfl) hR hF
set_option maxHeartbeats 4000000 in
set_option maxRecDepth 100000 in
theorem C_M_has (l : Launch) (hl0 : l.stackTraces = false) (G : GG) (a0 : Int32) (a1 : Int32) (m0 : Mem) (v : Bool) (m' : Mem) (hF : F_M_has a0 a1 m0 = some (v, m')) : Ct l G mr0 N0 yX11_has cX11_has 2 (some .boolean) 1 [.int a0, .int a1] m0 (some (.int (b2i v))) m' := by
  refine Ct_of hl0 (by decide) (Nat.le_of_ble_eq_true rfl) ?_
  intro p e s mid args below meth c ls C hrt hl hR
  have hx := C.1.1
  have hb := C.1.2.1
  have hl : lv_has ls 2 [(0, .int a0), (1, .int a1)] := hl
  unfold F_M_has at hF
  refine lv_iload_n hx hb (dk DX11_has 0 rfl) rfl (lv_at hl 0 rfl) ?_
  refine lv_iload_n hx hb (dk DX11_has 1 rfl) rfl (lv_at hl 1 rfl) ?_
  refine lv_ishr hx hb (dk DX11_has 2 rfl) ?_
  refine lv_iconst (v := (1 : Int32)) hx hb (dk DX11_has 3 rfl) (by decide) ?_
  refine lv_iand hx hb (dk DX11_has 4 rfl) ?_
  refine lv_iconst (v := (1 : Int32)) hx hb (dk DX11_has 5 rfl) (by decide) ?_
  refine lv_icmp_ne (tgt := 13) hx hb (dk DX11_has 6 rfl) (by decide) (fun c6 => ?_) (fun c6 => ?_)
  · have hF := if_f c6 hF
    refine lv_iconst (v := (0 : Int32)) hx hb (dk DX11_has 9 rfl) (by decide) ?_
    cases hF
    exact r_zret C hrt hR (dk DX11_has 10 rfl)
  · have hF := if_t c6 hF
    refine lv_iconst (v := (1 : Int32)) hx hb (dk DX11_has 7 rfl) (by decide) ?_
    refine lv_goto (tgt := 14) hx hb (dk DX11_has 8 rfl) (by decide) ?_
    cases hF
    exact r_zret C hrt hR (dk DX11_has 10 rfl)
set_option maxHeartbeats 4000000 in
set_option maxRecDepth 100000 in
theorem C_M_isRain (l : Launch) (hl0 : l.stackTraces = false) (G : GG) (a1 : Int32) (m0 : Mem) (v : Bool) (m' : Mem) (hF : F_M_isRain a1 m0 = some (v, m')) : Ct l G mr0 N0 yX11_isRain cX11_isRain 2 (some .boolean) 2 [.ref (G.2.1 + 78), .int a1] m0 (some (.int (b2i v))) m' := by
  refine Ct_of hl0 (by decide) (Nat.le_of_ble_eq_true rfl) ?_
  intro p e s mid args below meth c ls C hrt hl hR
  have hx := C.1.1
  have hb := C.1.2.1
  have hl : lv_has ls 2 [(0, .ref (G.2.1 + 78)), (1, .int a1)] := hl
  unfold F_M_isRain at hF
  refine lv_aload_n hx hb (dk DX11_isRain 0 rfl) rfl (lv_at hl 0 rfl) ?_
  refine gX11_13 C hR ob78 rf78_1 (dk DX11_isRain 1 rfl) ?_
  refine lv_bipush (v := (8 : Int32)) hx hb (dk DX11_isRain 2 rfl) (by decide) ?_
  refine r_iald C hR ob79 rfl (dk DX11_isRain 3 rfl) ?_
  refine lv_iload_n hx hb (dk DX11_isRain 4 rfl) rfl (lv_at hl 1 rfl) ?_
  obtain ⟨zq3, mq1, hzq2, hF⟩ := bnd_ex hF
  refine r_callSi (As := [.int (gI m0 79 8), .int a1]) (rest := []) C hR (C_M_has l hl0 G (gI m0 79 8) a1 m0 _ _ hzq2) (by decide) (by decide) wX11_300 rfl rfl (Nat.le_of_ble_eq_true rfl) hl.1 ⟨Nat.zero_le _, Nat.zero_le _⟩ (dk DX11_isRain 5 rfl) (fun H locs hR => ?_)
  cases hF
  exact r_zret C hrt hR (dk DX11_isRain 6 rfl)
set_option maxHeartbeats 4000000 in
set_option maxRecDepth 100000 in
theorem C_M_ofSlot (l : Launch) (hl0 : l.stackTraces = false) (G : GG) (a1 : Int32) (a2 : Int32) (a3 : Int32) (m0 : Mem) (v : Int32) (m' : Mem) (hF : F_M_ofSlot a1 a2 a3 m0 = some (v, m')) : Ct l G mr0 N0 yX11_ofSlot cX11_ofSlot 4 (some .int) 1 [.ref (G.2.1 + 78), .int a1, .int a2, .int a3] m0 (some (.int v)) m' := by
  refine Ct_of hl0 (by decide) (Nat.le_of_ble_eq_true rfl) ?_
  intro p e s mid args below meth c ls C hrt hl hR
  have hx := C.1.1
  have hb := C.1.2.1
  have hl : lv_has ls 4 [(0, .ref (G.2.1 + 78)), (1, .int a1), (2, .int a2), (3, .int a3)] := hl
  unfold F_M_ofSlot at hF
  refine lv_aload_n hx hb (dk DX11_ofSlot 0 rfl) rfl (lv_at hl 0 rfl) ?_
  refine gX11_13 C hR ob78 rf78_1 (dk DX11_ofSlot 1 rfl) ?_
  refine lv_bipush (v := (23 : Int32)) hx hb (dk DX11_ofSlot 2 rfl) (by decide) ?_
  refine lv_iconst (v := (2 : Int32)) hx hb (dk DX11_ofSlot 3 rfl) (by decide) ?_
  refine lv_iconst (v := (4 : Int32)) hx hb (dk DX11_ofSlot 4 rfl) (by decide) ?_
  refine lv_iload_n hx hb (dk DX11_ofSlot 5 rfl) rfl (lv_at hl 1 rfl) ?_
  refine lv_imul hx hb (dk DX11_ofSlot 6 rfl) ?_
  refine lv_iload_n hx hb (dk DX11_ofSlot 7 rfl) rfl (lv_at hl 2 rfl) ?_
  refine lv_iadd hx hb (dk DX11_ofSlot 8 rfl) ?_
  refine lv_imul hx hb (dk DX11_ofSlot 9 rfl) ?_
  refine lv_iadd hx hb (dk DX11_ofSlot 10 rfl) ?_
  refine lv_topi (fun xq1 exq1 => ?_)
  have hF := lt_at exq1 hF
  refine lv_iload_n hx hb (dk DX11_ofSlot 11 rfl) rfl (lv_at hl 3 rfl) ?_
  refine lv_iadd hx hb (dk DX11_ofSlot 12 rfl) ?_
  obtain ⟨hq2, hF⟩ := ckB_ex hF
  refine r_iald C hR ob79 hq2 (dk DX11_ofSlot 13 rfl) ?_
  refine lv_topi (fun xq3 exq3 => ?_)
  have hF := lt_at exq3 hF
  cases hF
  exact r_iret C hrt hR (dk DX11_ofSlot 14 rfl)
set_option maxHeartbeats 4000000 in
set_option maxRecDepth 100000 in
theorem C_M_runsOf (l : Launch) (hl0 : l.stackTraces = false) (G : GG) (a1 : Int32) (a2 : Int32) (a3 : Int32) (a4 : Bool) (m0 : Mem) (v : Int32) (m' : Mem) (hF : F_M_runsOf a1 a2 a3 a4 m0 = some (v, m')) : Ct l G mr0 N0 yX11_runsOf cX11_runsOf 5 (some .int) 3 [.ref (G.2.1 + 78), .int a1, .int a2, .int a3, .int (b2i a4)] m0 (some (.int v)) m' := by
  refine Ct_of hl0 (by decide) (Nat.le_of_ble_eq_true rfl) ?_
  intro p e s mid args below meth c ls C hrt hl hR
  have hx := C.1.1
  have hb := C.1.2.1
  have hl : lv_has ls 5 [(0, .ref (G.2.1 + 78)), (1, .int a1), (2, .int a2), (3, .int a3), (4, .int (b2i a4))] := hl
  unfold F_M_runsOf at hF
  refine lv_iload hx hb (dk DX11_runsOf 0 rfl) (lv_at hl 4 rfl) ?_
  refine z_ifne (tgt := 13) hx hb (dk DX11_runsOf 1 rfl) (by decide) (fun c2 => ?_) (fun c2 => ?_)
  · have hF := if_t c2 hF
    refine lv_iconst (v := (0 : Int32)) hx hb (dk DX11_runsOf 6 rfl) (by decide) ?_
    refine lv_goto (tgt := 29) hx hb (dk DX11_runsOf 7 rfl) (by decide) ?_
    cases hF
    exact r_iret C hrt hR (dk DX11_runsOf 16 rfl)
  · have hF := if_f c2 hF
    refine lv_aload_n hx hb (dk DX11_runsOf 2 rfl) rfl (lv_at hl 0 rfl) ?_
    refine lv_iload_n hx hb (dk DX11_runsOf 3 rfl) rfl (lv_at hl 1 rfl) ?_
    obtain ⟨zq3, mq1, hzq2, hF⟩ := bnd_ex hF
    refine r_callVi (As := [.int a1]) (rest := []) C hR (C_M_isRain l hl0 G a1 m0 _ _ hzq2) (by decide) (by decide) ob78 rfl wX11_262 rfl rfl (Nat.le_of_ble_eq_true rfl) hl.1 ⟨Nat.zero_le _, Nat.zero_le _⟩ (dk DX11_runsOf 4 rfl) (fun H locs hR => ?_)
    refine z_ifeq (tgt := 17) hx hb (dk DX11_runsOf 5 rfl) (by decide) (fun c10 => ?_) (fun c10 => ?_)
    · have hF := if_f c10 hF
      refine lv_aload_n hx hb (dk DX11_runsOf 8 rfl) rfl (lv_at hl 0 rfl) ?_
      refine lv_aload_n hx hb (dk DX11_runsOf 9 rfl) rfl (lv_at hl 0 rfl) ?_
      refine gX11_46 C hR ob78 rf78_19 (dk DX11_runsOf 10 rfl) ?_
      refine lv_iload_n hx hb (dk DX11_runsOf 11 rfl) rfl (lv_at hl 2 rfl) ?_
      obtain ⟨hq4, hF⟩ := ckB_ex hF
      refine r_iald C hR ob88 hq4 (dk DX11_runsOf 12 rfl) ?_
      refine lv_topi (fun xq5 exq5 => ?_)
      have hF := lt_at exq5 hF
      refine lv_iload_n hx hb (dk DX11_runsOf 13 rfl) rfl (lv_at hl 3 rfl) ?_
      refine lv_iconst (v := (0 : Int32)) hx hb (dk DX11_runsOf 14 rfl) (by decide) ?_
      obtain ⟨xq8, mq6, hzq7, hF⟩ := bnd_ex hF
      refine r_callVi (As := [.int xq5, .int a3, .int (0 : Int32)]) (rest := []) C hR (C_M_ofSlot l hl0 G xq5 a3 (0 : Int32) mq1 _ _ hzq7) (by decide) (by decide) ob78 rfl wX11_249 rfl rfl (Nat.le_of_ble_eq_true rfl) hl.1 ⟨Nat.zero_le _, Nat.zero_le _⟩ (dk DX11_runsOf 15 rfl) (fun H locs hR => ?_)
      cases hF
      exact r_iret C hrt hR (dk DX11_runsOf 16 rfl)
    · have hF := if_t c10 hF
      refine lv_iconst (v := (0 : Int32)) hx hb (dk DX11_runsOf 6 rfl) (by decide) ?_
      refine lv_goto (tgt := 29) hx hb (dk DX11_runsOf 7 rfl) (by decide) ?_
      cases hF
      exact r_iret C hrt hR (dk DX11_runsOf 16 rfl)
set_option maxHeartbeats 4000000 in
set_option maxRecDepth 100000 in
theorem C_M_outsOf (l : Launch) (hl0 : l.stackTraces = false) (G : GG) (a1 : Int32) (a2 : Int32) (a3 : Int32) (a4 : Bool) (m0 : Mem) (v : Int32) (m' : Mem) (hF : F_M_outsOf a1 a2 a3 a4 m0 = some (v, m')) : Ct l G mr0 N0 yX11_outsOf cX11_outsOf 5 (some .int) 3 [.ref (G.2.1 + 78), .int a1, .int a2, .int a3, .int (b2i a4)] m0 (some (.int v)) m' := by
  refine Ct_of hl0 (by decide) (Nat.le_of_ble_eq_true rfl) ?_
  intro p e s mid args below meth c ls C hrt hl hR
  have hx := C.1.1
  have hb := C.1.2.1
  have hl : lv_has ls 5 [(0, .ref (G.2.1 + 78)), (1, .int a1), (2, .int a2), (3, .int a3), (4, .int (b2i a4))] := hl
  unfold F_M_outsOf at hF
  refine lv_aload_n hx hb (dk DX11_outsOf 0 rfl) rfl (lv_at hl 0 rfl) ?_
  refine lv_iload_n hx hb (dk DX11_outsOf 1 rfl) rfl (lv_at hl 1 rfl) ?_
  obtain ⟨zq3, mq1, hzq2, hF⟩ := bnd_ex hF
  refine r_callVi (As := [.int a1]) (rest := []) C hR (C_M_isRain l hl0 G a1 m0 _ _ hzq2) (by decide) (by decide) ob78 rfl wX11_262 rfl rfl (Nat.le_of_ble_eq_true rfl) hl.1 ⟨Nat.zero_le _, Nat.zero_le _⟩ (dk DX11_outsOf 2 rfl) (fun H locs hR => ?_)
  refine z_ifeq (tgt := 12) hx hb (dk DX11_outsOf 3 rfl) (by decide) (fun c5 => ?_) (fun c5 => ?_)
  · have hF := if_f c5 hF
    refine lv_iconst (v := (0 : Int32)) hx hb (dk DX11_outsOf 6 rfl) (by decide) ?_
    refine lv_aload_n hx hb (dk DX11_outsOf 7 rfl) rfl (lv_at hl 0 rfl) ?_
    refine lv_aload_n hx hb (dk DX11_outsOf 8 rfl) rfl (lv_at hl 0 rfl) ?_
    refine gX11_46 C hR ob78 rf78_19 (dk DX11_outsOf 9 rfl) ?_
    refine lv_iload_n hx hb (dk DX11_outsOf 10 rfl) rfl (lv_at hl 2 rfl) ?_
    obtain ⟨hq4, hF⟩ := ckB_ex hF
    refine r_iald C hR ob88 hq4 (dk DX11_outsOf 11 rfl) ?_
    refine lv_topi (fun xq5 exq5 => ?_)
    have hF := lt_at exq5 hF
    refine lv_iload_n hx hb (dk DX11_outsOf 12 rfl) rfl (lv_at hl 3 rfl) ?_
    refine lv_iconst (v := (1 : Int32)) hx hb (dk DX11_outsOf 13 rfl) (by decide) ?_
    obtain ⟨xq8, mq6, hzq7, hF⟩ := bnd_ex hF
    refine r_callVi (As := [.int xq5, .int a3, .int (1 : Int32)]) (rest := [.int (0 : Int32)]) C hR (C_M_ofSlot l hl0 G xq5 a3 (1 : Int32) mq1 _ _ hzq7) (by decide) (by decide) ob78 rfl wX11_249 rfl rfl (Nat.le_of_ble_eq_true rfl) hl.1 ⟨Nat.zero_le _, Nat.zero_le _⟩ (dk DX11_outsOf 14 rfl) (fun H locs hR => ?_)
    refine lv_iload hx hb (dk DX11_outsOf 15 rfl) (lv_at hl 4 rfl) ?_
    obtain ⟨k35_10, ek35_10, hF⟩ := lt_ex hF
    have J35 : ∀ (zq10 : Bool) (mq9 : Mem) (H : Heap) (locs : List Loc) (ls : Array Slot), lv_has ls 5 [] → Rp G mr0 N0 mq9 s H locs → k35_10 zq10 mq9 = some (v, m') → W p l e (rmD 3) s mid args below meth c H locs 0 0 (MQ below (QR G mr0 N0 (some (.int v)) m') args s 0 0 (fun q => G.2.1 ≤ q)) (F0 mid 35 ls [.int (b2i zq10), .int xq8, .int (0 : Int32)]) := by
      intro zq10 mq9 H locs ls hl hR hF
      rw [ek35_10] at hF
      refine lv_isub hx hb (dk DX11_outsOf 20 rfl) ?_
      refine r_mxI C (gd q2017 rfl) (by decide) (Nat.le_of_ble_eq_true rfl) hl.1 ⟨Nat.zero_le _, Nat.zero_le _⟩ (dk DX11_outsOf 21 rfl) ?_
      cases hF
      exact r_iret C hrt hR (dk DX11_outsOf 22 rfl)
    refine z_ifeq (tgt := 34) hx hb (dk DX11_outsOf 16 rfl) (by decide) (fun c27 => ?_) (fun c27 => ?_)
    · have hF := if_f c27 hF
      refine lv_iconst (v := (0 : Int32)) hx hb (dk DX11_outsOf 19 rfl) (by decide) ?_
      exact J35 false mq6 _ _ ls (lv_sub hl [] rfl) hR hF
    · have hF := if_t c27 hF
      refine lv_iconst (v := (1 : Int32)) hx hb (dk DX11_outsOf 17 rfl) (by decide) ?_
      refine lv_goto (tgt := 35) hx hb (dk DX11_outsOf 18 rfl) (by decide) ?_
      exact J35 true mq6 _ _ ls (lv_sub hl [] rfl) hR hF
  · have hF := if_t c5 hF
    refine lv_iconst (v := (0 : Int32)) hx hb (dk DX11_outsOf 4 rfl) (by decide) ?_
    refine lv_goto (tgt := 39) hx hb (dk DX11_outsOf 5 rfl) (by decide) ?_
    cases hF
    exact r_iret C hrt hR (dk DX11_outsOf 22 rfl)
set_option maxHeartbeats 4000000 in
set_option maxRecDepth 100000 in
theorem C_M_nextKind (l : Launch) (hl0 : l.stackTraces = false) (G : GG) (a0 : Int32) (m0 : Mem) (v : Int32) (m' : Mem) (hF : F_M_nextKind a0 m0 = some (v, m')) : Ct l G mr0 N0 yX11_nextKind cX11_nextKind 1 (some .int) 1 [.int a0] m0 (some (.int v)) m' := by
  refine Ct_of hl0 (by decide) (Nat.le_of_ble_eq_true rfl) ?_
  intro p e s mid args below meth c ls C hrt hl hR
  have hx := C.1.1
  have hb := C.1.2.1
  have hl : lv_has ls 1 [(0, .int a0)] := hl
  unfold F_M_nextKind at hF
  refine lv_iload_n hx hb (dk DX11_nextKind 0 rfl) rfl (lv_at hl 0 rfl) ?_
  refine lv_iconst (v := (2 : Int32)) hx hb (dk DX11_nextKind 1 rfl) (by decide) ?_
  refine lv_icmp_ge (tgt := 11) hx hb (dk DX11_nextKind 2 rfl) (by decide) (fun c2 => ?_) (fun c2 => ?_)
  · have hF := if_t c2 hF
    refine lv_iload_n hx hb (dk DX11_nextKind 7 rfl) rfl (lv_at hl 0 rfl) ?_
    refine lv_iconst (v := (2 : Int32)) hx hb (dk DX11_nextKind 8 rfl) (by decide) ?_
    refine lv_iadd hx hb (dk DX11_nextKind 9 rfl) ?_
    cases hF
    exact r_iret C hrt hR (dk DX11_nextKind 10 rfl)
  · have hF := if_f c2 hF
    refine lv_iload_n hx hb (dk DX11_nextKind 3 rfl) rfl (lv_at hl 0 rfl) ?_
    refine lv_iconst (v := (1 : Int32)) hx hb (dk DX11_nextKind 4 rfl) (by decide) ?_
    refine lv_iadd hx hb (dk DX11_nextKind 5 rfl) ?_
    refine lv_goto (tgt := 14) hx hb (dk DX11_nextKind 6 rfl) (by decide) ?_
    cases hF
    exact r_iret C hrt hR (dk DX11_nextKind 10 rfl)
set_option maxHeartbeats 4000000 in
set_option maxRecDepth 100000 in
theorem C_M_cell (l : Launch) (hl0 : l.stackTraces = false) (G : GG) (a0 : Int32) (a1 : Int32) (a2 : Int32) (a3 : Int32) (m0 : Mem) (v : Int32) (m' : Mem) (hF : F_M_cell a0 a1 a2 a3 m0 = some (v, m')) : Ct l G mr0 N0 yX11_cell cX11_cell 4 (some .int) 1 [.int a0, .int a1, .int a2, .int a3] m0 (some (.int v)) m' := by
  refine Ct_of hl0 (by decide) (Nat.le_of_ble_eq_true rfl) ?_
  intro p e s mid args below meth c ls C hrt hl hR
  have hx := C.1.1
  have hb := C.1.2.1
  have hl : lv_has ls 4 [(0, .int a0), (1, .int a1), (2, .int a2), (3, .int a3)] := hl
  unfold F_M_cell at hF
  refine lv_iload_n hx hb (dk DX11_cell 0 rfl) rfl (lv_at hl 0 rfl) ?_
  refine lv_iconst (v := (1 : Int32)) hx hb (dk DX11_cell 1 rfl) (by decide) ?_
  refine lv_iand hx hb (dk DX11_cell 2 rfl) ?_
  refine lv_sipush (v := (21450 : Int32)) hx hb (dk DX11_cell 3 rfl) (by decide) ?_
  refine lv_imul hx hb (dk DX11_cell 4 rfl) ?_
  refine lv_iload_n hx hb (dk DX11_cell 5 rfl) rfl (lv_at hl 1 rfl) ?_
  refine lv_sipush (v := (3575 : Int32)) hx hb (dk DX11_cell 6 rfl) (by decide) ?_
  refine lv_imul hx hb (dk DX11_cell 7 rfl) ?_
  refine lv_iadd hx hb (dk DX11_cell 8 rfl) ?_
  refine lv_topi (fun xq1 exq1 => ?_)
  have hF := lt_at exq1 hF
  refine lv_iload_n hx hb (dk DX11_cell 9 rfl) rfl (lv_at hl 2 rfl) ?_
  refine lv_sipush (v := (325 : Int32)) hx hb (dk DX11_cell 10 rfl) (by decide) ?_
  refine lv_imul hx hb (dk DX11_cell 11 rfl) ?_
  refine lv_iadd hx hb (dk DX11_cell 12 rfl) ?_
  refine lv_iload_n hx hb (dk DX11_cell 13 rfl) rfl (lv_at hl 3 rfl) ?_
  refine lv_iadd hx hb (dk DX11_cell 14 rfl) ?_
  refine lv_sipush (v := (162 : Int32)) hx hb (dk DX11_cell 15 rfl) (by decide) ?_
  refine lv_iadd hx hb (dk DX11_cell 16 rfl) ?_
  refine lv_topi (fun xq2 exq2 => ?_)
  have hF := lt_at exq2 hF
  cases hF
  exact r_iret C hrt hR (dk DX11_cell 17 rfl)
set_option maxHeartbeats 4000000 in
set_option maxRecDepth 100000 in
theorem C_M_all (l : Launch) (hl0 : l.stackTraces = false) (G : GG) (a1 : Int32) (m0 : Mem) (v : Int32) (m' : Mem) (hF : F_M_all a1 m0 = some (v, m')) : Ct l G mr0 N0 yX11_all cX11_all 2 (some .int) 2 [.ref (G.2.1 + 78), .int a1] m0 (some (.int v)) m' := by
  refine Ct_of hl0 (by decide) (Nat.le_of_ble_eq_true rfl) ?_
  intro p e s mid args below meth c ls C hrt hl hR
  have hx := C.1.1
  have hb := C.1.2.1
  have hl : lv_has ls 2 [(0, .ref (G.2.1 + 78)), (1, .int a1)] := hl
  unfold F_M_all at hF
  refine lv_iconst (v := (1 : Int32)) hx hb (dk DX11_all 0 rfl) (by decide) ?_
  refine lv_iconst (v := (2 : Int32)) hx hb (dk DX11_all 1 rfl) (by decide) ?_
  refine lv_aload_n hx hb (dk DX11_all 2 rfl) rfl (lv_at hl 0 rfl) ?_
  obtain ⟨xq3, mq1, hzq2, hF⟩ := bnd_ex hF
  refine r_callVi (As := []) (rest := [.int (2 : Int32), .int (1 : Int32)]) C hR (C_M_size l hl0 G m0 _ _ hzq2) (by decide) (by decide) ob78 rfl wX11_63 rfl rfl (Nat.le_of_ble_eq_true rfl) hl.1 ⟨Nat.zero_le _, Nat.zero_le _⟩ (dk DX11_all 3 rfl) (fun H locs hR => ?_)
  refine lv_iload_n hx hb (dk DX11_all 4 rfl) rfl (lv_at hl 1 rfl) ?_
  refine lv_isub hx hb (dk DX11_all 5 rfl) ?_
  refine lv_imul hx hb (dk DX11_all 6 rfl) ?_
  refine lv_ishl hx hb (dk DX11_all 7 rfl) ?_
  refine lv_topi (fun xq4 exq4 => ?_)
  have hF := lt_at exq4 hF
  cases hF
  exact r_iret C hrt hR (dk DX11_all 8 rfl)
set_option maxHeartbeats 4000000 in
set_option maxRecDepth 100000 in
theorem C_M_brings (l : Launch) (hl0 : l.stackTraces = false) (G : GG) (a1 : Int32) (a2 : Int32) (a3 : Int32) (a4 : Int32) (a5 : Int32) (a6 : Bool) (m0 : Mem) (v : Unit) (m' : Mem) (hF : F_M_brings a1 a2 a3 a4 a5 a6 m0 = some (v, m')) : Ct l G mr0 N0 yX11_brings cX11_brings 9 none 4 [.ref (G.2.1 + 78), .int a1, .int a2, .int a3, .int a4, .int a5, .int (b2i a6)] m0 none m' := by
  refine Ct_of hl0 (by decide) (Nat.le_of_ble_eq_true rfl) ?_
  intro p e s mid args below meth c ls C hrt hl hR
  have hx := C.1.1
  have hb := C.1.2.1
  have hl : lv_has ls 9 [(0, .ref (G.2.1 + 78)), (1, .int a1), (2, .int a2), (3, .int a3), (4, .int a4), (5, .int a5), (6, .int (b2i a6))] := hl
  unfold F_M_brings at hF
  refine lv_iload hx hb (dk DX11_brings 0 rfl) (lv_at hl 4 rfl) ?_
  refine lv_aload_n hx hb (dk DX11_brings 1 rfl) rfl (lv_at hl 0 rfl) ?_
  refine lv_iload_n hx hb (dk DX11_brings 2 rfl) rfl (lv_at hl 1 rfl) ?_
  refine lv_iload_n hx hb (dk DX11_brings 3 rfl) rfl (lv_at hl 2 rfl) ?_
  refine lv_iload hx hb (dk DX11_brings 4 rfl) (lv_at hl 5 rfl) ?_
  refine lv_iload hx hb (dk DX11_brings 5 rfl) (lv_at hl 6 rfl) ?_
  obtain ⟨xq3, mq1, hzq2, hF⟩ := bnd_ex hF
  refine r_callVi (As := [.int a1, .int a2, .int a5, .int (b2i a6)]) (rest := [.int a4]) C hR (C_M_runsOf l hl0 G a1 a2 a5 a6 m0 _ _ hzq2) (by decide) (by decide) ob78 rfl wX11_350 rfl rfl (Nat.le_of_ble_eq_true rfl) hl.1 ⟨Nat.zero_le _, Nat.zero_le _⟩ (dk DX11_brings 6 rfl) (fun H locs hR => ?_)
  refine lv_iadd hx hb (dk DX11_brings 7 rfl) ?_
  refine lv_topi (fun xq4 exq4 => ?_)
  have hF := lt_at exq4 hF
  refine lv_istore (lv' := [(7, .int xq4), (0, .ref (G.2.1 + 78)), (1, .int a1), (2, .int a2), (3, .int a3), (4, .int a4), (5, .int a5), (6, .int (b2i a6))]) hx hb (dk DX11_brings 8 rfl) hl (by decide) rfl (fun ls hl => ?_)
  refine lv_iload_n hx hb (dk DX11_brings 9 rfl) rfl (lv_at hl 4 rfl) ?_
  refine lv_bipush (v := (10 : Int32)) hx hb (dk DX11_brings 10 rfl) (by decide) ?_
  obtain ⟨k26_6, ek26_6, hF⟩ := lt_ex hF
  have J26 : ∀ (xq6 : Int32) (mq5 : Mem) (H : Heap) (locs : List Loc) (ls : Array Slot), lv_has ls 9 [(0, .ref (G.2.1 + 78)), (1, .int a1), (2, .int a2), (5, .int a5), (6, .int (b2i a6)), (7, .int xq4)] → Rp G mr0 N0 mq5 s H locs → k26_6 xq6 mq5 = some (v, m') → W p l e (rmD 4) s mid args below meth c H locs 0 0 (MQ below (QR G mr0 N0 none m') args s 0 0 (fun q => G.2.1 ≤ q)) (F0 mid 26 ls [.int xq6]) := by
    intro xq6 mq5 H locs ls hl hR hF
    rw [ek26_6] at hF
    refine lv_aload_n hx hb (dk DX11_brings 15 rfl) rfl (lv_at hl 0 rfl) ?_
    refine lv_iload_n hx hb (dk DX11_brings 16 rfl) rfl (lv_at hl 1 rfl) ?_
    refine lv_iload_n hx hb (dk DX11_brings 17 rfl) rfl (lv_at hl 2 rfl) ?_
    refine lv_iload hx hb (dk DX11_brings 18 rfl) (lv_at hl 3 rfl) ?_
    refine lv_iload hx hb (dk DX11_brings 19 rfl) (lv_at hl 4 rfl) ?_
    obtain ⟨xq9, mq7, hzq8, hF⟩ := bnd_ex hF
    refine r_callVi (As := [.int a1, .int a2, .int a5, .int (b2i a6)]) (rest := [.int xq6]) C hR (C_M_outsOf l hl0 G a1 a2 a5 a6 mq5 _ _ hzq8) (by decide) (by decide) ob78 rfl wX11_354 rfl rfl (Nat.le_of_ble_eq_true rfl) hl.1 ⟨Nat.zero_le _, Nat.zero_le _⟩ (dk DX11_brings 20 rfl) (fun H locs hR => ?_)
    refine lv_iadd hx hb (dk DX11_brings 21 rfl) ?_
    refine lv_topi (fun xq10 exq10 => ?_)
    have hF := lt_at exq10 hF
    refine lv_istore (lv' := [(8, .int xq10), (0, .ref (G.2.1 + 78)), (1, .int a1), (2, .int a2), (5, .int a5), (6, .int (b2i a6)), (7, .int xq4)]) hx hb (dk DX11_brings 22 rfl) hl (by decide) rfl (fun ls hl => ?_)
    refine lv_iload_n hx hb (dk DX11_brings 23 rfl) rfl (lv_at hl 3 rfl) ?_
    refine lv_iconst (v := (3 : Int32)) hx hb (dk DX11_brings 24 rfl) (by decide) ?_
    obtain ⟨k68_11, ek68_11, hF⟩ := lt_ex hF
    have J68 : ∀ (mq11 : Mem) (H : Heap) (locs : List Loc) (ls : Array Slot), lv_has ls 9 [(0, .ref (G.2.1 + 78)), (1, .int a1), (2, .int a2), (7, .int xq4), (8, .int xq10)] → Rp G mr0 N0 mq11 s H locs → k68_11  mq11 = some (v, m') → W p l e (rmD 4) s mid args below meth c H locs 0 0 (MQ below (QR G mr0 N0 none m') args s 0 0 (fun q => G.2.1 ≤ q)) (F0 mid 68 ls []) := by
      intro  mq11 H locs ls hl hR hF
      rw [ek68_11] at hF
      refine lv_iload hx hb (dk DX11_brings 39 rfl) (lv_at hl 4 rfl) ?_
      refine lv_bipush (v := (10 : Int32)) hx hb (dk DX11_brings 40 rfl) (by decide) ?_
      refine lv_icmp_ge (tgt := 139) hx hb (dk DX11_brings 41 rfl) (by decide) (fun c72 => ?_) (fun c72 => ?_)
      · have hF := if_t c72 hF
        refine lv_iload_n hx hb (dk DX11_brings 80 rfl) rfl (lv_at hl 2 rfl) ?_
        refine lv_iconst (v := (3 : Int32)) hx hb (dk DX11_brings 81 rfl) (by decide) ?_
        refine lv_icmp_le (tgt := 172) hx hb (dk DX11_brings 82 rfl) (by decide) (fun c141 => ?_) (fun c141 => ?_)
        · have hF := if_t c141 hF
          refine lv_iload_n hx hb (dk DX11_brings 98 rfl) rfl (lv_at hl 2 rfl) ?_
          obtain ⟨xq14, mq12, hzq13, hF⟩ := bnd_ex hF
          refine r_callSi (As := [.int a2]) (rest := []) C hR (C_M_nextKind l hl0 G a2 mq11 _ _ hzq13) (by decide) (by decide) wX11_361 rfl rfl (Nat.le_of_ble_eq_true rfl) hl.1 ⟨Nat.zero_le _, Nat.zero_le _⟩ (dk DX11_brings 99 rfl) (fun H locs hR => ?_)
          refine lv_iconst (v := (3 : Int32)) hx hb (dk DX11_brings 100 rfl) (by decide) ?_
          obtain ⟨k204_15, ek204_15, hF⟩ := lt_ex hF
          have J204 : ∀ (mq15 : Mem) (H : Heap) (locs : List Loc) (ls : Array Slot), lv_has ls 9 [(0, .ref (G.2.1 + 78)), (1, .int a1), (2, .int a2), (7, .int xq4)] → Rp G mr0 N0 mq15 s H locs → k204_15  mq15 = some (v, m') → W p l e (rmD 4) s mid args below meth c H locs 0 0 (MQ below (QR G mr0 N0 none m') args s 0 0 (fun q => G.2.1 ≤ q)) (F0 mid 204 ls []) := by
            intro  mq15 H locs ls hl hR hF
            rw [ek204_15] at hF
            refine lv_iload_n hx hb (dk DX11_brings 115 rfl) rfl (lv_at hl 1 rfl) ?_
            refine lv_iconst (v := (1 : Int32)) hx hb (dk DX11_brings 116 rfl) (by decide) ?_
            refine lv_iadd hx hb (dk DX11_brings 117 rfl) ?_
            refine lv_aload_n hx hb (dk DX11_brings 118 rfl) rfl (lv_at hl 0 rfl) ?_
            obtain ⟨xq18, mq16, hzq17, hF⟩ := bnd_ex hF
            refine r_callVi (As := []) (rest := [.int (a1 + (1 : Int32))]) C hR (C_M_size l hl0 G mq15 _ _ hzq17) (by decide) (by decide) ob78 rfl wX11_63 rfl rfl (Nat.le_of_ble_eq_true rfl) hl.1 ⟨Nat.zero_le _, Nat.zero_le _⟩ (dk DX11_brings 119 rfl) (fun H locs hR => ?_)
            refine lv_icmp_ge (tgt := 272) hx hb (dk DX11_brings 120 rfl) (by decide) (fun c211 => ?_) (fun c211 => ?_)
            · have hF := if_t c211 hF
              cases hF
              exact r_vret C hrt hR (dk DX11_brings 155 rfl)
            · have hF := if_f c211 hF
              refine lv_aload_n hx hb (dk DX11_brings 121 rfl) rfl (lv_at hl 0 rfl) ?_
              refine lv_dup hx hb (dk DX11_brings 122 rfl) rfl ?_
              refine gX11_340 C hR ob78 (dk DX11_brings 123 rfl) ?_
              refine lv_aload_n hx hb (dk DX11_brings 124 rfl) rfl (lv_at hl 0 rfl) ?_
              refine gX11_43 C hR ob78 rf78_18 (dk DX11_brings 125 rfl) ?_
              refine lv_iload_n hx hb (dk DX11_brings 126 rfl) rfl (lv_at hl 1 rfl) ?_
              refine lv_iconst (v := (1 : Int32)) hx hb (dk DX11_brings 127 rfl) (by decide) ?_
              refine lv_iadd hx hb (dk DX11_brings 128 rfl) ?_
              refine lv_iload_n hx hb (dk DX11_brings 129 rfl) rfl (lv_at hl 2 rfl) ?_
              obtain ⟨xq21, mq19, hzq20, hF⟩ := bnd_ex hF
              refine r_callSi (As := [.int a2]) (rest := [.int (a1 + (1 : Int32)), .ref (G.2.1 + 87), .int (gI mq16 78 23), .ref (G.2.1 + 78)]) C hR (C_M_nextKind l hl0 G a2 mq16 _ _ hzq20) (by decide) (by decide) wX11_361 rfl rfl (Nat.le_of_ble_eq_true rfl) hl.1 ⟨Nat.zero_le _, Nat.zero_le _⟩ (dk DX11_brings 130 rfl) (fun H locs hR => ?_)
              refine lv_bipush (v := (10 : Int32)) hx hb (dk DX11_brings 131 rfl) (by decide) ?_
              refine lv_iload hx hb (dk DX11_brings 132 rfl) (lv_at hl 3 rfl) ?_
              refine lv_ineg hx hb (dk DX11_brings 133 rfl) ?_
              obtain ⟨xq24, mq22, hzq23, hF⟩ := bnd_ex hF
              refine r_callSi (As := [.int (a1 + (1 : Int32)), .int xq21, .int (10 : Int32), .int (-xq4)]) (rest := [.ref (G.2.1 + 87), .int (gI mq16 78 23), .ref (G.2.1 + 78)]) C hR (C_M_cell l hl0 G (a1 + (1 : Int32)) xq21 (10 : Int32) (-xq4) mq19 _ _ hzq23) (by decide) (by decide) wX11_357 rfl rfl (Nat.le_of_ble_eq_true rfl) hl.1 ⟨Nat.zero_le _, Nat.zero_le _⟩ (dk DX11_brings 134 rfl) (fun H locs hR => ?_)
              obtain ⟨hq25, hF⟩ := ckB_ex hF
              refine r_iald C hR ob87 hq25 (dk DX11_brings 135 rfl) ?_
              refine lv_topi (fun xq26 exq26 => ?_)
              have hF := lt_at exq26 hF
              refine lv_iadd hx hb (dk DX11_brings 136 rfl) ?_
              refine pX11_340 (x := (gI mq16 78 23) + xq26) C hR ob78 (dk DX11_brings 137 rfl) (fun H locs hR => ?_)
              obtain ⟨mq27, emq27, hF⟩ := lt_ex hF
              have hR := Rp_at emq27 hR
              refine lv_aload_n hx hb (dk DX11_brings 138 rfl) rfl (lv_at hl 0 rfl) ?_
              refine lv_dup hx hb (dk DX11_brings 139 rfl) rfl ?_
              refine gX11_343 C hR ob78 (dk DX11_brings 140 rfl) ?_
              refine lv_aload_n hx hb (dk DX11_brings 141 rfl) rfl (lv_at hl 0 rfl) ?_
              refine gX11_40 C hR ob78 rf78_17 (dk DX11_brings 142 rfl) ?_
              refine lv_iload_n hx hb (dk DX11_brings 143 rfl) rfl (lv_at hl 1 rfl) ?_
              refine lv_iconst (v := (1 : Int32)) hx hb (dk DX11_brings 144 rfl) (by decide) ?_
              refine lv_iadd hx hb (dk DX11_brings 145 rfl) ?_
              refine lv_iload_n hx hb (dk DX11_brings 146 rfl) rfl (lv_at hl 2 rfl) ?_
              obtain ⟨xq30, mq28, hzq29, hF⟩ := bnd_ex hF
              refine r_callSi (As := [.int a2]) (rest := [.int (a1 + (1 : Int32)), .ref (G.2.1 + 86), .int (gI mq27 78 24), .ref (G.2.1 + 78)]) C hR (C_M_nextKind l hl0 G a2 mq27 _ _ hzq29) (by decide) (by decide) wX11_361 rfl rfl (Nat.le_of_ble_eq_true rfl) hl.1 ⟨Nat.zero_le _, Nat.zero_le _⟩ (dk DX11_brings 147 rfl) (fun H locs hR => ?_)
              refine lv_bipush (v := (10 : Int32)) hx hb (dk DX11_brings 148 rfl) (by decide) ?_
              refine lv_iload hx hb (dk DX11_brings 149 rfl) (lv_at hl 3 rfl) ?_
              refine lv_ineg hx hb (dk DX11_brings 150 rfl) ?_
              obtain ⟨xq33, mq31, hzq32, hF⟩ := bnd_ex hF
              refine r_callSi (As := [.int (a1 + (1 : Int32)), .int xq30, .int (10 : Int32), .int (-xq4)]) (rest := [.ref (G.2.1 + 86), .int (gI mq27 78 24), .ref (G.2.1 + 78)]) C hR (C_M_cell l hl0 G (a1 + (1 : Int32)) xq30 (10 : Int32) (-xq4) mq28 _ _ hzq32) (by decide) (by decide) wX11_357 rfl rfl (Nat.le_of_ble_eq_true rfl) hl.1 ⟨Nat.zero_le _, Nat.zero_le _⟩ (dk DX11_brings 151 rfl) (fun H locs hR => ?_)
              obtain ⟨hq34, hF⟩ := ckB_ex hF
              refine r_iald C hR ob86 hq34 (dk DX11_brings 152 rfl) ?_
              refine lv_topi (fun xq35 exq35 => ?_)
              have hF := lt_at exq35 hF
              refine lv_iadd hx hb (dk DX11_brings 153 rfl) ?_
              refine pX11_343 (x := (gI mq27 78 24) + xq35) C hR ob78 (dk DX11_brings 154 rfl) (fun H locs hR => ?_)
              obtain ⟨mq36, emq36, hF⟩ := lt_ex hF
              have hR := Rp_at emq36 hR
              cases hF
              exact r_vret C hrt hR (dk DX11_brings 155 rfl)
          refine lv_icmp_le (tgt := 204) hx hb (dk DX11_brings 101 rfl) (by decide) (fun c177 => ?_) (fun c177 => ?_)
          · have hF := if_t c177 hF
            exact J204 mq12 _ _ ls (lv_sub hl [0, 1, 2, 3] rfl) hR hF
          · have hF := if_f c177 hF
            refine lv_iload hx hb (dk DX11_brings 102 rfl) (lv_at hl 3 rfl) ?_
            refine lv_if_ge (tgt := 204) hx hb (dk DX11_brings 103 rfl) (by decide) (fun c182 => ?_) (fun c182 => ?_)
            · have hF := if_t c182 hF
              exact J204 mq12 _ _ ls (lv_sub hl [0, 1, 2, 3] rfl) hR hF
            · have hF := if_f c182 hF
              refine lv_aload_n hx hb (dk DX11_brings 104 rfl) rfl (lv_at hl 0 rfl) ?_
              refine lv_dup hx hb (dk DX11_brings 105 rfl) rfl ?_
              refine gX11_343 C hR ob78 (dk DX11_brings 106 rfl) ?_
              refine lv_aload_n hx hb (dk DX11_brings 107 rfl) rfl (lv_at hl 0 rfl) ?_
              refine lv_iload_n hx hb (dk DX11_brings 108 rfl) rfl (lv_at hl 1 rfl) ?_
              refine lv_iconst (v := (1 : Int32)) hx hb (dk DX11_brings 109 rfl) (by decide) ?_
              refine lv_iadd hx hb (dk DX11_brings 110 rfl) ?_
              obtain ⟨xq39, mq37, hzq38, hF⟩ := bnd_ex hF
              refine r_callVi (As := [.int (a1 + (1 : Int32))]) (rest := [.int (gI mq12 78 24), .ref (G.2.1 + 78)]) C hR (C_M_all l hl0 G (a1 + (1 : Int32)) mq12 _ _ hzq38) (by decide) (by decide) ob78 rfl wX11_337 rfl rfl (Nat.le_of_ble_eq_true rfl) hl.1 ⟨Nat.zero_le _, Nat.zero_le _⟩ (dk DX11_brings 111 rfl) (fun H locs hR => ?_)
              refine lv_iadd hx hb (dk DX11_brings 112 rfl) ?_
              refine pX11_343 (x := (gI mq12 78 24) + xq39) C hR ob78 (dk DX11_brings 113 rfl) (fun H locs hR => ?_)
              obtain ⟨mq40, emq40, hF⟩ := lt_ex hF
              have hR := Rp_at emq40 hR
              refine lv_goto (tgt := 272) hx hb (dk DX11_brings 114 rfl) (by decide) ?_
              cases hF
              exact r_vret C hrt hR (dk DX11_brings 155 rfl)
        · have hF := if_f c141 hF
          refine lv_aload_n hx hb (dk DX11_brings 83 rfl) rfl (lv_at hl 0 rfl) ?_
          refine lv_dup hx hb (dk DX11_brings 84 rfl) rfl ?_
          refine gX11_343 C hR ob78 (dk DX11_brings 85 rfl) ?_
          refine lv_iload hx hb (dk DX11_brings 86 rfl) (lv_at hl 3 rfl) ?_
          obtain ⟨k165_42, ek165_42, hF⟩ := lt_ex hF
          have J165 : ∀ (xq42 : Int32) (mq41 : Mem) (H : Heap) (locs : List Loc) (ls : Array Slot), lv_has ls 9 [] → Rp G mr0 N0 mq41 s H locs → k165_42 xq42 mq41 = some (v, m') → W p l e (rmD 4) s mid args below meth c H locs 0 0 (MQ below (QR G mr0 N0 none m') args s 0 0 (fun q => G.2.1 ≤ q)) (F0 mid 165 ls [.int xq42, .int (gI mq11 78 24), .ref (G.2.1 + 78)]) := by
            intro xq42 mq41 H locs ls hl hR hF
            rw [ek165_42] at hF
            refine lv_iadd hx hb (dk DX11_brings 95 rfl) ?_
            refine pX11_343 (x := (gI mq11 78 24) + xq42) C hR ob78 (dk DX11_brings 96 rfl) (fun H locs hR => ?_)
            obtain ⟨mq43, emq43, hF⟩ := lt_ex hF
            have hR := Rp_at emq43 hR
            refine lv_goto (tgt := 272) hx hb (dk DX11_brings 97 rfl) (by decide) ?_
            cases hF
            exact r_vret C hrt hR (dk DX11_brings 155 rfl)
          refine lv_if_ge (tgt := 164) hx hb (dk DX11_brings 87 rfl) (by decide) (fun c151 => ?_) (fun c151 => ?_)
          · have hF := if_t c151 hF
            refine lv_iconst (v := (0 : Int32)) hx hb (dk DX11_brings 94 rfl) (by decide) ?_
            exact J165 (0 : Int32) mq11 _ _ ls (lv_sub hl [] rfl) hR hF
          · have hF := if_f c151 hF
            refine lv_aload_n hx hb (dk DX11_brings 88 rfl) rfl (lv_at hl 0 rfl) ?_
            refine lv_iload_n hx hb (dk DX11_brings 89 rfl) rfl (lv_at hl 1 rfl) ?_
            refine lv_iconst (v := (1 : Int32)) hx hb (dk DX11_brings 90 rfl) (by decide) ?_
            refine lv_iadd hx hb (dk DX11_brings 91 rfl) ?_
            obtain ⟨xq46, mq44, hzq45, hF⟩ := bnd_ex hF
            refine r_callVi (As := [.int (a1 + (1 : Int32))]) (rest := [.int (gI mq11 78 24), .ref (G.2.1 + 78)]) C hR (C_M_all l hl0 G (a1 + (1 : Int32)) mq11 _ _ hzq45) (by decide) (by decide) ob78 rfl wX11_337 rfl rfl (Nat.le_of_ble_eq_true rfl) hl.1 ⟨Nat.zero_le _, Nat.zero_le _⟩ (dk DX11_brings 92 rfl) (fun H locs hR => ?_)
            refine lv_goto (tgt := 165) hx hb (dk DX11_brings 93 rfl) (by decide) ?_
            exact J165 xq46 mq44 _ _ ls (lv_sub hl [] rfl) hR hF
      · have hF := if_f c72 hF
        refine lv_iload_n hx hb (dk DX11_brings 42 rfl) rfl (lv_at hl 1 rfl) ?_
        refine lv_iconst (v := (1 : Int32)) hx hb (dk DX11_brings 43 rfl) (by decide) ?_
        refine lv_iadd hx hb (dk DX11_brings 44 rfl) ?_
        refine lv_aload_n hx hb (dk DX11_brings 45 rfl) rfl (lv_at hl 0 rfl) ?_
        obtain ⟨xq49, mq47, hzq48, hF⟩ := bnd_ex hF
        refine r_callVi (As := []) (rest := [.int (a1 + (1 : Int32))]) C hR (C_M_size l hl0 G mq11 _ _ hzq48) (by decide) (by decide) ob78 rfl wX11_63 rfl rfl (Nat.le_of_ble_eq_true rfl) hl.1 ⟨Nat.zero_le _, Nat.zero_le _⟩ (dk DX11_brings 46 rfl) (fun H locs hR => ?_)
        refine lv_icmp_ne (tgt := 86) hx hb (dk DX11_brings 47 rfl) (by decide) (fun c82 => ?_) (fun c82 => ?_)
        · have hF := if_f c82 hF
          refine lv_aload_n hx hb (dk DX11_brings 49 rfl) rfl (lv_at hl 0 rfl) ?_
          refine lv_dup hx hb (dk DX11_brings 50 rfl) rfl ?_
          refine gX11_340 C hR ob78 (dk DX11_brings 51 rfl) ?_
          refine lv_aload_n hx hb (dk DX11_brings 52 rfl) rfl (lv_at hl 0 rfl) ?_
          refine gX11_40 C hR ob78 rf78_17 (dk DX11_brings 53 rfl) ?_
          refine lv_iload_n hx hb (dk DX11_brings 54 rfl) rfl (lv_at hl 1 rfl) ?_
          refine lv_iconst (v := (1 : Int32)) hx hb (dk DX11_brings 55 rfl) (by decide) ?_
          refine lv_iadd hx hb (dk DX11_brings 56 rfl) ?_
          refine lv_iload_n hx hb (dk DX11_brings 57 rfl) rfl (lv_at hl 2 rfl) ?_
          refine lv_iload hx hb (dk DX11_brings 58 rfl) (lv_at hl 4 rfl) ?_
          refine lv_iload hx hb (dk DX11_brings 59 rfl) (lv_at hl 3 rfl) ?_
          obtain ⟨xq52, mq50, hzq51, hF⟩ := bnd_ex hF
          refine r_callSi (As := [.int (a1 + (1 : Int32)), .int a2, .int xq10, .int xq4]) (rest := [.ref (G.2.1 + 86), .int (gI mq47 78 23), .ref (G.2.1 + 78)]) C hR (C_M_cell l hl0 G (a1 + (1 : Int32)) a2 xq10 xq4 mq47 _ _ hzq51) (by decide) (by decide) wX11_357 rfl rfl (Nat.le_of_ble_eq_true rfl) hl.1 ⟨Nat.zero_le _, Nat.zero_le _⟩ (dk DX11_brings 60 rfl) (fun H locs hR => ?_)
          obtain ⟨hq53, hF⟩ := ckB_ex hF
          refine r_iald C hR ob86 hq53 (dk DX11_brings 61 rfl) ?_
          refine lv_topi (fun xq54 exq54 => ?_)
          have hF := lt_at exq54 hF
          refine lv_iadd hx hb (dk DX11_brings 62 rfl) ?_
          refine pX11_340 (x := (gI mq47 78 23) + xq54) C hR ob78 (dk DX11_brings 63 rfl) (fun H locs hR => ?_)
          obtain ⟨mq55, emq55, hF⟩ := lt_ex hF
          have hR := Rp_at emq55 hR
          refine lv_aload_n hx hb (dk DX11_brings 64 rfl) rfl (lv_at hl 0 rfl) ?_
          refine lv_dup hx hb (dk DX11_brings 65 rfl) rfl ?_
          refine gX11_343 C hR ob78 (dk DX11_brings 66 rfl) ?_
          refine lv_aload_n hx hb (dk DX11_brings 67 rfl) rfl (lv_at hl 0 rfl) ?_
          refine gX11_43 C hR ob78 rf78_18 (dk DX11_brings 68 rfl) ?_
          refine lv_iload_n hx hb (dk DX11_brings 69 rfl) rfl (lv_at hl 1 rfl) ?_
          refine lv_iconst (v := (1 : Int32)) hx hb (dk DX11_brings 70 rfl) (by decide) ?_
          refine lv_iadd hx hb (dk DX11_brings 71 rfl) ?_
          refine lv_iload_n hx hb (dk DX11_brings 72 rfl) rfl (lv_at hl 2 rfl) ?_
          refine lv_iload hx hb (dk DX11_brings 73 rfl) (lv_at hl 4 rfl) ?_
          refine lv_iload hx hb (dk DX11_brings 74 rfl) (lv_at hl 3 rfl) ?_
          obtain ⟨xq58, mq56, hzq57, hF⟩ := bnd_ex hF
          refine r_callSi (As := [.int (a1 + (1 : Int32)), .int a2, .int xq10, .int xq4]) (rest := [.ref (G.2.1 + 87), .int (gI mq55 78 24), .ref (G.2.1 + 78)]) C hR (C_M_cell l hl0 G (a1 + (1 : Int32)) a2 xq10 xq4 mq55 _ _ hzq57) (by decide) (by decide) wX11_357 rfl rfl (Nat.le_of_ble_eq_true rfl) hl.1 ⟨Nat.zero_le _, Nat.zero_le _⟩ (dk DX11_brings 75 rfl) (fun H locs hR => ?_)
          obtain ⟨hq59, hF⟩ := ckB_ex hF
          refine r_iald C hR ob87 hq59 (dk DX11_brings 76 rfl) ?_
          refine lv_topi (fun xq60 exq60 => ?_)
          have hF := lt_at exq60 hF
          refine lv_iadd hx hb (dk DX11_brings 77 rfl) ?_
          refine pX11_343 (x := (gI mq55 78 24) + xq60) C hR ob78 (dk DX11_brings 78 rfl) (fun H locs hR => ?_)
          obtain ⟨mq61, emq61, hF⟩ := lt_ex hF
          have hR := Rp_at emq61 hR
          refine lv_goto (tgt := 272) hx hb (dk DX11_brings 79 rfl) (by decide) ?_
          cases hF
          exact r_vret C hrt hR (dk DX11_brings 155 rfl)
        · have hF := if_t c82 hF
          cases hF
          exact r_vret C hrt hR (dk DX11_brings 48 rfl)
    refine lv_icmp_le (tgt := 68) hx hb (dk DX11_brings 25 rfl) (by decide) (fun c41 => ?_) (fun c41 => ?_)
    · have hF := if_t c41 hF
      exact J68 mq7 _ _ ls (lv_sub hl [1, 2, 3, 6, 0] rfl) hR hF
    · have hF := if_f c41 hF
      refine lv_iload hx hb (dk DX11_brings 26 rfl) (lv_at hl 6 rfl) ?_
      refine lv_if_le (tgt := 68) hx hb (dk DX11_brings 27 rfl) (by decide) (fun c46 => ?_) (fun c46 => ?_)
      · have hF := if_t c46 hF
        exact J68 mq7 _ _ ls (lv_sub hl [1, 2, 3, 6, 0] rfl) hR hF
      · have hF := if_f c46 hF
        refine lv_aload_n hx hb (dk DX11_brings 28 rfl) rfl (lv_at hl 1 rfl) ?_
        refine lv_dup hx hb (dk DX11_brings 29 rfl) rfl ?_
        refine gX11_340 C hR ob78 (dk DX11_brings 30 rfl) ?_
        refine lv_aload_n hx hb (dk DX11_brings 31 rfl) rfl (lv_at hl 1 rfl) ?_
        refine lv_iload_n hx hb (dk DX11_brings 32 rfl) rfl (lv_at hl 2 rfl) ?_
        refine lv_iconst (v := (1 : Int32)) hx hb (dk DX11_brings 33 rfl) (by decide) ?_
        refine lv_iadd hx hb (dk DX11_brings 34 rfl) ?_
        obtain ⟨xq64, mq62, hzq63, hF⟩ := bnd_ex hF
        refine r_callVi (As := [.int (a1 + (1 : Int32))]) (rest := [.int (gI mq7 78 23), .ref (G.2.1 + 78)]) C hR (C_M_all l hl0 G (a1 + (1 : Int32)) mq7 _ _ hzq63) (by decide) (by decide) ob78 rfl wX11_337 rfl rfl (Nat.le_of_ble_eq_true rfl) hl.1 ⟨Nat.zero_le _, Nat.zero_le _⟩ (dk DX11_brings 35 rfl) (fun H locs hR => ?_)
        refine lv_iadd hx hb (dk DX11_brings 36 rfl) ?_
        refine pX11_340 (x := (gI mq7 78 23) + xq64) C hR ob78 (dk DX11_brings 37 rfl) (fun H locs hR => ?_)
        obtain ⟨mq65, emq65, hF⟩ := lt_ex hF
        have hR := Rp_at emq65 hR
        refine lv_goto (tgt := 272) hx hb (dk DX11_brings 38 rfl) (by decide) ?_
        cases hF
        exact r_vret C hrt hR (dk DX11_brings 155 rfl)
  refine lv_icmp_ne (tgt := 25) hx hb (dk DX11_brings 11 rfl) (by decide) (fun c18 => ?_) (fun c18 => ?_)
  · have hF := if_f c18 hF
    refine lv_iload_n hx hb (dk DX11_brings 14 rfl) rfl (lv_at hl 4 rfl) ?_
    exact J26 a3 mq1 _ _ ls (lv_sub hl [1, 2, 3, 6, 7, 0] rfl) hR hF
  · have hF := if_t c18 hF
    refine lv_iconst (v := (0 : Int32)) hx hb (dk DX11_brings 12 rfl) (by decide) ?_
    refine lv_goto (tgt := 26) hx hb (dk DX11_brings 13 rfl) (by decide) ?_
    exact J26 (0 : Int32) mq1 _ _ ls (lv_sub hl [1, 2, 3, 6, 7, 0] rfl) hR hF
set_option maxHeartbeats 4000000 in
set_option maxRecDepth 100000 in
theorem C_M_goesOn (l : Launch) (hl0 : l.stackTraces = false) (G : GG) (a1 : Int32) (a2 : Int32) (a3 : Int32) (a4 : Int32) (a5 : Bool) (m0 : Mem) (v : Unit) (m' : Mem) (hF : F_M_goesOn a1 a2 a3 a4 a5 m0 = some (v, m')) : Ct l G mr0 N0 yX11_goesOn cX11_goesOn 7 none 5 [.ref (G.2.1 + 78), .int a1, .int a2, .int a3, .int a4, .int (b2i a5)] m0 none m' := by
  refine Ct_of hl0 (by decide) (Nat.le_of_ble_eq_true rfl) ?_
  intro p e s mid args below meth c ls C hrt hl hR
  have hx := C.1.1
  have hb := C.1.2.1
  have hl : lv_has ls 7 [(0, .ref (G.2.1 + 78)), (1, .int a1), (2, .int a2), (3, .int a3), (4, .int a4), (5, .int (b2i a5))] := hl
  unfold F_M_goesOn at hF
  refine lv_aload_n hx hb (dk DX11_goesOn 0 rfl) rfl (lv_at hl 0 rfl) ?_
  refine lv_iconst (v := (0 : Int32)) hx hb (dk DX11_goesOn 1 rfl) (by decide) ?_
  refine pX11_340 (x := (0 : Int32)) C hR ob78 (dk DX11_goesOn 2 rfl) (fun H locs hR => ?_)
  obtain ⟨mq1, emq1, hF⟩ := lt_ex hF
  have hR := Rp_at emq1 hR
  refine lv_aload_n hx hb (dk DX11_goesOn 3 rfl) rfl (lv_at hl 0 rfl) ?_
  refine lv_iconst (v := (0 : Int32)) hx hb (dk DX11_goesOn 4 rfl) (by decide) ?_
  refine pX11_343 (x := (0 : Int32)) C hR ob78 (dk DX11_goesOn 5 rfl) (fun H locs hR => ?_)
  obtain ⟨mq2, emq2, hF⟩ := lt_ex hF
  have hR := Rp_at emq2 hR
  refine lv_iconst (v := (0 : Int32)) hx hb (dk DX11_goesOn 6 rfl) (by decide) ?_
  refine lv_istore (lv' := [(6, .int (0 : Int32)), (0, .ref (G.2.1 + 78)), (1, .int a1), (2, .int a2), (3, .int a3), (4, .int a4), (5, .int (b2i a5))]) hx hb (dk DX11_goesOn 7 rfl) hl (by decide) rfl (fun ls hl => ?_)
  have L13 : ∀ (nf : Nat) (xq4 : Int32) (mq3 : Mem) (H : Heap) (locs : List Loc) (ls : Array Slot), lv_has ls 7 [(0, .ref (G.2.1 + 78)), (1, .int a1), (2, .int a2), (3, .int a3), (4, .int a4), (5, .int (b2i a5)), (6, .int xq4)] → Rp G mr0 N0 mq3 s H locs → F_M_goesOn_L13 a1 a2 a3 a4 a5 nf xq4 mq3 = some (v, m') → W p l e (rmD 5) s mid args below meth c H locs 0 0 (MQ below (QR G mr0 N0 none m') args s 0 0 (fun q => G.2.1 ≤ q)) (F0 mid 13 ls []) := by
    intro nf
    induction nf with
    | zero =>
      intro xq4 mq3 H locs ls hl hR hF
      rw [F_M_goesOn_L13] at hF
      cases hF
    | succ nf ihq6 =>
      intro xq4 mq3 H locs ls hl hR hF
      rw [F_M_goesOn_L13] at hF
      refine lv_iload hx hb (dk DX11_goesOn 8 rfl) (lv_at hl 6 rfl) ?_
      refine lv_iconst (v := (4 : Int32)) hx hb (dk DX11_goesOn 9 rfl) (by decide) ?_
      refine lv_icmp_ge (tgt := 38) hx hb (dk DX11_goesOn 10 rfl) (by decide) (fun c16 => ?_) (fun c16 => ?_)
      · have hF := if_t c16 hF
        cases hF
        exact r_vret C hrt hR (dk DX11_goesOn 21 rfl)
      · have hF := if_f c16 hF
        refine lv_aload_n hx hb (dk DX11_goesOn 11 rfl) rfl (lv_at hl 0 rfl) ?_
        refine lv_iload_n hx hb (dk DX11_goesOn 12 rfl) rfl (lv_at hl 1 rfl) ?_
        refine lv_iload_n hx hb (dk DX11_goesOn 13 rfl) rfl (lv_at hl 2 rfl) ?_
        refine lv_iload_n hx hb (dk DX11_goesOn 14 rfl) rfl (lv_at hl 3 rfl) ?_
        refine lv_iload hx hb (dk DX11_goesOn 15 rfl) (lv_at hl 4 rfl) ?_
        refine lv_iload hx hb (dk DX11_goesOn 16 rfl) (lv_at hl 6 rfl) ?_
        refine lv_iload hx hb (dk DX11_goesOn 17 rfl) (lv_at hl 5 rfl) ?_
        obtain ⟨uq9, mq7, hzq8, hF⟩ := bnd_ex hF
        refine r_callVv (As := [.int a1, .int a2, .int a3, .int a4, .int xq4, .int (b2i a5)]) (rest := []) C hR (C_M_brings l hl0 G a1 a2 a3 a4 xq4 a5 mq3 _ _ hzq8) (by decide) (by decide) ob78 rfl wX11_364 rfl rfl (Nat.le_of_ble_eq_true rfl) hl.1 ⟨Nat.zero_le _, Nat.zero_le _⟩ (dk DX11_goesOn 18 rfl) (fun H locs hR => ?_)
        obtain ⟨xq10, exq10, hF⟩ := lt_ex hF
        refine lv_iinc (v := xq10) (lv' := [(6, .int xq10), (0, .ref (G.2.1 + 78)), (1, .int a1), (2, .int a2), (3, .int a3), (4, .int a4), (5, .int (b2i a5))]) hx hb (dk DX11_goesOn 19 rfl) hl (k := 6) rfl (by rw [exq10]; rfl) (by decide) rfl (fun ls hl => ?_)
        refine lv_goto (tgt := 13) hx hb (dk DX11_goesOn 20 rfl) (by decide) ?_
        exact ihq6 xq10 mq7 _ _ ls (lv_sub hl [1, 2, 3, 4, 5, 6, 0] rfl) hR hF
  exact L13 1000000 (0 : Int32) mq2 _ _ ls (lv_sub hl [1, 2, 3, 4, 5, 6, 0] rfl) hR hF
set_option maxHeartbeats 4000000 in
set_option maxRecDepth 100000 in
theorem C_M_worthOf (l : Launch) (hl0 : l.stackTraces = false) (G : GG) (a1 : Int32) (a2 : Int32) (a3 : Int32) (m0 : Mem) (v : Int64) (m' : Mem) (hF : F_M_worthOf a1 a2 a3 m0 = some (v, m')) : Ct l G mr0 N0 yX11_worthOf cX11_worthOf 4 (some .long) 3 [.ref (G.2.1 + 78), .int a1, .int a2, .int a3] m0 (some (.long v)) m' := by
  refine Ct_of hl0 (by decide) (Nat.le_of_ble_eq_true rfl) ?_
  intro p e s mid args below meth c ls C hrt hl hR
  have hx := C.1.1
  have hb := C.1.2.1
  have hl : lv_has ls 4 [(0, .ref (G.2.1 + 78)), (1, .int a1), (2, .int a2), (3, .int a3)] := hl
  unfold F_M_worthOf at hF
  refine lv_ldc2 (v := (100 : Int64)) hx hb C.1.2.2.2.1 (C.1.2.2.2.2 _ (gd q2125 rfl)) (dk DX11_worthOf 0 rfl) ?_
  refine lv_iload_n hx hb (dk DX11_worthOf 1 rfl) rfl (lv_at hl 2 rfl) ?_
  refine lv_i2l hx hb (dk DX11_worthOf 2 rfl) rfl ?_
  refine lv_lmul hx hb (dk DX11_worthOf 3 rfl) ?_
  refine lv_aload_n hx hb (dk DX11_worthOf 4 rfl) rfl (lv_at hl 0 rfl) ?_
  refine gX11_334 C hR ob78 (dk DX11_worthOf 5 rfl) ?_
  refine lv_i2l hx hb (dk DX11_worthOf 6 rfl) rfl ?_
  refine lv_aload_n hx hb (dk DX11_worthOf 7 rfl) rfl (lv_at hl 0 rfl) ?_
  refine lv_iload_n hx hb (dk DX11_worthOf 8 rfl) rfl (lv_at hl 1 rfl) ?_
  obtain ⟨xq3, mq1, hzq2, hF⟩ := bnd_ex hF
  refine r_callVi (As := [.int a1]) (rest := [.long ((gI m0 78 21).toInt64), .long ((100 : Int64) * a2.toInt64)]) C hR (C_M_all l hl0 G a1 m0 _ _ hzq2) (by decide) (by decide) ob78 rfl wX11_337 rfl rfl (Nat.le_of_ble_eq_true rfl) hl.1 ⟨Nat.zero_le _, Nat.zero_le _⟩ (dk DX11_worthOf 9 rfl) (fun H locs hR => ?_)
  refine lv_iload_n hx hb (dk DX11_worthOf 10 rfl) rfl (lv_at hl 2 rfl) ?_
  refine lv_isub hx hb (dk DX11_worthOf 11 rfl) ?_
  refine lv_iload_n hx hb (dk DX11_worthOf 12 rfl) rfl (lv_at hl 3 rfl) ?_
  refine lv_isub hx hb (dk DX11_worthOf 13 rfl) ?_
  refine lv_i2l hx hb (dk DX11_worthOf 14 rfl) rfl ?_
  refine lv_lmul hx hb (dk DX11_worthOf 15 rfl) ?_
  refine lv_topl (fun yq4 eyq4 => ?_)
  have hF := lt_at eyq4 hF
  refine lv_ladd hx hb (dk DX11_worthOf 16 rfl) ?_
  cases hF
  exact r_lret C hrt hR (dk DX11_worthOf 17 rfl)
set_option maxHeartbeats 4000000 in
set_option maxRecDepth 100000 in
theorem C_M_got (l : Launch) (hl0 : l.stackTraces = false) (G : GG) (a1 : Int32) (m0 : Mem) (v : Int64) (m' : Mem) (hF : F_M_got a1 m0 = some (v, m')) : Ct l G mr0 N0 yX11_got cX11_got 2 (some .long) 4 [.ref (G.2.1 + 78), .int a1] m0 (some (.long v)) m' := by
  refine Ct_of hl0 (by decide) (Nat.le_of_ble_eq_true rfl) ?_
  intro p e s mid args below meth c ls C hrt hl hR
  have hx := C.1.1
  have hb := C.1.2.1
  have hl : lv_has ls 2 [(0, .ref (G.2.1 + 78)), (1, .int a1)] := hl
  unfold F_M_got at hF
  refine lv_aload_n hx hb (dk DX11_got 0 rfl) rfl (lv_at hl 0 rfl) ?_
  refine lv_iload_n hx hb (dk DX11_got 1 rfl) rfl (lv_at hl 1 rfl) ?_
  refine lv_aload_n hx hb (dk DX11_got 2 rfl) rfl (lv_at hl 0 rfl) ?_
  refine gX11_340 C hR ob78 (dk DX11_got 3 rfl) ?_
  refine lv_aload_n hx hb (dk DX11_got 4 rfl) rfl (lv_at hl 0 rfl) ?_
  refine gX11_343 C hR ob78 (dk DX11_got 5 rfl) ?_
  obtain ⟨yq3, mq1, hzq2, hF⟩ := bnd_ex hF
  refine r_callVl (As := [.int a1, .int (gI m0 78 23), .int (gI m0 78 24)]) (rest := []) C hR (C_M_worthOf l hl0 G a1 (gI m0 78 23) (gI m0 78 24) m0 _ _ hzq2) (by decide) (by decide) ob78 rfl wX11_346 rfl rfl (Nat.le_of_ble_eq_true rfl) hl.1 ⟨Nat.zero_le _, Nat.zero_le _⟩ (dk DX11_got 6 rfl) (fun H locs hR => ?_)
  cases hF
  exact r_lret C hrt hR (dk DX11_got 7 rfl)
set_option maxHeartbeats 4000000 in
set_option maxRecDepth 100000 in
theorem C_M_mayDeclare (l : Launch) (hl0 : l.stackTraces = false) (G : GG) (a1 : Int32) (a2 : Int32) (m0 : Mem) (v : Bool) (m' : Mem) (hF : F_M_mayDeclare a1 a2 m0 = some (v, m')) : Ct l G mr0 N0 yX11_mayDeclare cX11_mayDeclare 3 (some .boolean) 1 [.ref (G.2.1 + 78), .int a1, .int a2] m0 (some (.int (b2i v))) m' := by
  refine Ct_of hl0 (by decide) (Nat.le_of_ble_eq_true rfl) ?_
  intro p e s mid args below meth c ls C hrt hl hR
  have hx := C.1.1
  have hb := C.1.2.1
  have hl : lv_has ls 3 [(0, .ref (G.2.1 + 78)), (1, .int a1), (2, .int a2)] := hl
  unfold F_M_mayDeclare at hF
  refine lv_iload_n hx hb (dk DX11_mayDeclare 0 rfl) rfl (lv_at hl 1 rfl) ?_
  refine lv_iconst (v := (4 : Int32)) hx hb (dk DX11_mayDeclare 1 rfl) (by decide) ?_
  refine lv_icmp_ge (tgt := 15) hx hb (dk DX11_mayDeclare 2 rfl) (by decide) (fun c2 => ?_) (fun c2 => ?_)
  · have hF := if_t c2 hF
    refine lv_iconst (v := (0 : Int32)) hx hb (dk DX11_mayDeclare 8 rfl) (by decide) ?_
    cases hF
    exact r_zret C hrt hR (dk DX11_mayDeclare 9 rfl)
  · have hF := if_f c2 hF
    refine lv_iload_n hx hb (dk DX11_mayDeclare 3 rfl) rfl (lv_at hl 2 rfl) ?_
    refine lv_bipush (v := (10 : Int32)) hx hb (dk DX11_mayDeclare 4 rfl) (by decide) ?_
    refine lv_icmp_eq (tgt := 15) hx hb (dk DX11_mayDeclare 5 rfl) (by decide) (fun c8 => ?_) (fun c8 => ?_)
    · have hF := if_t c8 hF
      refine lv_iconst (v := (0 : Int32)) hx hb (dk DX11_mayDeclare 8 rfl) (by decide) ?_
      cases hF
      exact r_zret C hrt hR (dk DX11_mayDeclare 9 rfl)
    · have hF := if_f c8 hF
      refine lv_iconst (v := (1 : Int32)) hx hb (dk DX11_mayDeclare 6 rfl) (by decide) ?_
      refine lv_goto (tgt := 16) hx hb (dk DX11_mayDeclare 7 rfl) (by decide) ?_
      cases hF
      exact r_zret C hrt hR (dk DX11_mayDeclare 9 rfl)
set_option maxHeartbeats 4000000 in
set_option maxRecDepth 100000 in
theorem C_M_mayFollow (l : Launch) (hl0 : l.stackTraces = false) (G : GG) (a1 : Int32) (a2 : Int32) (a3 : Int32) (m0 : Mem) (v : Bool) (m' : Mem) (hF : F_M_mayFollow a1 a2 a3 m0 = some (v, m')) : Ct l G mr0 N0 yX11_mayFollow cX11_mayFollow 4 (some .boolean) 1 [.ref (G.2.1 + 78), .int a1, .int a2, .int a3] m0 (some (.int (b2i v))) m' := by
  refine Ct_of hl0 (by decide) (Nat.le_of_ble_eq_true rfl) ?_
  intro p e s mid args below meth c ls C hrt hl hR
  have hx := C.1.1
  have hb := C.1.2.1
  have hl : lv_has ls 4 [(0, .ref (G.2.1 + 78)), (1, .int a1), (2, .int a2), (3, .int a3)] := hl
  unfold F_M_mayFollow at hF
  refine lv_iload_n hx hb (dk DX11_mayFollow 0 rfl) rfl (lv_at hl 1 rfl) ?_
  refine lv_iconst (v := (2 : Int32)) hx hb (dk DX11_mayFollow 1 rfl) (by decide) ?_
  refine lv_icmp_ne (tgt := 25) hx hb (dk DX11_mayFollow 2 rfl) (by decide) (fun c2 => ?_) (fun c2 => ?_)
  · have hF := if_f c2 hF
    refine lv_iconst (v := (0 : Int32)) hx hb (dk DX11_mayFollow 14 rfl) (by decide) ?_
    cases hF
    exact r_zret C hrt hR (dk DX11_mayFollow 15 rfl)
  · have hF := if_t c2 hF
    refine lv_iload_n hx hb (dk DX11_mayFollow 3 rfl) rfl (lv_at hl 2 rfl) ?_
    refine lv_bipush (v := (10 : Int32)) hx hb (dk DX11_mayFollow 4 rfl) (by decide) ?_
    refine lv_icmp_ne (tgt := 25) hx hb (dk DX11_mayFollow 5 rfl) (by decide) (fun c8 => ?_) (fun c8 => ?_)
    · have hF := if_f c8 hF
      refine lv_iconst (v := (0 : Int32)) hx hb (dk DX11_mayFollow 14 rfl) (by decide) ?_
      cases hF
      exact r_zret C hrt hR (dk DX11_mayFollow 15 rfl)
    · have hF := if_t c8 hF
      refine lv_iload_n hx hb (dk DX11_mayFollow 6 rfl) rfl (lv_at hl 3 rfl) ?_
      refine lv_aload_n hx hb (dk DX11_mayFollow 7 rfl) rfl (lv_at hl 0 rfl) ?_
      refine gX11_13 C hR ob78 rf78_1 (dk DX11_mayFollow 8 rfl) ?_
      refine lv_iconst (v := (1 : Int32)) hx hb (dk DX11_mayFollow 9 rfl) (by decide) ?_
      refine r_iald C hR ob79 rfl (dk DX11_mayFollow 10 rfl) ?_
      refine lv_icmp_lt (tgt := 25) hx hb (dk DX11_mayFollow 11 rfl) (by decide) (fun c18 => ?_) (fun c18 => ?_)
      · have hF := if_t c18 hF
        refine lv_iconst (v := (0 : Int32)) hx hb (dk DX11_mayFollow 14 rfl) (by decide) ?_
        cases hF
        exact r_zret C hrt hR (dk DX11_mayFollow 15 rfl)
      · have hF := if_f c18 hF
        refine lv_iconst (v := (1 : Int32)) hx hb (dk DX11_mayFollow 12 rfl) (by decide) ?_
        refine lv_goto (tgt := 26) hx hb (dk DX11_mayFollow 13 rfl) (by decide) ?_
        cases hF
        exact r_zret C hrt hR (dk DX11_mayFollow 15 rfl)
set_option maxHeartbeats 4000000 in
set_option maxRecDepth 100000 in
theorem C_M_handsOver (l : Launch) (hl0 : l.stackTraces = false) (G : GG) (a1 : Int32) (a2 : Int32) (a3 : Int32) (m0 : Mem) (v : Unit) (m' : Mem) (hF : F_M_handsOver a1 a2 a3 m0 = some (v, m')) : Ct l G mr0 N0 yX11_handsOver cX11_handsOver 4 none 2 [.ref (G.2.1 + 78), .int a1, .int a2, .int a3] m0 none m' := by
  refine Ct_of hl0 (by decide) (Nat.le_of_ble_eq_true rfl) ?_
  intro p e s mid args below meth c ls C hrt hl hR
  have hx := C.1.1
  have hb := C.1.2.1
  have hl : lv_has ls 4 [(0, .ref (G.2.1 + 78)), (1, .int a1), (2, .int a2), (3, .int a3)] := hl
  unfold F_M_handsOver at hF
  refine lv_aload_n hx hb (dk DX11_handsOver 0 rfl) rfl (lv_at hl 0 rfl) ?_
  refine lv_aload_n hx hb (dk DX11_handsOver 1 rfl) rfl (lv_at hl 0 rfl) ?_
  refine gX11_43 C hR ob78 rf78_18 (dk DX11_handsOver 2 rfl) ?_
  refine lv_iload_n hx hb (dk DX11_handsOver 3 rfl) rfl (lv_at hl 1 rfl) ?_
  refine lv_iload_n hx hb (dk DX11_handsOver 4 rfl) rfl (lv_at hl 2 rfl) ?_
  refine lv_bipush (v := (10 : Int32)) hx hb (dk DX11_handsOver 5 rfl) (by decide) ?_
  refine lv_iload_n hx hb (dk DX11_handsOver 6 rfl) rfl (lv_at hl 3 rfl) ?_
  refine lv_ineg hx hb (dk DX11_handsOver 7 rfl) ?_
  obtain ⟨xq3, mq1, hzq2, hF⟩ := bnd_ex hF
  refine r_callSi (As := [.int a1, .int a2, .int (10 : Int32), .int (-a3)]) (rest := [.ref (G.2.1 + 87), .ref (G.2.1 + 78)]) C hR (C_M_cell l hl0 G a1 a2 (10 : Int32) (-a3) m0 _ _ hzq2) (by decide) (by decide) wX11_357 rfl rfl (Nat.le_of_ble_eq_true rfl) hl.1 ⟨Nat.zero_le _, Nat.zero_le _⟩ (dk DX11_handsOver 8 rfl) (fun H locs hR => ?_)
  obtain ⟨hq4, hF⟩ := ckB_ex hF
  refine r_iald C hR ob87 hq4 (dk DX11_handsOver 9 rfl) ?_
  refine lv_topi (fun xq5 exq5 => ?_)
  have hF := lt_at exq5 hF
  refine pX11_340 (x := xq5) C hR ob78 (dk DX11_handsOver 10 rfl) (fun H locs hR => ?_)
  obtain ⟨mq6, emq6, hF⟩ := lt_ex hF
  have hR := Rp_at emq6 hR
  refine lv_aload_n hx hb (dk DX11_handsOver 11 rfl) rfl (lv_at hl 0 rfl) ?_
  refine lv_aload_n hx hb (dk DX11_handsOver 12 rfl) rfl (lv_at hl 0 rfl) ?_
  refine gX11_40 C hR ob78 rf78_17 (dk DX11_handsOver 13 rfl) ?_
  refine lv_iload_n hx hb (dk DX11_handsOver 14 rfl) rfl (lv_at hl 1 rfl) ?_
  refine lv_iload_n hx hb (dk DX11_handsOver 15 rfl) rfl (lv_at hl 2 rfl) ?_
  refine lv_bipush (v := (10 : Int32)) hx hb (dk DX11_handsOver 16 rfl) (by decide) ?_
  refine lv_iload_n hx hb (dk DX11_handsOver 17 rfl) rfl (lv_at hl 3 rfl) ?_
  refine lv_ineg hx hb (dk DX11_handsOver 18 rfl) ?_
  obtain ⟨xq9, mq7, hzq8, hF⟩ := bnd_ex hF
  refine r_callSi (As := [.int a1, .int a2, .int (10 : Int32), .int (-a3)]) (rest := [.ref (G.2.1 + 86), .ref (G.2.1 + 78)]) C hR (C_M_cell l hl0 G a1 a2 (10 : Int32) (-a3) mq6 _ _ hzq8) (by decide) (by decide) wX11_357 rfl rfl (Nat.le_of_ble_eq_true rfl) hl.1 ⟨Nat.zero_le _, Nat.zero_le _⟩ (dk DX11_handsOver 19 rfl) (fun H locs hR => ?_)
  obtain ⟨hq10, hF⟩ := ckB_ex hF
  refine r_iald C hR ob86 hq10 (dk DX11_handsOver 20 rfl) ?_
  refine lv_topi (fun xq11 exq11 => ?_)
  have hF := lt_at exq11 hF
  refine pX11_343 (x := xq11) C hR ob78 (dk DX11_handsOver 21 rfl) (fun H locs hR => ?_)
  obtain ⟨mq12, emq12, hF⟩ := lt_ex hF
  have hR := Rp_at emq12 hR
  cases hF
  exact r_vret C hrt hR (dk DX11_handsOver 22 rfl)
