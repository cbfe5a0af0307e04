set_option maxHeartbeats 4000000 in
set_option maxRecDepth 100000 in
theorem C_M_takes (l : Launch) (hl0 : l.stackTraces = false) (G : GG) (a1 : Int32) (a2 : Int32) (a3 : Int32) (a4 : Int32) (m0 : Mem) (v : Unit) (m' : Mem) (hF : F_M_takes a1 a2 a3 a4 m0 = some (v, m')) : Ct l G mr0 N0 yX11_takes cX11_takes 5 none 2 [.ref (G.2.1 + 78), .int a1, .int a2, .int a3, .int a4] m0 none m' := by
  refine Ct_of hl0 (by decide) (Nat.le_of_ble_eq_true rfl) ?_
  intro p e s mid args below meth c ls C hrt hl hR
  have hx := C.1.1
  have hb := C.1.2.1
  have hl : lv_has ls 5 [(0, .ref (G.2.1 + 78)), (1, .int a1), (2, .int a2), (3, .int a3), (4, .int a4)] := hl
  unfold F_M_takes at hF
  refine lv_aload_n hx hb (dk DX11_takes 0 rfl) rfl (lv_at hl 0 rfl) ?_
  refine lv_aload_n hx hb (dk DX11_takes 1 rfl) rfl (lv_at hl 0 rfl) ?_
  refine gX11_40 C hR ob78 rf78_17 (dk DX11_takes 2 rfl) ?_
  refine lv_iload_n hx hb (dk DX11_takes 3 rfl) rfl (lv_at hl 1 rfl) ?_
  refine lv_iload_n hx hb (dk DX11_takes 4 rfl) rfl (lv_at hl 2 rfl) ?_
  refine lv_iload_n hx hb (dk DX11_takes 5 rfl) rfl (lv_at hl 3 rfl) ?_
  refine lv_iload hx hb (dk DX11_takes 6 rfl) (lv_at hl 4 rfl) ?_
  obtain ⟨xq3, mq1, hzq2, hF⟩ := bnd_ex hF
  refine r_callSi (As := [.int a1, .int a2, .int a3, .int a4]) (rest := [.ref (G.2.1 + 86), .ref (G.2.1 + 78)]) C hR (C_M_cell l hl0 G a1 a2 a3 a4 m0 _ _ hzq2) (by decide) (by decide) wX11_357 rfl rfl (Nat.le_of_ble_eq_true rfl) hl.1 ⟨Nat.zero_le _, Nat.zero_le _⟩ (dk DX11_takes 7 rfl) (fun H locs hR => ?_)
  obtain ⟨hq4, hF⟩ := ckB_ex hF
  refine r_iald C hR ob86 hq4 (dk DX11_takes 8 rfl) ?_
  refine lv_topi (fun xq5 exq5 => ?_)
  have hF := lt_at exq5 hF
  refine pX11_340 (x := xq5) C hR ob78 (dk DX11_takes 9 rfl) (fun H locs hR => ?_)
  obtain ⟨mq6, emq6, hF⟩ := lt_ex hF
  have hR := Rp_at emq6 hR
  refine lv_aload_n hx hb (dk DX11_takes 10 rfl) rfl (lv_at hl 0 rfl) ?_
  refine lv_aload_n hx hb (dk DX11_takes 11 rfl) rfl (lv_at hl 0 rfl) ?_
  refine gX11_43 C hR ob78 rf78_18 (dk DX11_takes 12 rfl) ?_
  refine lv_iload_n hx hb (dk DX11_takes 13 rfl) rfl (lv_at hl 1 rfl) ?_
  refine lv_iload_n hx hb (dk DX11_takes 14 rfl) rfl (lv_at hl 2 rfl) ?_
  refine lv_iload_n hx hb (dk DX11_takes 15 rfl) rfl (lv_at hl 3 rfl) ?_
  refine lv_iload hx hb (dk DX11_takes 16 rfl) (lv_at hl 4 rfl) ?_
  obtain ⟨xq9, mq7, hzq8, hF⟩ := bnd_ex hF
  refine r_callSi (As := [.int a1, .int a2, .int a3, .int a4]) (rest := [.ref (G.2.1 + 87), .ref (G.2.1 + 78)]) C hR (C_M_cell l hl0 G a1 a2 a3 a4 mq6 _ _ hzq8) (by decide) (by decide) wX11_357 rfl rfl (Nat.le_of_ble_eq_true rfl) hl.1 ⟨Nat.zero_le _, Nat.zero_le _⟩ (dk DX11_takes 17 rfl) (fun H locs hR => ?_)
  obtain ⟨hq10, hF⟩ := ckB_ex hF
  refine r_iald C hR ob87 hq10 (dk DX11_takes 18 rfl) ?_
  refine lv_topi (fun xq11 exq11 => ?_)
  have hF := lt_at exq11 hF
  refine pX11_343 (x := xq11) C hR ob78 (dk DX11_takes 19 rfl) (fun H locs hR => ?_)
  obtain ⟨mq12, emq12, hF⟩ := lt_ex hF
  have hR := Rp_at emq12 hR
  cases hF
  exact r_vret C hrt hR (dk DX11_takes 20 rfl)
set_option maxHeartbeats 4000000 in
set_option maxRecDepth 100000 in
theorem C_M_countsNow (l : Launch) (hl0 : l.stackTraces = false) (G : GG) (m0 : Mem) (v : Unit) (m' : Mem) (hF : F_M_countsNow m0 = some (v, m')) : Ct l G mr0 N0 yX11_countsNow cX11_countsNow 2 none 10 [.ref (G.2.1 + 78)] m0 none m' := by
  refine Ct_of hl0 (by decide) (Nat.le_of_ble_eq_true rfl) ?_
  intro p e s mid args below meth c ls C hrt hl hR
  have hx := C.1.1
  have hb := C.1.2.1
  have hl : lv_has ls 2 [(0, .ref (G.2.1 + 78))] := hl
  unfold F_M_countsNow at hF
  refine lv_aload_n hx hb (dk DX11_countsNow 0 rfl) rfl (lv_at hl 0 rfl) ?_
  refine lv_aload_n hx hb (dk DX11_countsNow 1 rfl) rfl (lv_at hl 0 rfl) ?_
  refine gX11_13 C hR ob78 rf78_1 (dk DX11_countsNow 2 rfl) ?_
  refine lv_iconst (v := (2 : Int32)) hx hb (dk DX11_countsNow 3 rfl) (by decide) ?_
  refine r_iald C hR ob79 rfl (dk DX11_countsNow 4 rfl) ?_
  refine pX11_334 (x := gI m0 79 2) C hR ob78 (dk DX11_countsNow 5 rfl) (fun H locs hR => ?_)
  obtain ⟨mq1, emq1, hF⟩ := lt_ex hF
  have hR := Rp_at emq1 hR
  refine lv_aload_n hx hb (dk DX11_countsNow 6 rfl) rfl (lv_at hl 0 rfl) ?_
  obtain ⟨zq4, mq2, hzq3, hF⟩ := bnd_ex hF
  refine r_callVi (As := []) (rest := []) C hR (C_M_isOver l hl0 G mq1 _ _ hzq3) (by decide) (by decide) ob78 rfl wX11_275 rfl rfl (Nat.le_of_ble_eq_true rfl) hl.1 ⟨Nat.zero_le _, Nat.zero_le _⟩ (dk DX11_countsNow 7 rfl) (fun H locs hR => ?_)
  refine z_ifeq (tgt := 71) hx hb (dk DX11_countsNow 8 rfl) (by decide) (fun c14 => ?_) (fun c14 => ?_)
  · have hF := if_f c14 hF
    refine lv_aload_n hx hb (dk DX11_countsNow 37 rfl) rfl (lv_at hl 0 rfl) ?_
    refine lv_aload_n hx hb (dk DX11_countsNow 38 rfl) rfl (lv_at hl 0 rfl) ?_
    obtain ⟨xq7, mq5, hzq6, hF⟩ := bnd_ex hF
    refine r_callVi (As := []) (rest := [.ref (G.2.1 + 78)]) C hR (C_M_batter l hl0 G mq2 _ _ hzq6) (by decide) (by decide) ob78 rfl wX11_285 rfl rfl (Nat.le_of_ble_eq_true rfl) hl.1 ⟨Nat.zero_le _, Nat.zero_le _⟩ (dk DX11_countsNow 39 rfl) (fun H locs hR => ?_)
    obtain ⟨xq10, mq8, hzq9, hF⟩ := bnd_ex hF
    refine r_callVi (As := [.int xq7]) (rest := []) C hR (C_M_leadOf l hl0 G xq7 mq5 _ _ hzq9) (by decide) (by decide) ob78 rfl wX11_281 rfl rfl (Nat.le_of_ble_eq_true rfl) hl.1 ⟨Nat.zero_le _, Nat.zero_le _⟩ (dk DX11_countsNow 40 rfl) (fun H locs hR => ?_)
    refine lv_istore_n (lv' := [(1, .int xq10), (0, .ref (G.2.1 + 78))]) hx hb (dk DX11_countsNow 41 rfl) rfl hl (by decide) rfl (fun ls hl => ?_)
    refine lv_aload_n hx hb (dk DX11_countsNow 42 rfl) rfl (lv_at hl 1 rfl) ?_
    refine lv_aload_n hx hb (dk DX11_countsNow 43 rfl) rfl (lv_at hl 1 rfl) ?_
    obtain ⟨xq13, mq11, hzq12, hF⟩ := bnd_ex hF
    refine r_callVi (As := []) (rest := [.ref (G.2.1 + 78)]) C hR (C_M_firstSide l hl0 G mq8 _ _ hzq12) (by decide) (by decide) ob78 rfl wX11_265 rfl rfl (Nat.le_of_ble_eq_true rfl) hl.1 ⟨Nat.zero_le _, Nat.zero_le _⟩ (dk DX11_countsNow 44 rfl) (fun H locs hR => ?_)
    refine lv_aload_n hx hb (dk DX11_countsNow 45 rfl) rfl (lv_at hl 1 rfl) ?_
    obtain ⟨xq16, mq14, hzq15, hF⟩ := bnd_ex hF
    refine r_callVi (As := []) (rest := [.int xq13, .ref (G.2.1 + 78)]) C hR (C_M_played l hl0 G mq11 _ _ hzq15) (by decide) (by decide) ob78 rfl wX11_288 rfl rfl (Nat.le_of_ble_eq_true rfl) hl.1 ⟨Nat.zero_le _, Nat.zero_le _⟩ (dk DX11_countsNow 46 rfl) (fun H locs hR => ?_)
    refine lv_iload_n hx hb (dk DX11_countsNow 47 rfl) rfl (lv_at hl 0 rfl) ?_
    refine r_abI C (gd q2066 rfl) (by decide) (Nat.le_of_ble_eq_true rfl) hl.1 ⟨Nat.zero_le _, Nat.zero_le _⟩ (dk DX11_countsNow 48 rfl) ?_
    obtain ⟨uq19, mq17, hzq18, hF⟩ := bnd_ex hF
    refine r_callVv (As := [.int xq13, .int xq16, .int (abI xq10)]) (rest := []) C hR (C_M_layers l hl0 G xq13 xq16 (abI xq10) mq14 _ _ hzq18) (by decide) (by decide) ob78 rfl wX11_412 rfl rfl (Nat.le_of_ble_eq_true rfl) hl.1 ⟨Nat.zero_le _, Nat.zero_le _⟩ (dk DX11_countsNow 49 rfl) (fun H locs hR => ?_)
    refine lv_aload_n hx hb (dk DX11_countsNow 50 rfl) rfl (lv_at hl 1 rfl) ?_
    refine lv_aload_n hx hb (dk DX11_countsNow 51 rfl) rfl (lv_at hl 1 rfl) ?_
    obtain ⟨xq22, mq20, hzq21, hF⟩ := bnd_ex hF
    refine r_callVi (As := []) (rest := [.ref (G.2.1 + 78)]) C hR (C_M_played l hl0 G mq17 _ _ hzq21) (by decide) (by decide) ob78 rfl wX11_288 rfl rfl (Nat.le_of_ble_eq_true rfl) hl.1 ⟨Nat.zero_le _, Nat.zero_le _⟩ (dk DX11_countsNow 52 rfl) (fun H locs hR => ?_)
    refine lv_aload_n hx hb (dk DX11_countsNow 53 rfl) rfl (lv_at hl 1 rfl) ?_
    obtain ⟨xq25, mq23, hzq24, hF⟩ := bnd_ex hF
    refine r_callVi (As := []) (rest := [.int xq22, .ref (G.2.1 + 78)]) C hR (C_M_kindNow l hl0 G mq20 _ _ hzq24) (by decide) (by decide) ob78 rfl wX11_415 rfl rfl (Nat.le_of_ble_eq_true rfl) hl.1 ⟨Nat.zero_le _, Nat.zero_le _⟩ (dk DX11_countsNow 54 rfl) (fun H locs hR => ?_)
    refine lv_aload_n hx hb (dk DX11_countsNow 55 rfl) rfl (lv_at hl 1 rfl) ?_
    obtain ⟨xq28, mq26, hzq27, hF⟩ := bnd_ex hF
    refine r_callVi (As := []) (rest := [.int xq25, .int xq22, .ref (G.2.1 + 78)]) C hR (C_M_outNow l hl0 G mq23 _ _ hzq27) (by decide) (by decide) ob78 rfl wX11_418 rfl rfl (Nat.le_of_ble_eq_true rfl) hl.1 ⟨Nat.zero_le _, Nat.zero_le _⟩ (dk DX11_countsNow 56 rfl) (fun H locs hR => ?_)
    refine lv_iload_n hx hb (dk DX11_countsNow 57 rfl) rfl (lv_at hl 0 rfl) ?_
    obtain ⟨uq31, mq29, hzq30, hF⟩ := bnd_ex hF
    refine r_callVv (As := [.int xq22, .int xq25, .int xq28, .int xq10]) (rest := []) C hR (C_M_takes l hl0 G xq22 xq25 xq28 xq10 mq26 _ _ hzq30) (by decide) (by decide) ob78 rfl wX11_421 rfl rfl (Nat.le_of_ble_eq_true rfl) hl.1 ⟨Nat.zero_le _, Nat.zero_le _⟩ (dk DX11_countsNow 58 rfl) (fun H locs hR => ?_)
    cases hF
    exact r_vret C hrt hR (dk DX11_countsNow 59 rfl)
  · have hF := if_t c14 hF
    refine lv_aload_n hx hb (dk DX11_countsNow 9 rfl) rfl (lv_at hl 0 rfl) ?_
    refine lv_aload_n hx hb (dk DX11_countsNow 10 rfl) rfl (lv_at hl 0 rfl) ?_
    refine gX11_13 C hR ob78 rf78_1 (dk DX11_countsNow 11 rfl) ?_
    refine lv_bipush (v := (18 : Int32)) hx hb (dk DX11_countsNow 12 rfl) (by decide) ?_
    refine r_iald C hR ob79 rfl (dk DX11_countsNow 13 rfl) ?_
    obtain ⟨k40_33, ek40_33, hF⟩ := lt_ex hF
    have J40 : ∀ (xq33 : Int32) (mq32 : Mem) (H : Heap) (locs : List Loc) (ls : Array Slot), lv_has ls 2 [(0, .ref (G.2.1 + 78))] → Rp G mr0 N0 mq32 s H locs → k40_33 xq33 mq32 = some (v, m') → W p l e (rmD 10) s mid args below meth c H locs 0 0 (MQ below (QR G mr0 N0 none m') args s 0 0 (fun q => G.2.1 ≤ q)) (F0 mid 40 ls [.int xq33, .ref (G.2.1 + 78)]) := by
      intro xq33 mq32 H locs ls hl hR hF
      rw [ek40_33] at hF
      refine pX11_340 (x := xq33) C hR ob78 (dk DX11_countsNow 21 rfl) (fun H locs hR => ?_)
      obtain ⟨mq34, emq34, hF⟩ := lt_ex hF
      have hR := Rp_at emq34 hR
      refine lv_aload_n hx hb (dk DX11_countsNow 22 rfl) rfl (lv_at hl 0 rfl) ?_
      refine lv_aload_n hx hb (dk DX11_countsNow 23 rfl) rfl (lv_at hl 0 rfl) ?_
      refine gX11_13 C hR ob78 rf78_1 (dk DX11_countsNow 24 rfl) ?_
      refine lv_bipush (v := (18 : Int32)) hx hb (dk DX11_countsNow 25 rfl) (by decide) ?_
      refine r_iald C hR ob79 rfl (dk DX11_countsNow 26 rfl) ?_
      refine lv_iconst (v := (1 : Int32)) hx hb (dk DX11_countsNow 27 rfl) (by decide) ?_
      obtain ⟨k67_36, ek67_36, hF⟩ := lt_ex hF
      have J67 : ∀ (xq36 : Int32) (mq35 : Mem) (H : Heap) (locs : List Loc) (ls : Array Slot), lv_has ls 2 [] → Rp G mr0 N0 mq35 s H locs → k67_36 xq36 mq35 = some (v, m') → W p l e (rmD 10) s mid args below meth c H locs 0 0 (MQ below (QR G mr0 N0 none m') args s 0 0 (fun q => G.2.1 ≤ q)) (F0 mid 67 ls [.int xq36, .ref (G.2.1 + 78)]) := by
        intro xq36 mq35 H locs ls hl hR hF
        rw [ek67_36] at hF
        refine pX11_343 (x := xq36) C hR ob78 (dk DX11_countsNow 35 rfl) (fun H locs hR => ?_)
        obtain ⟨mq37, emq37, hF⟩ := lt_ex hF
        have hR := Rp_at emq37 hR
        cases hF
        exact r_vret C hrt hR (dk DX11_countsNow 36 rfl)
      refine lv_icmp_ne (tgt := 66) hx hb (dk DX11_countsNow 28 rfl) (by decide) (fun c52 => ?_) (fun c52 => ?_)
      · have hF := if_f c52 hF
        refine lv_iconst (v := (0 : Int32)) hx hb (dk DX11_countsNow 34 rfl) (by decide) ?_
        exact J67 (0 : Int32) mq34 _ _ ls (lv_sub hl [] rfl) hR hF
      · have hF := if_t c52 hF
        refine lv_aload_n hx hb (dk DX11_countsNow 29 rfl) rfl (lv_at hl 0 rfl) ?_
        refine lv_aload_n hx hb (dk DX11_countsNow 30 rfl) rfl (lv_at hl 0 rfl) ?_
        obtain ⟨xq40, mq38, hzq39, hF⟩ := bnd_ex hF
        refine r_callVi (As := []) (rest := [.ref (G.2.1 + 78), .ref (G.2.1 + 78)]) C hR (C_M_played l hl0 G mq34 _ _ hzq39) (by decide) (by decide) ob78 rfl wX11_288 rfl rfl (Nat.le_of_ble_eq_true rfl) hl.1 ⟨Nat.zero_le _, Nat.zero_le _⟩ (dk DX11_countsNow 31 rfl) (fun H locs hR => ?_)
        obtain ⟨xq43, mq41, hzq42, hF⟩ := bnd_ex hF
        refine r_callVi (As := [.int xq40]) (rest := [.ref (G.2.1 + 78)]) C hR (C_M_all l hl0 G xq40 mq38 _ _ hzq42) (by decide) (by decide) ob78 rfl wX11_337 rfl rfl (Nat.le_of_ble_eq_true rfl) hl.1 ⟨Nat.zero_le _, Nat.zero_le _⟩ (dk DX11_countsNow 32 rfl) (fun H locs hR => ?_)
        refine lv_goto (tgt := 67) hx hb (dk DX11_countsNow 33 rfl) (by decide) ?_
        exact J67 xq43 mq41 _ _ ls (lv_sub hl [] rfl) hR hF
    refine lv_if_ne (tgt := 39) hx hb (dk DX11_countsNow 14 rfl) (by decide) (fun c25 => ?_) (fun c25 => ?_)
    · have hF := if_f c25 hF
      refine lv_iconst (v := (0 : Int32)) hx hb (dk DX11_countsNow 20 rfl) (by decide) ?_
      exact J40 (0 : Int32) mq2 _ _ ls (lv_sub hl [0] rfl) hR hF
    · have hF := if_t c25 hF
      refine lv_aload_n hx hb (dk DX11_countsNow 15 rfl) rfl (lv_at hl 0 rfl) ?_
      refine lv_aload_n hx hb (dk DX11_countsNow 16 rfl) rfl (lv_at hl 0 rfl) ?_
      obtain ⟨xq46, mq44, hzq45, hF⟩ := bnd_ex hF
      refine r_callVi (As := []) (rest := [.ref (G.2.1 + 78), .ref (G.2.1 + 78)]) C hR (C_M_played l hl0 G mq2 _ _ hzq45) (by decide) (by decide) ob78 rfl wX11_288 rfl rfl (Nat.le_of_ble_eq_true rfl) hl.1 ⟨Nat.zero_le _, Nat.zero_le _⟩ (dk DX11_countsNow 17 rfl) (fun H locs hR => ?_)
      obtain ⟨xq49, mq47, hzq48, hF⟩ := bnd_ex hF
      refine r_callVi (As := [.int xq46]) (rest := [.ref (G.2.1 + 78)]) C hR (C_M_all l hl0 G xq46 mq44 _ _ hzq48) (by decide) (by decide) ob78 rfl wX11_337 rfl rfl (Nat.le_of_ble_eq_true rfl) hl.1 ⟨Nat.zero_le _, Nat.zero_le _⟩ (dk DX11_countsNow 18 rfl) (fun H locs hR => ?_)
      refine lv_goto (tgt := 40) hx hb (dk DX11_countsNow 19 rfl) (by decide) ?_
      exact J40 xq49 mq47 _ _ ls (lv_sub hl [0] rfl) hR hF
set_option maxHeartbeats 4000000 in
set_option maxRecDepth 100000 in
theorem C_M_blind (l : Launch) (hl0 : l.stackTraces = false) (G : GG) (a1 : Int32) (m0 : Mem) (v : Int64) (m' : Mem) (hF : F_M_blind a1 m0 = some (v, m')) : Ct l G mr0 N0 yX11_blind cX11_blind 2 (some .long) 11 [.ref (G.2.1 + 78), .int a1] m0 (some (.long v)) m' := by
  refine Ct_of hl0 (by decide) (Nat.le_of_ble_eq_true rfl) ?_
  intro p e s mid args below meth c ls C hrt hl hR
  have hx := C.1.1
  have hb := C.1.2.1
  have hl : lv_has ls 2 [(0, .ref (G.2.1 + 78)), (1, .int a1)] := hl
  unfold F_M_blind at hF
  refine lv_aload_n hx hb (dk DX11_blind 0 rfl) rfl (lv_at hl 0 rfl) ?_
  refine lv_iconst (v := (0 : Int32)) hx hb (dk DX11_blind 1 rfl) (by decide) ?_
  refine pX11_3 (x := (0 : Int32)) C hR ob78 (dk DX11_blind 2 rfl) (fun H locs hR => ?_)
  obtain ⟨mq1, emq1, hF⟩ := lt_ex hF
  have hR := Rp_at emq1 hR
  refine lv_aload_n hx hb (dk DX11_blind 3 rfl) rfl (lv_at hl 0 rfl) ?_
  refine lv_aload_n hx hb (dk DX11_blind 4 rfl) rfl (lv_at hl 0 rfl) ?_
  obtain ⟨xq4, mq2, hzq3, hF⟩ := bnd_ex hF
  refine r_callVi (As := []) (rest := [.ref (G.2.1 + 78)]) C hR (C_M_firstSide l hl0 G mq1 _ _ hzq3) (by decide) (by decide) ob78 rfl wX11_265 rfl rfl (Nat.le_of_ble_eq_true rfl) hl.1 ⟨Nat.zero_le _, Nat.zero_le _⟩ (dk DX11_blind 5 rfl) (fun H locs hR => ?_)
  obtain ⟨k18_6, ek18_6, hF⟩ := lt_ex hF
  have J18 : ∀ (zq6 : Bool) (mq5 : Mem) (H : Heap) (locs : List Loc) (ls : Array Slot), lv_has ls 2 [(0, .ref (G.2.1 + 78)), (1, .int a1)] → Rp G mr0 N0 mq5 s H locs → k18_6 zq6 mq5 = some (v, m') → W p l e (rmD 11) s mid args below meth c H locs 0 0 (MQ below (QR G mr0 N0 (some (.long v)) m') args s 0 0 (fun q => G.2.1 ≤ q)) (F0 mid 18 ls [.int (b2i zq6), .ref (G.2.1 + 78)]) := by
    intro zq6 mq5 H locs ls hl hR hF
    rw [ek18_6] at hF
    refine lv_iconst (v := (1 : Int32)) hx hb (dk DX11_blind 10 rfl) (by decide) ?_
    obtain ⟨zq9, mq7, hzq8, hF⟩ := bnd_ex hF
    refine r_callVi (As := [.int (b2i zq6), .int (1 : Int32)]) (rest := []) C hR (C_M_throwsIf l hl0 G zq6 (1 : Int32) mq5 _ _ hzq8) (by decide) (by decide) ob78 rfl wX11_227 rfl rfl (Nat.le_of_ble_eq_true rfl) hl.1 ⟨Nat.zero_le _, Nat.zero_le _⟩ (dk DX11_blind 11 rfl) (fun H locs hR => ?_)
    refine z_ifne (tgt := 47) hx hb (dk DX11_blind 12 rfl) (by decide) (fun c22 => ?_) (fun c22 => ?_)
    · have hF := if_t c22 hF
      refine lv_lconst (v := (0 : Int64)) hx hb (dk DX11_blind 25 rfl) (by decide) ?_
      cases hF
      exact r_lret C hrt hR (dk DX11_blind 26 rfl)
    · have hF := if_f c22 hF
      refine lv_aload_n hx hb (dk DX11_blind 13 rfl) rfl (lv_at hl 0 rfl) ?_
      refine lv_iload_n hx hb (dk DX11_blind 14 rfl) rfl (lv_at hl 1 rfl) ?_
      refine lv_iconst (v := (0 : Int32)) hx hb (dk DX11_blind 15 rfl) (by decide) ?_
      refine lv_iconst (v := (3 : Int32)) hx hb (dk DX11_blind 16 rfl) (by decide) ?_
      obtain ⟨zq12, mq10, hzq11, hF⟩ := bnd_ex hF
      refine r_callSi (As := [.int a1, .int (0 : Int32), .int (3 : Int32)]) (rest := [.ref (G.2.1 + 78)]) C hR (C_M_in l hl0 G a1 (0 : Int32) (3 : Int32) mq7 _ _ hzq11) (by decide) (by decide) wX11_67 rfl rfl (Nat.le_of_ble_eq_true rfl) hl.1 ⟨Nat.zero_le _, Nat.zero_le _⟩ (dk DX11_blind 17 rfl) (fun H locs hR => ?_)
      obtain ⟨k40_14, ek40_14, hF⟩ := lt_ex hF
      have J40 : ∀ (zq14 : Bool) (mq13 : Mem) (H : Heap) (locs : List Loc) (ls : Array Slot), lv_has ls 2 [(0, .ref (G.2.1 + 78)), (1, .int a1)] → Rp G mr0 N0 mq13 s H locs → k40_14 zq14 mq13 = some (v, m') → W p l e (rmD 11) s mid args below meth c H locs 0 0 (MQ below (QR G mr0 N0 (some (.long v)) m') args s 0 0 (fun q => G.2.1 ≤ q)) (F0 mid 40 ls [.int (b2i zq14), .ref (G.2.1 + 78)]) := by
        intro zq14 mq13 H locs ls hl hR hF
        rw [ek40_14] at hF
        refine lv_iconst (v := (2 : Int32)) hx hb (dk DX11_blind 22 rfl) (by decide) ?_
        obtain ⟨zq17, mq15, hzq16, hF⟩ := bnd_ex hF
        refine r_callVi (As := [.int (b2i zq14), .int (2 : Int32)]) (rest := []) C hR (C_M_throwsIf l hl0 G zq14 (2 : Int32) mq13 _ _ hzq16) (by decide) (by decide) ob78 rfl wX11_227 rfl rfl (Nat.le_of_ble_eq_true rfl) hl.1 ⟨Nat.zero_le _, Nat.zero_le _⟩ (dk DX11_blind 23 rfl) (fun H locs hR => ?_)
        refine z_ifeq (tgt := 49) hx hb (dk DX11_blind 24 rfl) (by decide) (fun c44 => ?_) (fun c44 => ?_)
        · have hF := if_f c44 hF
          refine lv_aload_n hx hb (dk DX11_blind 27 rfl) rfl (lv_at hl 0 rfl) ?_
          refine lv_iconst (v := (1 : Int32)) hx hb (dk DX11_blind 28 rfl) (by decide) ?_
          refine pX11_390 (x := true) C hR ob78 (dk DX11_blind 29 rfl) (fun H locs hR => ?_)
          obtain ⟨mq18, emq18, hF⟩ := lt_ex hF
          have hR := Rp_at emq18 hR
          refine lv_aload_n hx hb (dk DX11_blind 30 rfl) rfl (lv_at hl 0 rfl) ?_
          obtain ⟨uq21, mq19, hzq20, hF⟩ := bnd_ex hF
          refine r_callVv (As := []) (rest := []) C hR (C_M_countsNow l hl0 G mq18 _ _ hzq20) (by decide) (by decide) ob78 rfl wX11_424 rfl rfl (Nat.le_of_ble_eq_true rfl) hl.1 ⟨Nat.zero_le _, Nat.zero_le _⟩ (dk DX11_blind 31 rfl) (fun H locs hR => ?_)
          refine lv_aload_n hx hb (dk DX11_blind 32 rfl) rfl (lv_at hl 0 rfl) ?_
          refine lv_iconst (v := (0 : Int32)) hx hb (dk DX11_blind 33 rfl) (by decide) ?_
          refine pX11_390 (x := false) C hR ob78 (dk DX11_blind 34 rfl) (fun H locs hR => ?_)
          obtain ⟨mq22, emq22, hF⟩ := lt_ex hF
          have hR := Rp_at emq22 hR
          refine lv_aload_n hx hb (dk DX11_blind 35 rfl) rfl (lv_at hl 0 rfl) ?_
          refine lv_iload_n hx hb (dk DX11_blind 36 rfl) rfl (lv_at hl 1 rfl) ?_
          refine lv_aload_n hx hb (dk DX11_blind 37 rfl) rfl (lv_at hl 0 rfl) ?_
          obtain ⟨xq25, mq23, hzq24, hF⟩ := bnd_ex hF
          refine r_callVi (As := []) (rest := [.int a1, .ref (G.2.1 + 78)]) C hR (C_M_played l hl0 G mq22 _ _ hzq24) (by decide) (by decide) ob78 rfl wX11_288 rfl rfl (Nat.le_of_ble_eq_true rfl) hl.1 ⟨Nat.zero_le _, Nat.zero_le _⟩ (dk DX11_blind 38 rfl) (fun H locs hR => ?_)
          refine lv_aload_n hx hb (dk DX11_blind 39 rfl) rfl (lv_at hl 0 rfl) ?_
          obtain ⟨zq28, mq26, hzq27, hF⟩ := bnd_ex hF
          refine r_callVi (As := []) (rest := [.int xq25, .int a1, .ref (G.2.1 + 78)]) C hR (C_M_isOver l hl0 G mq23 _ _ hzq27) (by decide) (by decide) ob78 rfl wX11_275 rfl rfl (Nat.le_of_ble_eq_true rfl) hl.1 ⟨Nat.zero_le _, Nat.zero_le _⟩ (dk DX11_blind 40 rfl) (fun H locs hR => ?_)
          obtain ⟨k84_30, ek84_30, hF⟩ := lt_ex hF
          have J84 : ∀ (xq30 : Int32) (mq29 : Mem) (H : Heap) (locs : List Loc) (ls : Array Slot), lv_has ls 2 [] → Rp G mr0 N0 mq29 s H locs → k84_30 xq30 mq29 = some (v, m') → W p l e (rmD 11) s mid args below meth c H locs 0 0 (MQ below (QR G mr0 N0 (some (.long v)) m') args s 0 0 (fun q => G.2.1 ≤ q)) (F0 mid 84 ls [.int xq30, .int xq25, .int a1, .ref (G.2.1 + 78)]) := by
            intro xq30 mq29 H locs ls hl hR hF
            rw [ek84_30] at hF
            obtain ⟨yq33, mq31, hzq32, hF⟩ := bnd_ex hF
            refine r_callVl (As := [.int a1, .int xq25, .int xq30]) (rest := []) C hR (C_M_waysOf l hl0 G a1 xq25 xq30 mq29 _ _ hzq32) (by decide) (by decide) ob78 rfl wX11_427 rfl rfl (Nat.le_of_ble_eq_true rfl) hl.1 ⟨Nat.zero_le _, Nat.zero_le _⟩ (dk DX11_blind 46 rfl) (fun H locs hR => ?_)
            cases hF
            exact r_lret C hrt hR (dk DX11_blind 47 rfl)
          refine z_ifeq (tgt := 80) hx hb (dk DX11_blind 41 rfl) (by decide) (fun c73 => ?_) (fun c73 => ?_)
          · have hF := if_f c73 hF
            refine lv_aload_n hx hb (dk DX11_blind 44 rfl) rfl (lv_at hl 0 rfl) ?_
            obtain ⟨xq36, mq34, hzq35, hF⟩ := bnd_ex hF
            refine r_callVi (As := []) (rest := [.int xq25, .int a1, .ref (G.2.1 + 78)]) C hR (C_M_batter l hl0 G mq26 _ _ hzq35) (by decide) (by decide) ob78 rfl wX11_285 rfl rfl (Nat.le_of_ble_eq_true rfl) hl.1 ⟨Nat.zero_le _, Nat.zero_le _⟩ (dk DX11_blind 45 rfl) (fun H locs hR => ?_)
            exact J84 xq36 mq34 _ _ ls (lv_sub hl [] rfl) hR hF
          · have hF := if_t c73 hF
            refine lv_iconst (v := (0 : Int32)) hx hb (dk DX11_blind 42 rfl) (by decide) ?_
            refine lv_goto (tgt := 84) hx hb (dk DX11_blind 43 rfl) (by decide) ?_
            exact J84 (0 : Int32) mq26 _ _ ls (lv_sub hl [] rfl) hR hF
        · have hF := if_t c44 hF
          refine lv_lconst (v := (0 : Int64)) hx hb (dk DX11_blind 25 rfl) (by decide) ?_
          cases hF
          exact r_lret C hrt hR (dk DX11_blind 26 rfl)
      refine z_ifne (tgt := 39) hx hb (dk DX11_blind 18 rfl) (by decide) (fun c32 => ?_) (fun c32 => ?_)
      · have hF := if_t c32 hF
        refine lv_iconst (v := (0 : Int32)) hx hb (dk DX11_blind 21 rfl) (by decide) ?_
        exact J40 false mq10 _ _ ls (lv_sub hl [0, 1] rfl) hR hF
      · have hF := if_f c32 hF
        refine lv_iconst (v := (1 : Int32)) hx hb (dk DX11_blind 19 rfl) (by decide) ?_
        refine lv_goto (tgt := 40) hx hb (dk DX11_blind 20 rfl) (by decide) ?_
        exact J40 true mq10 _ _ ls (lv_sub hl [0, 1] rfl) hR hF
  refine lv_if_ge (tgt := 17) hx hb (dk DX11_blind 6 rfl) (by decide) (fun c10 => ?_) (fun c10 => ?_)
  · have hF := if_t c10 hF
    refine lv_iconst (v := (0 : Int32)) hx hb (dk DX11_blind 9 rfl) (by decide) ?_
    exact J18 false mq2 _ _ ls (lv_sub hl [0, 1] rfl) hR hF
  · have hF := if_f c10 hF
    refine lv_iconst (v := (1 : Int32)) hx hb (dk DX11_blind 7 rfl) (by decide) ?_
    refine lv_goto (tgt := 18) hx hb (dk DX11_blind 8 rfl) (by decide) ?_
    exact J18 true mq2 _ _ ls (lv_sub hl [0, 1] rfl) hR hF
set_option maxHeartbeats 4000000 in
set_option maxRecDepth 100000 in
theorem C_M_ofBook (l : Launch) (hl0 : l.stackTraces = false) (G : GG) (a1 : Int32) (a2 : Int32) (m0 : Mem) (v : Int32) (m' : Mem) (hF : F_M_ofBook a1 a2 m0 = some (v, m')) : Ct l G mr0 N0 yX11_ofBook cX11_ofBook 3 (some .int) 1 [.ref (G.2.1 + 78), .int a1, .int a2] m0 (some (.int v)) m' := by
  refine Ct_of hl0 (by decide) (Nat.le_of_ble_eq_true rfl) ?_
  intro p e s mid args below meth c ls C hrt hl hR
  have hx := C.1.1
  have hb := C.1.2.1
  have hl : lv_has ls 3 [(0, .ref (G.2.1 + 78)), (1, .int a1), (2, .int a2)] := hl
  unfold F_M_ofBook at hF
  refine lv_aload_n hx hb (dk DX11_ofBook 0 rfl) rfl (lv_at hl 0 rfl) ?_
  refine gX11_13 C hR ob78 rf78_1 (dk DX11_ofBook 1 rfl) ?_
  refine lv_bipush (v := (55 : Int32)) hx hb (dk DX11_ofBook 2 rfl) (by decide) ?_
  refine lv_iconst (v := (3 : Int32)) hx hb (dk DX11_ofBook 3 rfl) (by decide) ?_
  refine lv_iload_n hx hb (dk DX11_ofBook 4 rfl) rfl (lv_at hl 1 rfl) ?_
  refine lv_imul hx hb (dk DX11_ofBook 5 rfl) ?_
  refine lv_iadd hx hb (dk DX11_ofBook 6 rfl) ?_
  refine lv_iload_n hx hb (dk DX11_ofBook 7 rfl) rfl (lv_at hl 2 rfl) ?_
  refine lv_iadd hx hb (dk DX11_ofBook 8 rfl) ?_
  obtain ⟨hq1, hF⟩ := ckB_ex hF
  refine r_iald C hR ob79 hq1 (dk DX11_ofBook 9 rfl) ?_
  refine lv_topi (fun xq2 exq2 => ?_)
  have hF := lt_at exq2 hF
  cases hF
  exact r_iret C hrt hR (dk DX11_ofBook 10 rfl)
set_option maxHeartbeats 4000000 in
set_option maxRecDepth 100000 in
theorem C_M_isSuch (l : Launch) (hl0 : l.stackTraces = false) (G : GG) (a1 : Int32) (a2 : Int32) (m0 : Mem) (v : Bool) (m' : Mem) (hF : F_M_isSuch a1 a2 m0 = some (v, m')) : Ct l G mr0 N0 yX11_isSuch cX11_isSuch 6 (some .boolean) 2 [.ref (G.2.1 + 78), .int a1, .int a2] m0 (some (.int (b2i v))) m' := by
  refine Ct_of hl0 (by decide) (Nat.le_of_ble_eq_true rfl) ?_
  intro p e s mid args below meth c ls C hrt hl hR
  have hx := C.1.1
  have hb := C.1.2.1
  have hl : lv_has ls 6 [(0, .ref (G.2.1 + 78)), (1, .int a1), (2, .int a2)] := hl
  unfold F_M_isSuch at hF
  refine lv_aload_n hx hb (dk DX11_isSuch 0 rfl) rfl (lv_at hl 0 rfl) ?_
  refine lv_iload_n hx hb (dk DX11_isSuch 1 rfl) rfl (lv_at hl 1 rfl) ?_
  refine lv_iconst (v := (0 : Int32)) hx hb (dk DX11_isSuch 2 rfl) (by decide) ?_
  obtain ⟨xq3, mq1, hzq2, hF⟩ := bnd_ex hF
  refine r_callVi (As := [.int a1, .int (0 : Int32)]) (rest := []) C hR (C_M_ofBook l hl0 G a1 (0 : Int32) m0 _ _ hzq2) (by decide) (by decide) ob78 rfl wX11_446 rfl rfl (Nat.le_of_ble_eq_true rfl) hl.1 ⟨Nat.zero_le _, Nat.zero_le _⟩ (dk DX11_isSuch 3 rfl) (fun H locs hR => ?_)
  refine lv_istore_n (lv' := [(3, .int xq3), (0, .ref (G.2.1 + 78)), (1, .int a1), (2, .int a2)]) hx hb (dk DX11_isSuch 4 rfl) rfl hl (by decide) rfl (fun ls hl => ?_)
  refine lv_aload_n hx hb (dk DX11_isSuch 5 rfl) rfl (lv_at hl 1 rfl) ?_
  refine lv_iload_n hx hb (dk DX11_isSuch 6 rfl) rfl (lv_at hl 2 rfl) ?_
  refine lv_iconst (v := (1 : Int32)) hx hb (dk DX11_isSuch 7 rfl) (by decide) ?_
  obtain ⟨xq6, mq4, hzq5, hF⟩ := bnd_ex hF
  refine r_callVi (As := [.int a1, .int (1 : Int32)]) (rest := []) C hR (C_M_ofBook l hl0 G a1 (1 : Int32) mq1 _ _ hzq5) (by decide) (by decide) ob78 rfl wX11_446 rfl rfl (Nat.le_of_ble_eq_true rfl) hl.1 ⟨Nat.zero_le _, Nat.zero_le _⟩ (dk DX11_isSuch 8 rfl) (fun H locs hR => ?_)
  refine lv_istore (lv' := [(4, .int xq6), (3, .int xq3), (0, .ref (G.2.1 + 78)), (1, .int a1), (2, .int a2)]) hx hb (dk DX11_isSuch 9 rfl) hl (by decide) rfl (fun ls hl => ?_)
  refine lv_aload_n hx hb (dk DX11_isSuch 10 rfl) rfl (lv_at hl 2 rfl) ?_
  refine lv_iload_n hx hb (dk DX11_isSuch 11 rfl) rfl (lv_at hl 3 rfl) ?_
  refine lv_iconst (v := (2 : Int32)) hx hb (dk DX11_isSuch 12 rfl) (by decide) ?_
  obtain ⟨xq9, mq7, hzq8, hF⟩ := bnd_ex hF
  refine r_callVi (As := [.int a1, .int (2 : Int32)]) (rest := []) C hR (C_M_ofBook l hl0 G a1 (2 : Int32) mq4 _ _ hzq8) (by decide) (by decide) ob78 rfl wX11_446 rfl rfl (Nat.le_of_ble_eq_true rfl) hl.1 ⟨Nat.zero_le _, Nat.zero_le _⟩ (dk DX11_isSuch 13 rfl) (fun H locs hR => ?_)
  refine lv_istore (lv' := [(5, .int xq9), (4, .int xq6), (3, .int xq3), (0, .ref (G.2.1 + 78)), (1, .int a1), (2, .int a2)]) hx hb (dk DX11_isSuch 14 rfl) hl (by decide) rfl (fun ls hl => ?_)
  refine lv_iload_n hx hb (dk DX11_isSuch 15 rfl) rfl (lv_at hl 5 rfl) ?_
  by_cases d1 : a2 = (1 : Int32)
  · have hF := if_t d1 hF
    refine lv_tableIn (tgt := 60) hx hb (dk DX11_isSuch 16 rfl) (by rw [d1]; decide) (by rw [d1]; decide) (by rw [d1]; rfl) (by decide) ?_
    refine lv_iload hx hb (dk DX11_isSuch 17 rfl) (lv_at hl 1 rfl) ?_
    refine lv_iload_n hx hb (dk DX11_isSuch 18 rfl) rfl (lv_at hl 2 rfl) ?_
    refine lv_icmp_ne (tgt := 70) hx hb (dk DX11_isSuch 19 rfl) (by decide) (fun c63 => ?_) (fun c63 => ?_)
    · have hF := if_f c63 hF
      refine lv_iconst (v := (0 : Int32)) hx hb (dk DX11_isSuch 22 rfl) (by decide) ?_
      cases hF
      exact r_zret C hrt hR (dk DX11_isSuch 23 rfl)
    · have hF := if_t c63 hF
      refine lv_iconst (v := (1 : Int32)) hx hb (dk DX11_isSuch 20 rfl) (by decide) ?_
      refine lv_goto (tgt := 71) hx hb (dk DX11_isSuch 21 rfl) (by decide) ?_
      cases hF
      exact r_zret C hrt hR (dk DX11_isSuch 23 rfl)
  · have hF := if_f d1 hF
    by_cases d2 : a2 = (2 : Int32)
    · have hF := if_t d2 hF
      refine lv_tableIn (tgt := 72) hx hb (dk DX11_isSuch 16 rfl) (by rw [d2]; decide) (by rw [d2]; decide) (by rw [d2]; rfl) (by decide) ?_
      refine lv_iload hx hb (dk DX11_isSuch 24 rfl) (lv_at hl 1 rfl) ?_
      refine lv_iload_n hx hb (dk DX11_isSuch 25 rfl) rfl (lv_at hl 2 rfl) ?_
      refine lv_icmp_ne (tgt := 88) hx hb (dk DX11_isSuch 26 rfl) (by decide) (fun c75 => ?_) (fun c75 => ?_)
      · have hF := if_f c75 hF
        refine lv_iconst (v := (0 : Int32)) hx hb (dk DX11_isSuch 32 rfl) (by decide) ?_
        cases hF
        exact r_zret C hrt hR (dk DX11_isSuch 33 rfl)
      · have hF := if_t c75 hF
        refine lv_iload hx hb (dk DX11_isSuch 27 rfl) (lv_at hl 0 rfl) ?_
        refine lv_iload_n hx hb (dk DX11_isSuch 28 rfl) rfl (lv_at hl 2 rfl) ?_
        refine lv_icmp_ne (tgt := 88) hx hb (dk DX11_isSuch 29 rfl) (by decide) (fun c81 => ?_) (fun c81 => ?_)
        · have hF := if_f c81 hF
          refine lv_iconst (v := (0 : Int32)) hx hb (dk DX11_isSuch 32 rfl) (by decide) ?_
          cases hF
          exact r_zret C hrt hR (dk DX11_isSuch 33 rfl)
        · have hF := if_t c81 hF
          refine lv_iconst (v := (1 : Int32)) hx hb (dk DX11_isSuch 30 rfl) (by decide) ?_
          refine lv_goto (tgt := 89) hx hb (dk DX11_isSuch 31 rfl) (by decide) ?_
          cases hF
          exact r_zret C hrt hR (dk DX11_isSuch 33 rfl)
    · have hF := if_f d2 hF
      by_cases d3 : a2 = (3 : Int32)
      · have hF := if_t d3 hF
        refine lv_tableIn (tgt := 90) hx hb (dk DX11_isSuch 16 rfl) (by rw [d3]; decide) (by rw [d3]; decide) (by rw [d3]; rfl) (by decide) ?_
        refine lv_iload hx hb (dk DX11_isSuch 34 rfl) (lv_at hl 0 rfl) ?_
        refine lv_iload hx hb (dk DX11_isSuch 35 rfl) (lv_at hl 1 rfl) ?_
        refine lv_icmp_ne (tgt := 101) hx hb (dk DX11_isSuch 36 rfl) (by decide) (fun c94 => ?_) (fun c94 => ?_)
        · have hF := if_f c94 hF
          refine lv_iconst (v := (0 : Int32)) hx hb (dk DX11_isSuch 39 rfl) (by decide) ?_
          cases hF
          exact r_zret C hrt hR (dk DX11_isSuch 40 rfl)
        · have hF := if_t c94 hF
          refine lv_iconst (v := (1 : Int32)) hx hb (dk DX11_isSuch 37 rfl) (by decide) ?_
          refine lv_goto (tgt := 102) hx hb (dk DX11_isSuch 38 rfl) (by decide) ?_
          cases hF
          exact r_zret C hrt hR (dk DX11_isSuch 40 rfl)
      · have hF := if_f d3 hF
        by_cases d4 : a2 = (4 : Int32)
        · have hF := if_t d4 hF
          refine lv_tableIn (tgt := 103) hx hb (dk DX11_isSuch 16 rfl) (by rw [d4]; decide) (by rw [d4]; decide) (by rw [d4]; rfl) (by decide) ?_
          refine lv_iload hx hb (dk DX11_isSuch 41 rfl) (lv_at hl 0 rfl) ?_
          refine lv_iload_n hx hb (dk DX11_isSuch 42 rfl) rfl (lv_at hl 2 rfl) ?_
          refine lv_icmp_ne (tgt := 113) hx hb (dk DX11_isSuch 43 rfl) (by decide) (fun c106 => ?_) (fun c106 => ?_)
          · have hF := if_f c106 hF
            refine lv_iconst (v := (0 : Int32)) hx hb (dk DX11_isSuch 46 rfl) (by decide) ?_
            cases hF
            exact r_zret C hrt hR (dk DX11_isSuch 47 rfl)
          · have hF := if_t c106 hF
            refine lv_iconst (v := (1 : Int32)) hx hb (dk DX11_isSuch 44 rfl) (by decide) ?_
            refine lv_goto (tgt := 114) hx hb (dk DX11_isSuch 45 rfl) (by decide) ?_
            cases hF
            exact r_zret C hrt hR (dk DX11_isSuch 47 rfl)
        · have hF := if_f d4 hF
          by_cases d5 : a2 = (5 : Int32)
          · have hF := if_t d5 hF
            refine lv_tableIn (tgt := 115) hx hb (dk DX11_isSuch 16 rfl) (by rw [d5]; decide) (by rw [d5]; decide) (by rw [d5]; rfl) (by decide) ?_
            refine lv_iload hx hb (dk DX11_isSuch 48 rfl) (lv_at hl 0 rfl) ?_
            refine lv_iconst (v := (2 : Int32)) hx hb (dk DX11_isSuch 49 rfl) (by decide) ?_
            refine lv_icmp_ne (tgt := 125) hx hb (dk DX11_isSuch 50 rfl) (by decide) (fun c118 => ?_) (fun c118 => ?_)
            · have hF := if_f c118 hF
              refine lv_iconst (v := (0 : Int32)) hx hb (dk DX11_isSuch 53 rfl) (by decide) ?_
              cases hF
              exact r_zret C hrt hR (dk DX11_isSuch 54 rfl)
            · have hF := if_t c118 hF
              refine lv_iconst (v := (1 : Int32)) hx hb (dk DX11_isSuch 51 rfl) (by decide) ?_
              refine lv_goto (tgt := 126) hx hb (dk DX11_isSuch 52 rfl) (by decide) ?_
              cases hF
              exact r_zret C hrt hR (dk DX11_isSuch 54 rfl)
          · have hF := if_f d5 hF
            have n1 := i32_ne d1 (z := 1) rfl
            have n2 := i32_ne d2 (z := 2) rfl
            have n3 := i32_ne d3 (z := 3) rfl
            have n4 := i32_ne d4 (z := 4) rfl
            have n5 := i32_ne d5 (z := 5) rfl
            refine lv_tableOut (tgt := 127) hx hb (dk DX11_isSuch 16 rfl) (by omega) (by decide) ?_
            refine lv_iconst (v := (1 : Int32)) hx hb (dk DX11_isSuch 55 rfl) (by decide) ?_
            cases hF
            exact r_zret C hrt hR (dk DX11_isSuch 56 rfl)
set_option maxHeartbeats 4000000 in
set_option maxRecDepth 100000 in
theorem C_M_bookOf (l : Launch) (hl0 : l.stackTraces = false) (G : GG) (a1 : Int32) (m0 : Mem) (v : Int32) (m' : Mem) (hF : F_M_bookOf a1 m0 = some (v, m')) : Ct l G mr0 N0 yX11_bookOf cX11_bookOf 4 (some .int) 3 [.ref (G.2.1 + 78), .int a1] m0 (some (.int v)) m' := by
  refine Ct_of hl0 (by decide) (Nat.le_of_ble_eq_true rfl) ?_
  intro p e s mid args below meth c ls C hrt hl hR
  have hx := C.1.1
  have hb := C.1.2.1
  have hl : lv_has ls 4 [(0, .ref (G.2.1 + 78)), (1, .int a1)] := hl
  unfold F_M_bookOf at hF
  refine lv_iconst (v := (0 : Int32)) hx hb (dk DX11_bookOf 0 rfl) (by decide) ?_
  refine lv_istore_n (lv' := [(2, .int (0 : Int32)), (0, .ref (G.2.1 + 78)), (1, .int a1)]) hx hb (dk DX11_bookOf 1 rfl) rfl hl (by decide) rfl (fun ls hl => ?_)
  refine lv_iconst (v := (0 : Int32)) hx hb (dk DX11_bookOf 2 rfl) (by decide) ?_
  refine lv_istore_n (lv' := [(3, .int (0 : Int32)), (2, .int (0 : Int32)), (0, .ref (G.2.1 + 78)), (1, .int a1)]) hx hb (dk DX11_bookOf 3 rfl) rfl hl (by decide) rfl (fun ls hl => ?_)
  have L4 : ∀ (nf : Nat) (xq2 : Int32) (xq3 : Int32) (mq1 : Mem) (H : Heap) (locs : List Loc) (ls : Array Slot), lv_has ls 4 [(0, .ref (G.2.1 + 78)), (1, .int a1), (2, .int xq2), (3, .int xq3)] → Rp G mr0 N0 mq1 s H locs → F_M_bookOf_L4 a1 nf xq2 xq3 mq1 = some (v, m') → W p l e (rmD 3) s mid args below meth c H locs 0 0 (MQ below (QR G mr0 N0 (some (.int v)) m') args s 0 0 (fun q => G.2.1 ≤ q)) (F0 mid 4 ls []) := by
    intro nf
    induction nf with
    | zero =>
      intro xq2 xq3 mq1 H locs ls hl hR hF
      rw [F_M_bookOf_L4] at hF
      cases hF
    | succ nf ihq5 =>
      intro xq2 xq3 mq1 H locs ls hl hR hF
      rw [F_M_bookOf_L4] at hF
      refine lv_iload_n hx hb (dk DX11_bookOf 4 rfl) rfl (lv_at hl 3 rfl) ?_
      refine lv_aload_n hx hb (dk DX11_bookOf 5 rfl) rfl (lv_at hl 0 rfl) ?_
      refine gX11_13 C hR ob78 rf78_1 (dk DX11_bookOf 6 rfl) ?_
      refine lv_iconst (v := (5 : Int32)) hx hb (dk DX11_bookOf 7 rfl) (by decide) ?_
      refine r_iald C hR ob79 rfl (dk DX11_bookOf 8 rfl) ?_
      refine lv_icmp_ge (tgt := 37) hx hb (dk DX11_bookOf 9 rfl) (by decide) (fun c11 => ?_) (fun c11 => ?_)
      · have hF := if_t c11 hF
        refine lv_iload_n hx hb (dk DX11_bookOf 23 rfl) rfl (lv_at hl 2 rfl) ?_
        cases hF
        exact r_iret C hrt hR (dk DX11_bookOf 24 rfl)
      · have hF := if_f c11 hF
        refine lv_iload_n hx hb (dk DX11_bookOf 10 rfl) rfl (lv_at hl 2 rfl) ?_
        refine lv_aload_n hx hb (dk DX11_bookOf 11 rfl) rfl (lv_at hl 0 rfl) ?_
        refine lv_iload_n hx hb (dk DX11_bookOf 12 rfl) rfl (lv_at hl 3 rfl) ?_
        refine lv_iload_n hx hb (dk DX11_bookOf 13 rfl) rfl (lv_at hl 1 rfl) ?_
        obtain ⟨zq8, mq6, hzq7, hF⟩ := bnd_ex hF
        refine r_callVi (As := [.int xq3, .int a1]) (rest := [.int xq2]) C hR (C_M_isSuch l hl0 G xq3 a1 mq1 _ _ hzq7) (by decide) (by decide) ob78 rfl wX11_470 rfl rfl (Nat.le_of_ble_eq_true rfl) hl.1 ⟨Nat.zero_le _, Nat.zero_le _⟩ (dk DX11_bookOf 14 rfl) (fun H locs hR => ?_)
        obtain ⟨k29_10, ek29_10, hF⟩ := lt_ex hF
        have J29 : ∀ (zq10 : Bool) (mq9 : Mem) (H : Heap) (locs : List Loc) (ls : Array Slot), lv_has ls 4 [(0, .ref (G.2.1 + 78)), (1, .int a1), (3, .int xq3)] → Rp G mr0 N0 mq9 s H locs → k29_10 zq10 mq9 = some (v, m') → W p l e (rmD 3) s mid args below meth c H locs 0 0 (MQ below (QR G mr0 N0 (some (.int v)) m') args s 0 0 (fun q => G.2.1 ≤ q)) (F0 mid 29 ls [.int (b2i zq10), .int xq2]) := by
          intro zq10 mq9 H locs ls hl hR hF
          rw [ek29_10] at hF
          refine lv_iadd hx hb (dk DX11_bookOf 19 rfl) ?_
          refine lv_topi (fun xq11 exq11 => ?_)
          have hF := lt_at exq11 hF
          refine lv_istore_n (lv' := [(2, .int xq11), (0, .ref (G.2.1 + 78)), (1, .int a1), (3, .int xq3)]) hx hb (dk DX11_bookOf 20 rfl) rfl hl (by decide) rfl (fun ls hl => ?_)
          obtain ⟨xq12, exq12, hF⟩ := lt_ex hF
          refine lv_iinc (v := xq12) (lv' := [(3, .int xq12), (2, .int xq11), (0, .ref (G.2.1 + 78)), (1, .int a1)]) hx hb (dk DX11_bookOf 21 rfl) hl (k := 3) rfl (by rw [exq12]; rfl) (by decide) rfl (fun ls hl => ?_)
          refine lv_goto (tgt := 4) hx hb (dk DX11_bookOf 22 rfl) (by decide) ?_
          exact ihq5 xq11 xq12 mq9 _ _ ls (lv_sub hl [2, 3, 1, 0] rfl) hR hF
        refine z_ifeq (tgt := 28) hx hb (dk DX11_bookOf 15 rfl) (by decide) (fun c21 => ?_) (fun c21 => ?_)
        · have hF := if_f c21 hF
          refine lv_iconst (v := (0 : Int32)) hx hb (dk DX11_bookOf 18 rfl) (by decide) ?_
          exact J29 false mq6 _ _ ls (lv_sub hl [0, 1, 3] rfl) hR hF
        · have hF := if_t c21 hF
          refine lv_iconst (v := (1 : Int32)) hx hb (dk DX11_bookOf 16 rfl) (by decide) ?_
          refine lv_goto (tgt := 29) hx hb (dk DX11_bookOf 17 rfl) (by decide) ?_
          exact J29 true mq6 _ _ ls (lv_sub hl [0, 1, 3] rfl) hR hF
  exact L4 1000000 (0 : Int32) (0 : Int32) m0 _ _ ls (lv_sub hl [2, 3, 1, 0] rfl) hR hF
set_option maxHeartbeats 4000000 in
set_option maxRecDepth 100000 in
theorem C_M_book (l : Launch) (hl0 : l.stackTraces = false) (G : GG) (a1 : Int32) (m0 : Mem) (v : Int32) (m' : Mem) (hF : F_M_book a1 m0 = some (v, m')) : Ct l G mr0 N0 yX11_book cX11_book 2 (some .int) 4 [.ref (G.2.1 + 78), .int a1] m0 (some (.int v)) m' := by
  refine Ct_of hl0 (by decide) (Nat.le_of_ble_eq_true rfl) ?_
  intro p e s mid args below meth c ls C hrt hl hR
  have hx := C.1.1
  have hb := C.1.2.1
  have hl : lv_has ls 2 [(0, .ref (G.2.1 + 78)), (1, .int a1)] := hl
  unfold F_M_book at hF
  refine lv_aload_n hx hb (dk DX11_book 0 rfl) rfl (lv_at hl 0 rfl) ?_
  refine lv_iconst (v := (0 : Int32)) hx hb (dk DX11_book 1 rfl) (by decide) ?_
  refine pX11_3 (x := (0 : Int32)) C hR ob78 (dk DX11_book 2 rfl) (fun H locs hR => ?_)
  obtain ⟨mq1, emq1, hF⟩ := lt_ex hF
  have hR := Rp_at emq1 hR
  refine lv_aload_n hx hb (dk DX11_book 3 rfl) rfl (lv_at hl 0 rfl) ?_
  refine lv_iload_n hx hb (dk DX11_book 4 rfl) rfl (lv_at hl 1 rfl) ?_
  refine lv_iconst (v := (0 : Int32)) hx hb (dk DX11_book 5 rfl) (by decide) ?_
  refine lv_iconst (v := (5 : Int32)) hx hb (dk DX11_book 6 rfl) (by decide) ?_
  obtain ⟨zq4, mq2, hzq3, hF⟩ := bnd_ex hF
  refine r_callSi (As := [.int a1, .int (0 : Int32), .int (5 : Int32)]) (rest := [.ref (G.2.1 + 78)]) C hR (C_M_in l hl0 G a1 (0 : Int32) (5 : Int32) mq1 _ _ hzq3) (by decide) (by decide) wX11_67 rfl rfl (Nat.le_of_ble_eq_true rfl) hl.1 ⟨Nat.zero_le _, Nat.zero_le _⟩ (dk DX11_book 7 rfl) (fun H locs hR => ?_)
  obtain ⟨k20_6, ek20_6, hF⟩ := lt_ex hF
  have J20 : ∀ (zq6 : Bool) (mq5 : Mem) (H : Heap) (locs : List Loc) (ls : Array Slot), lv_has ls 2 [(0, .ref (G.2.1 + 78)), (1, .int a1)] → Rp G mr0 N0 mq5 s H locs → k20_6 zq6 mq5 = some (v, m') → W p l e (rmD 4) s mid args below meth c H locs 0 0 (MQ below (QR G mr0 N0 (some (.int v)) m') args s 0 0 (fun q => G.2.1 ≤ q)) (F0 mid 20 ls [.int (b2i zq6), .ref (G.2.1 + 78)]) := by
    intro zq6 mq5 H locs ls hl hR hF
    rw [ek20_6] at hF
    refine lv_iconst (v := (1 : Int32)) hx hb (dk DX11_book 12 rfl) (by decide) ?_
    obtain ⟨zq9, mq7, hzq8, hF⟩ := bnd_ex hF
    refine r_callVi (As := [.int (b2i zq6), .int (1 : Int32)]) (rest := []) C hR (C_M_throwsIf l hl0 G zq6 (1 : Int32) mq5 _ _ hzq8) (by decide) (by decide) ob78 rfl wX11_227 rfl rfl (Nat.le_of_ble_eq_true rfl) hl.1 ⟨Nat.zero_le _, Nat.zero_le _⟩ (dk DX11_book 13 rfl) (fun H locs hR => ?_)
    refine z_ifeq (tgt := 31) hx hb (dk DX11_book 14 rfl) (by decide) (fun c24 => ?_) (fun c24 => ?_)
    · have hF := if_f c24 hF
      refine lv_aload_n hx hb (dk DX11_book 17 rfl) rfl (lv_at hl 0 rfl) ?_
      refine lv_iload_n hx hb (dk DX11_book 18 rfl) rfl (lv_at hl 1 rfl) ?_
      obtain ⟨xq12, mq10, hzq11, hF⟩ := bnd_ex hF
      refine r_callVi (As := [.int a1]) (rest := []) C hR (C_M_bookOf l hl0 G a1 mq7 _ _ hzq11) (by decide) (by decide) ob78 rfl wX11_473 rfl rfl (Nat.le_of_ble_eq_true rfl) hl.1 ⟨Nat.zero_le _, Nat.zero_le _⟩ (dk DX11_book 19 rfl) (fun H locs hR => ?_)
      cases hF
      exact r_iret C hrt hR (dk DX11_book 20 rfl)
    · have hF := if_t c24 hF
      refine lv_iconst (v := (0 : Int32)) hx hb (dk DX11_book 15 rfl) (by decide) ?_
      refine lv_goto (tgt := 36) hx hb (dk DX11_book 16 rfl) (by decide) ?_
      cases hF
      exact r_iret C hrt hR (dk DX11_book 20 rfl)
  refine z_ifne (tgt := 19) hx hb (dk DX11_book 8 rfl) (by decide) (fun c12 => ?_) (fun c12 => ?_)
  · have hF := if_t c12 hF
    refine lv_iconst (v := (0 : Int32)) hx hb (dk DX11_book 11 rfl) (by decide) ?_
    exact J20 false mq2 _ _ ls (lv_sub hl [0, 1] rfl) hR hF
  · have hF := if_f c12 hF
    refine lv_iconst (v := (1 : Int32)) hx hb (dk DX11_book 9 rfl) (by decide) ?_
    refine lv_goto (tgt := 20) hx hb (dk DX11_book 10 rfl) (by decide) ?_
    exact J20 true mq2 _ _ ls (lv_sub hl [0, 1] rfl) hR hF
set_option maxHeartbeats 4000000 in
set_option maxRecDepth 100000 in
theorem C_M_nextInnings (l : Launch) (hl0 : l.stackTraces = false) (G : GG) (m0 : Mem) (v : Unit) (m' : Mem) (hF : F_M_nextInnings m0 = some (v, m')) : Ct l G mr0 N0 yX11_nextInnings cX11_nextInnings 1 none 3 [.ref (G.2.1 + 78)] m0 none m' := by
  refine Ct_of hl0 (by decide) (Nat.le_of_ble_eq_true rfl) ?_
  intro p e s mid args below meth c ls C hrt hl hR
  have hx := C.1.1
  have hb := C.1.2.1
  have hl : lv_has ls 1 [(0, .ref (G.2.1 + 78))] := hl
  unfold F_M_nextInnings at hF
  refine lv_aload_n hx hb (dk DX11_nextInnings 0 rfl) rfl (lv_at hl 0 rfl) ?_
  refine gX11_13 C hR ob78 rf78_1 (dk DX11_nextInnings 1 rfl) ?_
  refine lv_bipush (v := (11 : Int32)) hx hb (dk DX11_nextInnings 2 rfl) (by decide) ?_
  refine lv_dup2_11 hx hb (dk DX11_nextInnings 3 rfl) rfl rfl ?_
  refine r_iald C hR ob79 rfl (dk DX11_nextInnings 4 rfl) ?_
  refine lv_iconst (v := (1 : Int32)) hx hb (dk DX11_nextInnings 5 rfl) (by decide) ?_
  refine lv_iadd hx hb (dk DX11_nextInnings 6 rfl) ?_
  refine r_iast C hR ob79 rfl (dk DX11_nextInnings 7 rfl) (fun H locs hR => ?_)
  obtain ⟨mq1, emq1, hF⟩ := lt_ex hF
  have hR := Rp_at emq1 hR
  refine lv_aload_n hx hb (dk DX11_nextInnings 8 rfl) rfl (lv_at hl 0 rfl) ?_
  refine gX11_13 C hR ob78 rf78_1 (dk DX11_nextInnings 9 rfl) ?_
  refine lv_bipush (v := (11 : Int32)) hx hb (dk DX11_nextInnings 10 rfl) (by decide) ?_
  refine r_iald C hR ob79 rfl (dk DX11_nextInnings 11 rfl) ?_
  refine lv_iconst (v := (2 : Int32)) hx hb (dk DX11_nextInnings 12 rfl) (by decide) ?_
  obtain ⟨k30_2, ek30_2, hF⟩ := lt_ex hF
  have J30 : ∀ (mq2 : Mem) (H : Heap) (locs : List Loc) (ls : Array Slot), lv_has ls 1 [(0, .ref (G.2.1 + 78))] → Rp G mr0 N0 mq2 s H locs → k30_2  mq2 = some (v, m') → W p l e (rmD 3) s mid args below meth c H locs 0 0 (MQ below (QR G mr0 N0 none m') args s 0 0 (fun q => G.2.1 ≤ q)) (F0 mid 30 ls []) := by
    intro  mq2 H locs ls hl hR hF
    rw [ek30_2] at hF
    refine lv_aload_n hx hb (dk DX11_nextInnings 19 rfl) rfl (lv_at hl 0 rfl) ?_
    refine gX11_13 C hR ob78 rf78_1 (dk DX11_nextInnings 20 rfl) ?_
    refine lv_bipush (v := (13 : Int32)) hx hb (dk DX11_nextInnings 21 rfl) (by decide) ?_
    refine lv_iconst (v := (0 : Int32)) hx hb (dk DX11_nextInnings 22 rfl) (by decide) ?_
    refine r_iast C hR ob79 rfl (dk DX11_nextInnings 23 rfl) (fun H locs hR => ?_)
    obtain ⟨mq3, emq3, hF⟩ := lt_ex hF
    have hR := Rp_at emq3 hR
    refine lv_aload_n hx hb (dk DX11_nextInnings 24 rfl) rfl (lv_at hl 0 rfl) ?_
    refine gX11_13 C hR ob78 rf78_1 (dk DX11_nextInnings 25 rfl) ?_
    refine lv_bipush (v := (14 : Int32)) hx hb (dk DX11_nextInnings 26 rfl) (by decide) ?_
    refine lv_iconst (v := (1 : Int32)) hx hb (dk DX11_nextInnings 27 rfl) (by decide) ?_
    refine r_iast C hR ob79 rfl (dk DX11_nextInnings 28 rfl) (fun H locs hR => ?_)
    obtain ⟨mq4, emq4, hF⟩ := lt_ex hF
    have hR := Rp_at emq4 hR
    refine lv_aload_n hx hb (dk DX11_nextInnings 29 rfl) rfl (lv_at hl 0 rfl) ?_
    refine gX11_13 C hR ob78 rf78_1 (dk DX11_nextInnings 30 rfl) ?_
    refine lv_bipush (v := (11 : Int32)) hx hb (dk DX11_nextInnings 31 rfl) (by decide) ?_
    refine r_iald C hR ob79 rfl (dk DX11_nextInnings 32 rfl) ?_
    refine lv_iconst (v := (3 : Int32)) hx hb (dk DX11_nextInnings 33 rfl) (by decide) ?_
    refine lv_icmp_ne (tgt := 79) hx hb (dk DX11_nextInnings 34 rfl) (by decide) (fun c54 => ?_) (fun c54 => ?_)
    · have hF := if_f c54 hF
      cases hF
      exact r_vret C hrt hR (dk DX11_nextInnings 46 rfl)
    · have hF := if_t c54 hF
      refine lv_aload_n hx hb (dk DX11_nextInnings 35 rfl) rfl (lv_at hl 0 rfl) ?_
      refine lv_aload_n hx hb (dk DX11_nextInnings 36 rfl) rfl (lv_at hl 0 rfl) ?_
      obtain ⟨xq7, mq5, hzq6, hF⟩ := bnd_ex hF
      refine r_callVi (As := []) (rest := [.ref (G.2.1 + 78)]) C hR (C_M_batter l hl0 G mq4 _ _ hzq6) (by decide) (by decide) ob78 rfl wX11_285 rfl rfl (Nat.le_of_ble_eq_true rfl) hl.1 ⟨Nat.zero_le _, Nat.zero_le _⟩ (dk DX11_nextInnings 37 rfl) (fun H locs hR => ?_)
      obtain ⟨xq10, mq8, hzq9, hF⟩ := bnd_ex hF
      refine r_callVi (As := [.int xq7]) (rest := []) C hR (C_M_leadOf l hl0 G xq7 mq5 _ _ hzq9) (by decide) (by decide) ob78 rfl wX11_281 rfl rfl (Nat.le_of_ble_eq_true rfl) hl.1 ⟨Nat.zero_le _, Nat.zero_le _⟩ (dk DX11_nextInnings 38 rfl) (fun H locs hR => ?_)
      refine lv_if_le (tgt := 79) hx hb (dk DX11_nextInnings 39 rfl) (by decide) (fun c65 => ?_) (fun c65 => ?_)
      · have hF := if_t c65 hF
        cases hF
        exact r_vret C hrt hR (dk DX11_nextInnings 46 rfl)
      · have hF := if_f c65 hF
        refine lv_aload_n hx hb (dk DX11_nextInnings 40 rfl) rfl (lv_at hl 0 rfl) ?_
        refine gX11_13 C hR ob78 rf78_1 (dk DX11_nextInnings 41 rfl) ?_
        refine lv_bipush (v := (18 : Int32)) hx hb (dk DX11_nextInnings 42 rfl) (by decide) ?_
        refine lv_aload_n hx hb (dk DX11_nextInnings 43 rfl) rfl (lv_at hl 0 rfl) ?_
        obtain ⟨xq13, mq11, hzq12, hF⟩ := bnd_ex hF
        refine r_callVi (As := []) (rest := [.int (18 : Int32), .ref (G.2.1 + 79)]) C hR (C_M_batter l hl0 G mq8 _ _ hzq12) (by decide) (by decide) ob78 rfl wX11_285 rfl rfl (Nat.le_of_ble_eq_true rfl) hl.1 ⟨Nat.zero_le _, Nat.zero_le _⟩ (dk DX11_nextInnings 44 rfl) (fun H locs hR => ?_)
        refine r_iast C hR ob79 rfl (dk DX11_nextInnings 45 rfl) (fun H locs hR => ?_)
        obtain ⟨mq14, emq14, hF⟩ := lt_ex hF
        have hR := Rp_at emq14 hR
        cases hF
        exact r_vret C hrt hR (dk DX11_nextInnings 46 rfl)
  refine lv_icmp_ne (tgt := 30) hx hb (dk DX11_nextInnings 13 rfl) (by decide) (fun c19 => ?_) (fun c19 => ?_)
  · have hF := if_f c19 hF
    exact J30 mq1 _ _ ls (lv_sub hl [0] rfl) hR hF
  · have hF := if_t c19 hF
    refine lv_aload_n hx hb (dk DX11_nextInnings 14 rfl) rfl (lv_at hl 0 rfl) ?_
    refine gX11_13 C hR ob78 rf78_1 (dk DX11_nextInnings 15 rfl) ?_
    refine lv_bipush (v := (12 : Int32)) hx hb (dk DX11_nextInnings 16 rfl) (by decide) ?_
    refine lv_iconst (v := (0 : Int32)) hx hb (dk DX11_nextInnings 17 rfl) (by decide) ?_
    refine r_iast C hR ob79 rfl (dk DX11_nextInnings 18 rfl) (fun H locs hR => ?_)
    obtain ⟨mq15, emq15, hF⟩ := lt_ex hF
    have hR := Rp_at emq15 hR
    exact J30 mq15 _ _ ls (lv_sub hl [0] rfl) hR hF
set_option maxHeartbeats 4000000 in
set_option maxRecDepth 100000 in
theorem C_M_settles (l : Launch) (hl0 : l.stackTraces = false) (G : GG) (m0 : Mem) (v : Unit) (m' : Mem) (hF : F_M_settles m0 = some (v, m')) : Ct l G mr0 N0 yX11_settles cX11_settles 3 none 4 [.ref (G.2.1 + 78)] m0 none m' := by
  refine Ct_of hl0 (by decide) (Nat.le_of_ble_eq_true rfl) ?_
  intro p e s mid args below meth c ls C hrt hl hR
  have hx := C.1.1
  have hb := C.1.2.1
  have hl : lv_has ls 3 [(0, .ref (G.2.1 + 78))] := hl
  unfold F_M_settles at hF
  refine lv_aload_n hx hb (dk DX11_settles 0 rfl) rfl (lv_at hl 0 rfl) ?_
  obtain ⟨xq3, mq1, hzq2, hF⟩ := bnd_ex hF
  refine r_callVi (As := []) (rest := []) C hR (C_M_batter l hl0 G m0 _ _ hzq2) (by decide) (by decide) ob78 rfl wX11_285 rfl rfl (Nat.le_of_ble_eq_true rfl) hl.1 ⟨Nat.zero_le _, Nat.zero_le _⟩ (dk DX11_settles 1 rfl) (fun H locs hR => ?_)
  refine lv_istore_n (lv' := [(1, .int xq3), (0, .ref (G.2.1 + 78))]) hx hb (dk DX11_settles 2 rfl) rfl hl (by decide) rfl (fun ls hl => ?_)
  refine lv_aload_n hx hb (dk DX11_settles 3 rfl) rfl (lv_at hl 1 rfl) ?_
  refine lv_iload_n hx hb (dk DX11_settles 4 rfl) rfl (lv_at hl 0 rfl) ?_
  obtain ⟨xq6, mq4, hzq5, hF⟩ := bnd_ex hF
  refine r_callVi (As := [.int xq3]) (rest := []) C hR (C_M_leadOf l hl0 G xq3 mq1 _ _ hzq5) (by decide) (by decide) ob78 rfl wX11_281 rfl rfl (Nat.le_of_ble_eq_true rfl) hl.1 ⟨Nat.zero_le _, Nat.zero_le _⟩ (dk DX11_settles 5 rfl) (fun H locs hR => ?_)
  refine lv_istore_n (lv' := [(2, .int xq6), (1, .int xq3), (0, .ref (G.2.1 + 78))]) hx hb (dk DX11_settles 6 rfl) rfl hl (by decide) rfl (fun ls hl => ?_)
  refine lv_aload_n hx hb (dk DX11_settles 7 rfl) rfl (lv_at hl 2 rfl) ?_
  refine gX11_13 C hR ob78 rf78_1 (dk DX11_settles 8 rfl) ?_
  refine lv_bipush (v := (11 : Int32)) hx hb (dk DX11_settles 9 rfl) (by decide) ?_
  refine r_iald C hR ob79 rfl (dk DX11_settles 10 rfl) ?_
  refine lv_iconst (v := (3 : Int32)) hx hb (dk DX11_settles 11 rfl) (by decide) ?_
  obtain ⟨k86_7, ek86_7, hF⟩ := lt_ex hF
  have J86 : ∀ (mq7 : Mem) (H : Heap) (locs : List Loc) (ls : Array Slot), lv_has ls 3 [(0, .ref (G.2.1 + 78))] → Rp G mr0 N0 mq7 s H locs → k86_7  mq7 = some (v, m') → W p l e (rmD 4) s mid args below meth c H locs 0 0 (MQ below (QR G mr0 N0 none m') args s 0 0 (fun q => G.2.1 ≤ q)) (F0 mid 86 ls []) := by
    intro  mq7 H locs ls hl hR hF
    rw [ek86_7] at hF
    refine lv_aload_n hx hb (dk DX11_settles 47 rfl) rfl (lv_at hl 0 rfl) ?_
    obtain ⟨zq10, mq8, hzq9, hF⟩ := bnd_ex hF
    refine r_callVi (As := []) (rest := []) C hR (C_M_isOver l hl0 G mq7 _ _ hzq9) (by decide) (by decide) ob78 rfl wX11_275 rfl rfl (Nat.le_of_ble_eq_true rfl) hl.1 ⟨Nat.zero_le _, Nat.zero_le _⟩ (dk DX11_settles 48 rfl) (fun H locs hR => ?_)
    refine z_ifne (tgt := 112) hx hb (dk DX11_settles 49 rfl) (by decide) (fun c90 => ?_) (fun c90 => ?_)
    · have hF := if_t c90 hF
      cases hF
      exact r_vret C hrt hR (dk DX11_settles 60 rfl)
    · have hF := if_f c90 hF
      refine lv_aload_n hx hb (dk DX11_settles 50 rfl) rfl (lv_at hl 0 rfl) ?_
      obtain ⟨xq13, mq11, hzq12, hF⟩ := bnd_ex hF
      refine r_callVi (As := []) (rest := []) C hR (C_M_played l hl0 G mq8 _ _ hzq12) (by decide) (by decide) ob78 rfl wX11_288 rfl rfl (Nat.le_of_ble_eq_true rfl) hl.1 ⟨Nat.zero_le _, Nat.zero_le _⟩ (dk DX11_settles 51 rfl) (fun H locs hR => ?_)
      refine lv_aload_n hx hb (dk DX11_settles 52 rfl) rfl (lv_at hl 0 rfl) ?_
      obtain ⟨xq16, mq14, hzq15, hF⟩ := bnd_ex hF
      refine r_callVi (As := []) (rest := [.int xq13]) C hR (C_M_size l hl0 G mq11 _ _ hzq15) (by decide) (by decide) ob78 rfl wX11_63 rfl rfl (Nat.le_of_ble_eq_true rfl) hl.1 ⟨Nat.zero_le _, Nat.zero_le _⟩ (dk DX11_settles 53 rfl) (fun H locs hR => ?_)
      refine lv_icmp_ne (tgt := 112) hx hb (dk DX11_settles 54 rfl) (by decide) (fun c101 => ?_) (fun c101 => ?_)
      · have hF := if_f c101 hF
        cases hF
        exact r_vret C hrt hR (dk DX11_settles 60 rfl)
      · have hF := if_t c101 hF
        refine lv_aload_n hx hb (dk DX11_settles 55 rfl) rfl (lv_at hl 0 rfl) ?_
        refine gX11_13 C hR ob78 rf78_1 (dk DX11_settles 56 rfl) ?_
        refine lv_bipush (v := (18 : Int32)) hx hb (dk DX11_settles 57 rfl) (by decide) ?_
        refine lv_iconst (v := (2 : Int32)) hx hb (dk DX11_settles 58 rfl) (by decide) ?_
        refine r_iast C hR ob79 rfl (dk DX11_settles 59 rfl) (fun H locs hR => ?_)
        obtain ⟨mq17, emq17, hF⟩ := lt_ex hF
        have hR := Rp_at emq17 hR
        cases hF
        exact r_vret C hrt hR (dk DX11_settles 60 rfl)
  refine lv_icmp_ne (tgt := 70) hx hb (dk DX11_settles 12 rfl) (by decide) (fun c19 => ?_) (fun c19 => ?_)
  · have hF := if_f c19 hF
    refine lv_aload_n hx hb (dk DX11_settles 39 rfl) rfl (lv_at hl 2 rfl) ?_
    refine gX11_13 C hR ob78 rf78_1 (dk DX11_settles 40 rfl) ?_
    refine lv_bipush (v := (13 : Int32)) hx hb (dk DX11_settles 41 rfl) (by decide) ?_
    refine r_iald C hR ob79 rfl (dk DX11_settles 42 rfl) ?_
    refine lv_bipush (v := (10 : Int32)) hx hb (dk DX11_settles 43 rfl) (by decide) ?_
    refine lv_icmp_ne (tgt := 86) hx hb (dk DX11_settles 44 rfl) (by decide) (fun c79 => ?_) (fun c79 => ?_)
    · have hF := if_f c79 hF
      exact J86 mq4 _ _ ls (lv_sub hl [2] rfl) hR hF
    · have hF := if_t c79 hF
      refine lv_aload_n hx hb (dk DX11_settles 45 rfl) rfl (lv_at hl 2 rfl) ?_
      obtain ⟨uq20, mq18, hzq19, hF⟩ := bnd_ex hF
      refine r_callVv (As := []) (rest := []) C hR (C_M_nextInnings l hl0 G mq4 _ _ hzq19) (by decide) (by decide) ob78 rfl wX11_297 rfl rfl (Nat.le_of_ble_eq_true rfl) hl.1 ⟨Nat.zero_le _, Nat.zero_le _⟩ (dk DX11_settles 46 rfl) (fun H locs hR => ?_)
      exact J86 mq18 _ _ ls (lv_sub hl [2] rfl) hR hF
  · have hF := if_t c19 hF
    refine lv_iload_n hx hb (dk DX11_settles 13 rfl) rfl (lv_at hl 0 rfl) ?_
    refine lv_if_le (tgt := 37) hx hb (dk DX11_settles 14 rfl) (by decide) (fun c23 => ?_) (fun c23 => ?_)
    · have hF := if_t c23 hF
      refine lv_aload_n hx hb (dk DX11_settles 21 rfl) rfl (lv_at hl 2 rfl) ?_
      refine gX11_13 C hR ob78 rf78_1 (dk DX11_settles 22 rfl) ?_
      refine lv_bipush (v := (13 : Int32)) hx hb (dk DX11_settles 23 rfl) (by decide) ?_
      refine r_iald C hR ob79 rfl (dk DX11_settles 24 rfl) ?_
      refine lv_bipush (v := (10 : Int32)) hx hb (dk DX11_settles 25 rfl) (by decide) ?_
      refine lv_icmp_ne (tgt := 86) hx hb (dk DX11_settles 26 rfl) (by decide) (fun c46 => ?_) (fun c46 => ?_)
      · have hF := if_f c46 hF
        exact J86 mq4 _ _ ls (lv_sub hl [2] rfl) hR hF
      · have hF := if_t c46 hF
        refine lv_aload_n hx hb (dk DX11_settles 27 rfl) rfl (lv_at hl 2 rfl) ?_
        refine gX11_13 C hR ob78 rf78_1 (dk DX11_settles 28 rfl) ?_
        refine lv_bipush (v := (18 : Int32)) hx hb (dk DX11_settles 29 rfl) (by decide) ?_
        refine lv_iload_n hx hb (dk DX11_settles 30 rfl) rfl (lv_at hl 0 rfl) ?_
        obtain ⟨k66_22, ek66_22, hF⟩ := lt_ex hF
        have J66 : ∀ (xq22 : Int32) (mq21 : Mem) (H : Heap) (locs : List Loc) (ls : Array Slot), lv_has ls 3 [(0, .ref (G.2.1 + 78))] → Rp G mr0 N0 mq21 s H locs → k66_22 xq22 mq21 = some (v, m') → W p l e (rmD 4) s mid args below meth c H locs 0 0 (MQ below (QR G mr0 N0 none m') args s 0 0 (fun q => G.2.1 ≤ q)) (F0 mid 66 ls [.int xq22, .int (18 : Int32), .ref (G.2.1 + 79)]) := by
          intro xq22 mq21 H locs ls hl hR hF
          rw [ek66_22] at hF
          refine r_iast C hR ob79 rfl (dk DX11_settles 37 rfl) (fun H locs hR => ?_)
          obtain ⟨mq23, emq23, hF⟩ := lt_ex hF
          have hR := Rp_at emq23 hR
          refine lv_goto (tgt := 86) hx hb (dk DX11_settles 38 rfl) (by decide) ?_
          exact J86 mq23 _ _ ls (lv_sub hl [0] rfl) hR hF
        refine lv_if_ne (tgt := 63) hx hb (dk DX11_settles 31 rfl) (by decide) (fun c56 => ?_) (fun c56 => ?_)
        · have hF := if_f c56 hF
          refine lv_iconst (v := (1 : Int32)) hx hb (dk DX11_settles 34 rfl) (by decide) ?_
          refine lv_iload_n hx hb (dk DX11_settles 35 rfl) rfl (lv_at hl 1 rfl) ?_
          refine lv_isub hx hb (dk DX11_settles 36 rfl) ?_
          exact J66 ((1 : Int32) - xq3) mq4 _ _ ls (lv_sub hl [2] rfl) hR hF
        · have hF := if_t c56 hF
          refine lv_iconst (v := (2 : Int32)) hx hb (dk DX11_settles 32 rfl) (by decide) ?_
          refine lv_goto (tgt := 66) hx hb (dk DX11_settles 33 rfl) (by decide) ?_
          exact J66 (2 : Int32) mq4 _ _ ls (lv_sub hl [2] rfl) hR hF
    · have hF := if_f c23 hF
      refine lv_aload_n hx hb (dk DX11_settles 15 rfl) rfl (lv_at hl 2 rfl) ?_
      refine gX11_13 C hR ob78 rf78_1 (dk DX11_settles 16 rfl) ?_
      refine lv_bipush (v := (18 : Int32)) hx hb (dk DX11_settles 17 rfl) (by decide) ?_
      refine lv_iload_n hx hb (dk DX11_settles 18 rfl) rfl (lv_at hl 1 rfl) ?_
      refine r_iast C hR ob79 rfl (dk DX11_settles 19 rfl) (fun H locs hR => ?_)
      obtain ⟨mq24, emq24, hF⟩ := lt_ex hF
      have hR := Rp_at emq24 hR
      refine lv_goto (tgt := 86) hx hb (dk DX11_settles 20 rfl) (by decide) ?_
      exact J86 mq24 _ _ ls (lv_sub hl [2] rfl) hR hF
set_option maxHeartbeats 4000000 in
set_option maxRecDepth 100000 in
theorem C_M_plays (l : Launch) (hl0 : l.stackTraces = false) (G : GG) (a1 : Int32) (a2 : Bool) (m0 : Mem) (v : Int32) (m' : Mem) (hF : F_M_plays a1 a2 m0 = some (v, m')) : Ct l G mr0 N0 yX11_plays cX11_plays 10 (some .int) 5 [.ref (G.2.1 + 78), .int a1, .int (b2i a2)] m0 (some (.int v)) m' := by
  refine Ct_of hl0 (by decide) (Nat.le_of_ble_eq_true rfl) ?_
  intro p e s mid args below meth c ls C hrt hl hR
  have hx := C.1.1
  have hb := C.1.2.1
  have hl : lv_has ls 10 [(0, .ref (G.2.1 + 78)), (1, .int a1), (2, .int (b2i a2))] := hl
  unfold F_M_plays at hF
  refine lv_aload_n hx hb (dk DX11_plays 0 rfl) rfl (lv_at hl 0 rfl) ?_
  obtain ⟨xq3, mq1, hzq2, hF⟩ := bnd_ex hF
  refine r_callVi (As := []) (rest := []) C hR (C_M_played l hl0 G m0 _ _ hzq2) (by decide) (by decide) ob78 rfl wX11_288 rfl rfl (Nat.le_of_ble_eq_true rfl) hl.1 ⟨Nat.zero_le _, Nat.zero_le _⟩ (dk DX11_plays 1 rfl) (fun H locs hR => ?_)
  refine lv_istore_n (lv' := [(3, .int xq3), (0, .ref (G.2.1 + 78)), (1, .int a1), (2, .int (b2i a2))]) hx hb (dk DX11_plays 2 rfl) rfl hl (by decide) rfl (fun ls hl => ?_)
  refine lv_aload_n hx hb (dk DX11_plays 3 rfl) rfl (lv_at hl 1 rfl) ?_
  obtain ⟨xq6, mq4, hzq5, hF⟩ := bnd_ex hF
  refine r_callVi (As := []) (rest := []) C hR (C_M_batter l hl0 G mq1 _ _ hzq5) (by decide) (by decide) ob78 rfl wX11_285 rfl rfl (Nat.le_of_ble_eq_true rfl) hl.1 ⟨Nat.zero_le _, Nat.zero_le _⟩ (dk DX11_plays 4 rfl) (fun H locs hR => ?_)
  refine lv_istore (lv' := [(4, .int xq6), (3, .int xq3), (0, .ref (G.2.1 + 78)), (1, .int a1), (2, .int (b2i a2))]) hx hb (dk DX11_plays 5 rfl) hl (by decide) rfl (fun ls hl => ?_)
  refine lv_aload_n hx hb (dk DX11_plays 6 rfl) rfl (lv_at hl 2 rfl) ?_
  refine lv_iload_n hx hb (dk DX11_plays 7 rfl) rfl (lv_at hl 1 rfl) ?_
  refine lv_aload_n hx hb (dk DX11_plays 8 rfl) rfl (lv_at hl 2 rfl) ?_
  refine gX11_13 C hR ob78 rf78_1 (dk DX11_plays 9 rfl) ?_
  refine lv_bipush (v := (11 : Int32)) hx hb (dk DX11_plays 10 rfl) (by decide) ?_
  refine r_iald C hR ob79 rfl (dk DX11_plays 11 rfl) ?_
  refine lv_iload hx hb (dk DX11_plays 12 rfl) (lv_at hl 0 rfl) ?_
  obtain ⟨xq9, mq7, hzq8, hF⟩ := bnd_ex hF
  refine r_callVi (As := [.int xq3, .int (gI mq4 79 11), .int xq6]) (rest := []) C hR (C_M_levelOf l hl0 G xq3 (gI mq4 79 11) xq6 mq4 _ _ hzq8) (by decide) (by decide) ob78 rfl wX11_259 rfl rfl (Nat.le_of_ble_eq_true rfl) hl.1 ⟨Nat.zero_le _, Nat.zero_le _⟩ (dk DX11_plays 13 rfl) (fun H locs hR => ?_)
  refine lv_istore (lv' := [(5, .int xq9), (4, .int xq6), (3, .int xq3), (0, .ref (G.2.1 + 78)), (1, .int a1), (2, .int (b2i a2))]) hx hb (dk DX11_plays 14 rfl) hl (by decide) rfl (fun ls hl => ?_)
  refine lv_iload_n hx hb (dk DX11_plays 15 rfl) rfl (lv_at hl 5 rfl) ?_
  obtain ⟨k51_11, ek51_11, hF⟩ := lt_ex hF
  have J51 : ∀ (xq11 : Int32) (mq10 : Mem) (H : Heap) (locs : List Loc) (ls : Array Slot), lv_has ls 10 [(0, .ref (G.2.1 + 78)), (1, .int a1), (2, .int (b2i a2)), (3, .int xq3), (4, .int xq6), (5, .int xq9)] → Rp G mr0 N0 mq10 s H locs → k51_11 xq11 mq10 = some (v, m') → W p l e (rmD 5) s mid args below meth c H locs 0 0 (MQ below (QR G mr0 N0 (some (.int v)) m') args s 0 0 (fun q => G.2.1 ≤ q)) (F0 mid 51 ls [.int xq11]) := by
    intro xq11 mq10 H locs ls hl hR hF
    rw [ek51_11] at hF
    refine lv_istore (lv' := [(6, .int xq11), (0, .ref (G.2.1 + 78)), (1, .int a1), (2, .int (b2i a2)), (3, .int xq3), (4, .int xq6), (5, .int xq9)]) hx hb (dk DX11_plays 28 rfl) hl (by decide) rfl (fun ls hl => ?_)
    refine lv_aload_n hx hb (dk DX11_plays 29 rfl) rfl (lv_at hl 1 rfl) ?_
    refine lv_iload_n hx hb (dk DX11_plays 30 rfl) rfl (lv_at hl 4 rfl) ?_
    obtain ⟨zq14, mq12, hzq13, hF⟩ := bnd_ex hF
    refine r_callVi (As := [.int xq3]) (rest := []) C hR (C_M_isRain l hl0 G xq3 mq10 _ _ hzq13) (by decide) (by decide) ob78 rfl wX11_262 rfl rfl (Nat.le_of_ble_eq_true rfl) hl.1 ⟨Nat.zero_le _, Nat.zero_le _⟩ (dk DX11_plays 31 rfl) (fun H locs hR => ?_)
    obtain ⟨k73_16, ek73_16, hF⟩ := lt_ex hF
    have J73 : ∀ (xq16 : Int32) (mq15 : Mem) (H : Heap) (locs : List Loc) (ls : Array Slot), lv_has ls 10 [(0, .ref (G.2.1 + 78)), (1, .int a1), (2, .int (b2i a2)), (3, .int xq3), (4, .int xq6), (5, .int xq9), (6, .int xq11)] → Rp G mr0 N0 mq15 s H locs → k73_16 xq16 mq15 = some (v, m') → W p l e (rmD 5) s mid args below meth c H locs 0 0 (MQ below (QR G mr0 N0 (some (.int v)) m') args s 0 0 (fun q => G.2.1 ≤ q)) (F0 mid 73 ls [.int xq16]) := by
      intro xq16 mq15 H locs ls hl hR hF
      rw [ek73_16] at hF
      refine lv_istore (lv' := [(7, .int xq16), (0, .ref (G.2.1 + 78)), (1, .int a1), (2, .int (b2i a2)), (3, .int xq3), (4, .int xq6), (5, .int xq9), (6, .int xq11)]) hx hb (dk DX11_plays 40 rfl) hl (by decide) rfl (fun ls hl => ?_)
      refine lv_aload_n hx hb (dk DX11_plays 41 rfl) rfl (lv_at hl 1 rfl) ?_
      refine gX11_13 C hR ob78 rf78_1 (dk DX11_plays 42 rfl) ?_
      refine lv_bipush (v := (15 : Int32)) hx hb (dk DX11_plays 43 rfl) (by decide) ?_
      refine lv_iload hx hb (dk DX11_plays 44 rfl) (lv_at hl 5 rfl) ?_
      refine lv_iadd hx hb (dk DX11_plays 45 rfl) ?_
      refine lv_topi (fun xq17 exq17 => ?_)
      have hF := lt_at exq17 hF
      refine lv_dup2_11 hx hb (dk DX11_plays 46 rfl) rfl rfl ?_
      obtain ⟨hq18, hF⟩ := ckB_ex hF
      refine r_iald C hR ob79 hq18 (dk DX11_plays 47 rfl) ?_
      refine lv_topi (fun xq19 exq19 => ?_)
      have hF := lt_at exq19 hF
      refine lv_iload hx hb (dk DX11_plays 48 rfl) (lv_at hl 7 rfl) ?_
      refine lv_iadd hx hb (dk DX11_plays 49 rfl) ?_
      obtain ⟨hq21, hF⟩ := ckB_ex hF
      refine r_iast C hR ob79 hq21 (dk DX11_plays 50 rfl) (fun H locs hR => ?_)
      obtain ⟨mq20, emq20, hF⟩ := lt_ex hF
      have hR := Rp_at emq20 hR
      refine lv_aload_n hx hb (dk DX11_plays 51 rfl) rfl (lv_at hl 1 rfl) ?_
      refine gX11_13 C hR ob78 rf78_1 (dk DX11_plays 52 rfl) ?_
      refine lv_bipush (v := (13 : Int32)) hx hb (dk DX11_plays 53 rfl) (by decide) ?_
      refine lv_bipush (v := (10 : Int32)) hx hb (dk DX11_plays 54 rfl) (by decide) ?_
      refine lv_aload_n hx hb (dk DX11_plays 55 rfl) rfl (lv_at hl 1 rfl) ?_
      refine gX11_13 C hR ob78 rf78_1 (dk DX11_plays 56 rfl) ?_
      refine lv_bipush (v := (13 : Int32)) hx hb (dk DX11_plays 57 rfl) (by decide) ?_
      refine r_iald C hR ob79 rfl (dk DX11_plays 58 rfl) ?_
      refine lv_iconst (v := (0 : Int32)) hx hb (dk DX11_plays 59 rfl) (by decide) ?_
      refine lv_iload hx hb (dk DX11_plays 60 rfl) (lv_at hl 0 rfl) ?_
      refine lv_iload_n hx hb (dk DX11_plays 61 rfl) rfl (lv_at hl 3 rfl) ?_
      obtain ⟨k117_23, ek117_23, hF⟩ := lt_ex hF
      have J117 : ∀ (zq23 : Bool) (mq22 : Mem) (H : Heap) (locs : List Loc) (ls : Array Slot), lv_has ls 10 [(0, .ref (G.2.1 + 78)), (1, .int a1), (3, .int xq3), (4, .int xq6), (5, .int xq9), (6, .int xq11)] → Rp G mr0 N0 mq22 s H locs → k117_23 zq23 mq22 = some (v, m') → W p l e (rmD 5) s mid args below meth c H locs 0 0 (MQ below (QR G mr0 N0 (some (.int v)) m') args s 0 0 (fun q => G.2.1 ≤ q)) (F0 mid 117 ls [.int (b2i zq23), .int xq16, .int (0 : Int32), .int (gI mq20 79 13), .int (10 : Int32), .int (13 : Int32), .ref (G.2.1 + 79)]) := by
        intro zq23 mq22 H locs ls hl hR hF
        rw [ek117_23] at hF
        refine lv_isub hx hb (dk DX11_plays 66 rfl) ?_
        refine r_mxI C (gd q2017 rfl) (by decide) (Nat.le_of_ble_eq_true rfl) hl.1 ⟨Nat.zero_le _, Nat.zero_le _⟩ (dk DX11_plays 67 rfl) ?_
        refine lv_iadd hx hb (dk DX11_plays 68 rfl) ?_
        refine lv_topi (fun xq24 exq24 => ?_)
        have hF := lt_at exq24 hF
        refine r_mnI C (gd q1941 rfl) (by decide) (Nat.le_of_ble_eq_true rfl) hl.1 ⟨Nat.zero_le _, Nat.zero_le _⟩ (dk DX11_plays 69 rfl) ?_
        refine r_iast C hR ob79 rfl (dk DX11_plays 70 rfl) (fun H locs hR => ?_)
        obtain ⟨mq25, emq25, hF⟩ := lt_ex hF
        have hR := Rp_at emq25 hR
        refine lv_aload_n hx hb (dk DX11_plays 71 rfl) rfl (lv_at hl 0 rfl) ?_
        refine gX11_13 C hR ob78 rf78_1 (dk DX11_plays 72 rfl) ?_
        refine lv_bipush (v := (14 : Int32)) hx hb (dk DX11_plays 73 rfl) (by decide) ?_
        refine lv_iconst (v := (0 : Int32)) hx hb (dk DX11_plays 74 rfl) (by decide) ?_
        refine r_iast C hR ob79 rfl (dk DX11_plays 75 rfl) (fun H locs hR => ?_)
        obtain ⟨mq26, emq26, hF⟩ := lt_ex hF
        have hR := Rp_at emq26 hR
        refine lv_aload_n hx hb (dk DX11_plays 76 rfl) rfl (lv_at hl 0 rfl) ?_
        refine lv_iload hx hb (dk DX11_plays 77 rfl) (lv_at hl 3 rfl) ?_
        obtain ⟨xq29, mq27, hzq28, hF⟩ := bnd_ex hF
        refine r_callVi (As := [.int xq6]) (rest := []) C hR (C_M_leadOf l hl0 G xq6 mq26 _ _ hzq28) (by decide) (by decide) ob78 rfl wX11_281 rfl rfl (Nat.le_of_ble_eq_true rfl) hl.1 ⟨Nat.zero_le _, Nat.zero_le _⟩ (dk DX11_plays 78 rfl) (fun H locs hR => ?_)
        refine lv_istore (lv' := [(8, .int xq29), (0, .ref (G.2.1 + 78)), (1, .int a1), (3, .int xq3), (4, .int xq6), (5, .int xq9), (6, .int xq11)]) hx hb (dk DX11_plays 79 rfl) hl (by decide) rfl (fun ls hl => ?_)
        refine lv_sipush (v := (235 : Int32)) hx hb (dk DX11_plays 80 rfl) (by decide) ?_
        refine lv_bipush (v := (7 : Int32)) hx hb (dk DX11_plays 81 rfl) (by decide) ?_
        refine lv_iload_n hx hb (dk DX11_plays 82 rfl) rfl (lv_at hl 3 rfl) ?_
        refine lv_imul hx hb (dk DX11_plays 83 rfl) ?_
        refine lv_iadd hx hb (dk DX11_plays 84 rfl) ?_
        refine lv_topi (fun xq30 exq30 => ?_)
        have hF := lt_at exq30 hF
        refine lv_istore (lv' := [(9, .int xq30), (8, .int xq29), (0, .ref (G.2.1 + 78)), (1, .int a1), (3, .int xq3), (4, .int xq6), (5, .int xq9), (6, .int xq11)]) hx hb (dk DX11_plays 85 rfl) hl (by decide) rfl (fun ls hl => ?_)
        refine lv_aload_n hx hb (dk DX11_plays 86 rfl) rfl (lv_at hl 2 rfl) ?_
        refine gX11_13 C hR ob78 rf78_1 (dk DX11_plays 87 rfl) ?_
        refine lv_iload hx hb (dk DX11_plays 88 rfl) (lv_at hl 0 rfl) ?_
        refine lv_aload_n hx hb (dk DX11_plays 89 rfl) rfl (lv_at hl 2 rfl) ?_
        refine gX11_13 C hR ob78 rf78_1 (dk DX11_plays 90 rfl) ?_
        refine lv_bipush (v := (11 : Int32)) hx hb (dk DX11_plays 91 rfl) (by decide) ?_
        refine r_iald C hR ob79 rfl (dk DX11_plays 92 rfl) ?_
        obtain ⟨hq32, hF⟩ := ckB_ex hF
        refine r_iast C hR ob79 hq32 (dk DX11_plays 93 rfl) (fun H locs hR => ?_)
        obtain ⟨mq31, emq31, hF⟩ := lt_ex hF
        have hR := Rp_at emq31 hR
        refine lv_aload_n hx hb (dk DX11_plays 94 rfl) rfl (lv_at hl 2 rfl) ?_
        refine gX11_13 C hR ob78 rf78_1 (dk DX11_plays 95 rfl) ?_
        refine lv_iload hx hb (dk DX11_plays 96 rfl) (lv_at hl 0 rfl) ?_
        refine lv_iconst (v := (1 : Int32)) hx hb (dk DX11_plays 97 rfl) (by decide) ?_
        refine lv_iadd hx hb (dk DX11_plays 98 rfl) ?_
        refine lv_iload hx hb (dk DX11_plays 99 rfl) (lv_at hl 5 rfl) ?_
        obtain ⟨hq34, hF⟩ := ckB_ex hF
        refine r_iast C hR ob79 hq34 (dk DX11_plays 100 rfl) (fun H locs hR => ?_)
        obtain ⟨mq33, emq33, hF⟩ := lt_ex hF
        have hR := Rp_at emq33 hR
        refine lv_aload_n hx hb (dk DX11_plays 101 rfl) rfl (lv_at hl 2 rfl) ?_
        refine gX11_13 C hR ob78 rf78_1 (dk DX11_plays 102 rfl) ?_
        refine lv_iload hx hb (dk DX11_plays 103 rfl) (lv_at hl 0 rfl) ?_
        refine lv_iconst (v := (2 : Int32)) hx hb (dk DX11_plays 104 rfl) (by decide) ?_
        refine lv_iadd hx hb (dk DX11_plays 105 rfl) ?_
        refine lv_iload hx hb (dk DX11_plays 106 rfl) (lv_at hl 6 rfl) ?_
        obtain ⟨hq36, hF⟩ := ckB_ex hF
        refine r_iast C hR ob79 hq36 (dk DX11_plays 107 rfl) (fun H locs hR => ?_)
        obtain ⟨mq35, emq35, hF⟩ := lt_ex hF
        have hR := Rp_at emq35 hR
        refine lv_aload_n hx hb (dk DX11_plays 108 rfl) rfl (lv_at hl 2 rfl) ?_
        refine gX11_13 C hR ob78 rf78_1 (dk DX11_plays 109 rfl) ?_
        refine lv_iload hx hb (dk DX11_plays 110 rfl) (lv_at hl 0 rfl) ?_
        refine lv_iconst (v := (3 : Int32)) hx hb (dk DX11_plays 111 rfl) (by decide) ?_
        refine lv_iadd hx hb (dk DX11_plays 112 rfl) ?_
        refine lv_iload_n hx hb (dk DX11_plays 113 rfl) rfl (lv_at hl 3 rfl) ?_
        obtain ⟨hq38, hF⟩ := ckB_ex hF
        refine r_iast C hR ob79 hq38 (dk DX11_plays 114 rfl) (fun H locs hR => ?_)
        obtain ⟨mq37, emq37, hF⟩ := lt_ex hF
        have hR := Rp_at emq37 hR
        refine lv_aload_n hx hb (dk DX11_plays 115 rfl) rfl (lv_at hl 2 rfl) ?_
        refine gX11_13 C hR ob78 rf78_1 (dk DX11_plays 116 rfl) ?_
        refine lv_iload hx hb (dk DX11_plays 117 rfl) (lv_at hl 0 rfl) ?_
        refine lv_iconst (v := (4 : Int32)) hx hb (dk DX11_plays 118 rfl) (by decide) ?_
        refine lv_iadd hx hb (dk DX11_plays 119 rfl) ?_
        refine lv_iload hx hb (dk DX11_plays 120 rfl) (lv_at hl 1 rfl) ?_
        obtain ⟨hq40, hF⟩ := ckB_ex hF
        refine r_iast C hR ob79 hq40 (dk DX11_plays 121 rfl) (fun H locs hR => ?_)
        obtain ⟨mq39, emq39, hF⟩ := lt_ex hF
        have hR := Rp_at emq39 hR
        refine lv_aload_n hx hb (dk DX11_plays 122 rfl) rfl (lv_at hl 2 rfl) ?_
        refine gX11_13 C hR ob78 rf78_1 (dk DX11_plays 123 rfl) ?_
        refine lv_iload hx hb (dk DX11_plays 124 rfl) (lv_at hl 0 rfl) ?_
        refine lv_iconst (v := (5 : Int32)) hx hb (dk DX11_plays 125 rfl) (by decide) ?_
        refine lv_iadd hx hb (dk DX11_plays 126 rfl) ?_
        refine lv_aload_n hx hb (dk DX11_plays 127 rfl) rfl (lv_at hl 2 rfl) ?_
        refine gX11_13 C hR ob78 rf78_1 (dk DX11_plays 128 rfl) ?_
        refine lv_bipush (v := (13 : Int32)) hx hb (dk DX11_plays 129 rfl) (by decide) ?_
        refine r_iald C hR ob79 rfl (dk DX11_plays 130 rfl) ?_
        obtain ⟨hq42, hF⟩ := ckB_ex hF
        refine r_iast C hR ob79 hq42 (dk DX11_plays 131 rfl) (fun H locs hR => ?_)
        obtain ⟨mq41, emq41, hF⟩ := lt_ex hF
        have hR := Rp_at emq41 hR
        refine lv_aload_n hx hb (dk DX11_plays 132 rfl) rfl (lv_at hl 2 rfl) ?_
        refine gX11_13 C hR ob78 rf78_1 (dk DX11_plays 133 rfl) ?_
        refine lv_iload hx hb (dk DX11_plays 134 rfl) (lv_at hl 0 rfl) ?_
        refine lv_bipush (v := (6 : Int32)) hx hb (dk DX11_plays 135 rfl) (by decide) ?_
        refine lv_iadd hx hb (dk DX11_plays 136 rfl) ?_
        refine lv_iload hx hb (dk DX11_plays 137 rfl) (lv_at hl 7 rfl) ?_
        obtain ⟨hq44, hF⟩ := ckB_ex hF
        refine r_iast C hR ob79 hq44 (dk DX11_plays 138 rfl) (fun H locs hR => ?_)
        obtain ⟨mq43, emq43, hF⟩ := lt_ex hF
        have hR := Rp_at emq43 hR
        refine lv_aload_n hx hb (dk DX11_plays 139 rfl) rfl (lv_at hl 2 rfl) ?_
        refine gX11_13 C hR ob78 rf78_1 (dk DX11_plays 140 rfl) ?_
        refine lv_bipush (v := (17 : Int32)) hx hb (dk DX11_plays 141 rfl) (by decide) ?_
        refine lv_dup2_11 hx hb (dk DX11_plays 142 rfl) rfl rfl ?_
        refine r_iald C hR ob79 rfl (dk DX11_plays 143 rfl) ?_
        refine lv_iconst (v := (1 : Int32)) hx hb (dk DX11_plays 144 rfl) (by decide) ?_
        refine lv_iadd hx hb (dk DX11_plays 145 rfl) ?_
        refine r_iast C hR ob79 rfl (dk DX11_plays 146 rfl) (fun H locs hR => ?_)
        obtain ⟨mq45, emq45, hF⟩ := lt_ex hF
        have hR := Rp_at emq45 hR
        refine lv_aload_n hx hb (dk DX11_plays 147 rfl) rfl (lv_at hl 2 rfl) ?_
        obtain ⟨uq48, mq46, hzq47, hF⟩ := bnd_ex hF
        refine r_callVv (As := []) (rest := []) C hR (C_M_settles l hl0 G mq45 _ _ hzq47) (by decide) (by decide) ob78 rfl wX11_306 rfl rfl (Nat.le_of_ble_eq_true rfl) hl.1 ⟨Nat.zero_le _, Nat.zero_le _⟩ (dk DX11_plays 148 rfl) (fun H locs hR => ?_)
        refine lv_iload hx hb (dk DX11_plays 149 rfl) (lv_at hl 1 rfl) ?_
        cases hF
        exact r_iret C hrt hR (dk DX11_plays 150 rfl)
      refine z_ifeq (tgt := 116) hx hb (dk DX11_plays 62 rfl) (by decide) (fun c109 => ?_) (fun c109 => ?_)
      · have hF := if_f c109 hF
        refine lv_iconst (v := (0 : Int32)) hx hb (dk DX11_plays 65 rfl) (by decide) ?_
        exact J117 false mq20 _ _ ls (lv_sub hl [1, 2, 4, 5, 6, 7] rfl) hR hF
      · have hF := if_t c109 hF
        refine lv_iconst (v := (1 : Int32)) hx hb (dk DX11_plays 63 rfl) (by decide) ?_
        refine lv_goto (tgt := 117) hx hb (dk DX11_plays 64 rfl) (by decide) ?_
        exact J117 true mq20 _ _ ls (lv_sub hl [1, 2, 4, 5, 6, 7] rfl) hR hF
    refine z_ifeq (tgt := 65) hx hb (dk DX11_plays 32 rfl) (by decide) (fun c58 => ?_) (fun c58 => ?_)
    · have hF := if_f c58 hF
      refine lv_aload_n hx hb (dk DX11_plays 35 rfl) rfl (lv_at hl 1 rfl) ?_
      refine lv_iload hx hb (dk DX11_plays 36 rfl) (lv_at hl 6 rfl) ?_
      refine lv_iload_n hx hb (dk DX11_plays 37 rfl) rfl (lv_at hl 2 rfl) ?_
      refine lv_iconst (v := (1 : Int32)) hx hb (dk DX11_plays 38 rfl) (by decide) ?_
      obtain ⟨xq51, mq49, hzq50, hF⟩ := bnd_ex hF
      refine r_callVi (As := [.int xq9, .int a1, .int (1 : Int32)]) (rest := []) C hR (C_M_ofSlot l hl0 G xq9 a1 (1 : Int32) mq12 _ _ hzq50) (by decide) (by decide) ob78 rfl wX11_249 rfl rfl (Nat.le_of_ble_eq_true rfl) hl.1 ⟨Nat.zero_le _, Nat.zero_le _⟩ (dk DX11_plays 39 rfl) (fun H locs hR => ?_)
      exact J73 xq51 mq49 _ _ ls (lv_sub hl [1, 2, 3, 4, 5, 6, 0] rfl) hR hF
    · have hF := if_t c58 hF
      refine lv_iconst (v := (0 : Int32)) hx hb (dk DX11_plays 33 rfl) (by decide) ?_
      refine lv_goto (tgt := 73) hx hb (dk DX11_plays 34 rfl) (by decide) ?_
      exact J73 (0 : Int32) mq12 _ _ ls (lv_sub hl [1, 2, 3, 4, 5, 6, 0] rfl) hR hF
  obtain ⟨k39_52, ek39_52, hF⟩ := lt_ex hF
  have J39 : ∀ (mq52 : Mem) (H : Heap) (locs : List Loc) (ls : Array Slot), lv_has ls 10 [(0, .ref (G.2.1 + 78)), (1, .int a1), (2, .int (b2i a2)), (3, .int xq3), (4, .int xq6), (5, .int xq9)] → Rp G mr0 N0 mq52 s H locs → k39_52  mq52 = some (v, m') → W p l e (rmD 5) s mid args below meth c H locs 0 0 (MQ below (QR G mr0 N0 (some (.int v)) m') args s 0 0 (fun q => G.2.1 ≤ q)) (F0 mid 39 ls []) := by
    intro  mq52 H locs ls hl hR hF
    rw [ek39_52] at hF
    refine lv_iconst (v := (0 : Int32)) hx hb (dk DX11_plays 21 rfl) (by decide) ?_
    refine lv_goto (tgt := 51) hx hb (dk DX11_plays 22 rfl) (by decide) ?_
    exact J51 (0 : Int32) mq52 _ _ ls (lv_sub hl [0, 1, 2, 3, 4, 5] rfl) hR hF
  refine z_ifne (tgt := 39) hx hb (dk DX11_plays 16 rfl) (by decide) (fun c28 => ?_) (fun c28 => ?_)
  · have hF := if_t c28 hF
    exact J39 mq7 _ _ ls (lv_sub hl [3, 4, 5, 2, 1, 0] rfl) hR hF
  · have hF := if_f c28 hF
    refine lv_aload_n hx hb (dk DX11_plays 17 rfl) rfl (lv_at hl 3 rfl) ?_
    refine lv_iload_n hx hb (dk DX11_plays 18 rfl) rfl (lv_at hl 2 rfl) ?_
    obtain ⟨zq55, mq53, hzq54, hF⟩ := bnd_ex hF
    refine r_callVi (As := [.int xq3]) (rest := []) C hR (C_M_isRain l hl0 G xq3 mq7 _ _ hzq54) (by decide) (by decide) ob78 rfl wX11_262 rfl rfl (Nat.le_of_ble_eq_true rfl) hl.1 ⟨Nat.zero_le _, Nat.zero_le _⟩ (dk DX11_plays 19 rfl) (fun H locs hR => ?_)
    refine z_ifeq (tgt := 43) hx hb (dk DX11_plays 20 rfl) (by decide) (fun c36 => ?_) (fun c36 => ?_)
    · have hF := if_f c36 hF
      refine lv_aload_n hx hb (dk DX11_plays 23 rfl) rfl (lv_at hl 3 rfl) ?_
      refine lv_iload hx hb (dk DX11_plays 24 rfl) (lv_at hl 0 rfl) ?_
      refine lv_iload_n hx hb (dk DX11_plays 25 rfl) rfl (lv_at hl 4 rfl) ?_
      refine lv_iconst (v := (0 : Int32)) hx hb (dk DX11_plays 26 rfl) (by decide) ?_
      obtain ⟨xq58, mq56, hzq57, hF⟩ := bnd_ex hF
      refine r_callVi (As := [.int xq9, .int a1, .int (0 : Int32)]) (rest := []) C hR (C_M_ofSlot l hl0 G xq9 a1 (0 : Int32) mq53 _ _ hzq57) (by decide) (by decide) ob78 rfl wX11_249 rfl rfl (Nat.le_of_ble_eq_true rfl) hl.1 ⟨Nat.zero_le _, Nat.zero_le _⟩ (dk DX11_plays 27 rfl) (fun H locs hR => ?_)
      exact J51 xq58 mq56 _ _ ls (lv_sub hl [3, 4, 5, 2, 1, 0] rfl) hR hF
    · have hF := if_t c36 hF
      exact J39 mq53 _ _ ls (lv_sub hl [3, 4, 5, 2, 1, 0] rfl) hR hF
set_option maxHeartbeats 4000000 in
set_option maxRecDepth 100000 in
theorem C_M_bring (l : Launch) (hl0 : l.stackTraces = false) (G : GG) (a1 : Int32) (m0 : Mem) (v : Int32) (m' : Mem) (hF : F_M_bring a1 m0 = some (v, m')) : Ct l G mr0 N0 yX11_bring cX11_bring 2 (some .int) 6 [.ref (G.2.1 + 78), .int a1] m0 (some (.int v)) m' := by
  refine Ct_of hl0 (by decide) (Nat.le_of_ble_eq_true rfl) ?_
  intro p e s mid args below meth c ls C hrt hl hR
  have hx := C.1.1
  have hb := C.1.2.1
  have hl : lv_has ls 2 [(0, .ref (G.2.1 + 78)), (1, .int a1)] := hl
  unfold F_M_bring at hF
  refine lv_aload_n hx hb (dk DX11_bring 0 rfl) rfl (lv_at hl 0 rfl) ?_
  refine lv_iconst (v := (0 : Int32)) hx hb (dk DX11_bring 1 rfl) (by decide) ?_
  refine pX11_3 (x := (0 : Int32)) C hR ob78 (dk DX11_bring 2 rfl) (fun H locs hR => ?_)
  obtain ⟨mq1, emq1, hF⟩ := lt_ex hF
  have hR := Rp_at emq1 hR
  refine lv_aload_n hx hb (dk DX11_bring 3 rfl) rfl (lv_at hl 0 rfl) ?_
  refine lv_iload_n hx hb (dk DX11_bring 4 rfl) rfl (lv_at hl 1 rfl) ?_
  obtain ⟨zq4, mq2, hzq3, hF⟩ := bnd_ex hF
  refine r_callSi (As := [.int a1]) (rest := [.ref (G.2.1 + 78)]) C hR (C_M_noSlot l hl0 G a1 mq1 _ _ hzq3) (by decide) (by decide) wX11_246 rfl rfl (Nat.le_of_ble_eq_true rfl) hl.1 ⟨Nat.zero_le _, Nat.zero_le _⟩ (dk DX11_bring 5 rfl) (fun H locs hR => ?_)
  refine lv_iconst (v := (1 : Int32)) hx hb (dk DX11_bring 6 rfl) (by decide) ?_
  obtain ⟨zq7, mq5, hzq6, hF⟩ := bnd_ex hF
  refine r_callVi (As := [.int (b2i zq4), .int (1 : Int32)]) (rest := []) C hR (C_M_throwsIf l hl0 G zq4 (1 : Int32) mq2 _ _ hzq6) (by decide) (by decide) ob78 rfl wX11_227 rfl rfl (Nat.le_of_ble_eq_true rfl) hl.1 ⟨Nat.zero_le _, Nat.zero_le _⟩ (dk DX11_bring 7 rfl) (fun H locs hR => ?_)
  refine z_ifne (tgt := 37) hx hb (dk DX11_bring 8 rfl) (by decide) (fun c14 => ?_) (fun c14 => ?_)
  · have hF := if_t c14 hF
    refine lv_iconst (v := (0 : Int32)) hx hb (dk DX11_bring 19 rfl) (by decide) ?_
    cases hF
    exact r_iret C hrt hR (dk DX11_bring 20 rfl)
  · have hF := if_f c14 hF
    refine lv_aload_n hx hb (dk DX11_bring 9 rfl) rfl (lv_at hl 0 rfl) ?_
    refine lv_aload_n hx hb (dk DX11_bring 10 rfl) rfl (lv_at hl 0 rfl) ?_
    obtain ⟨zq10, mq8, hzq9, hF⟩ := bnd_ex hF
    refine r_callVi (As := []) (rest := [.ref (G.2.1 + 78)]) C hR (C_M_isOn l hl0 G mq5 _ _ hzq9) (by decide) (by decide) ob78 rfl wX11_278 rfl rfl (Nat.le_of_ble_eq_true rfl) hl.1 ⟨Nat.zero_le _, Nat.zero_le _⟩ (dk DX11_bring 11 rfl) (fun H locs hR => ?_)
    obtain ⟨k30_12, ek30_12, hF⟩ := lt_ex hF
    have J30 : ∀ (zq12 : Bool) (mq11 : Mem) (H : Heap) (locs : List Loc) (ls : Array Slot), lv_has ls 2 [(0, .ref (G.2.1 + 78)), (1, .int a1)] → Rp G mr0 N0 mq11 s H locs → k30_12 zq12 mq11 = some (v, m') → W p l e (rmD 6) s mid args below meth c H locs 0 0 (MQ below (QR G mr0 N0 (some (.int v)) m') args s 0 0 (fun q => G.2.1 ≤ q)) (F0 mid 30 ls [.int (b2i zq12), .ref (G.2.1 + 78)]) := by
      intro zq12 mq11 H locs ls hl hR hF
      rw [ek30_12] at hF
      refine lv_iconst (v := (2 : Int32)) hx hb (dk DX11_bring 16 rfl) (by decide) ?_
      obtain ⟨zq15, mq13, hzq14, hF⟩ := bnd_ex hF
      refine r_callVi (As := [.int (b2i zq12), .int (2 : Int32)]) (rest := []) C hR (C_M_throwsIf l hl0 G zq12 (2 : Int32) mq11 _ _ hzq14) (by decide) (by decide) ob78 rfl wX11_227 rfl rfl (Nat.le_of_ble_eq_true rfl) hl.1 ⟨Nat.zero_le _, Nat.zero_le _⟩ (dk DX11_bring 17 rfl) (fun H locs hR => ?_)
      refine z_ifeq (tgt := 39) hx hb (dk DX11_bring 18 rfl) (by decide) (fun c34 => ?_) (fun c34 => ?_)
      · have hF := if_f c34 hF
        refine lv_aload_n hx hb (dk DX11_bring 21 rfl) rfl (lv_at hl 0 rfl) ?_
        obtain ⟨uq18, mq16, hzq17, hF⟩ := bnd_ex hF
        refine r_callVv (As := []) (rest := []) C hR (C_M_remembers l hl0 G mq13 _ _ hzq17) (by decide) (by decide) ob78 rfl wX11_294 rfl rfl (Nat.le_of_ble_eq_true rfl) hl.1 ⟨Nat.zero_le _, Nat.zero_le _⟩ (dk DX11_bring 22 rfl) (fun H locs hR => ?_)
        refine lv_aload_n hx hb (dk DX11_bring 23 rfl) rfl (lv_at hl 0 rfl) ?_
        refine lv_iload_n hx hb (dk DX11_bring 24 rfl) rfl (lv_at hl 1 rfl) ?_
        refine lv_iconst (v := (0 : Int32)) hx hb (dk DX11_bring 25 rfl) (by decide) ?_
        obtain ⟨xq21, mq19, hzq20, hF⟩ := bnd_ex hF
        refine r_callVi (As := [.int a1, .int (b2i false)]) (rest := []) C hR (C_M_plays l hl0 G a1 false mq16 _ _ hzq20) (by decide) (by decide) ob78 rfl wX11_313 rfl rfl (Nat.le_of_ble_eq_true rfl) hl.1 ⟨Nat.zero_le _, Nat.zero_le _⟩ (dk DX11_bring 26 rfl) (fun H locs hR => ?_)
        cases hF
        exact r_iret C hrt hR (dk DX11_bring 27 rfl)
      · have hF := if_t c34 hF
        refine lv_iconst (v := (0 : Int32)) hx hb (dk DX11_bring 19 rfl) (by decide) ?_
        cases hF
        exact r_iret C hrt hR (dk DX11_bring 20 rfl)
    refine z_ifne (tgt := 29) hx hb (dk DX11_bring 12 rfl) (by decide) (fun c22 => ?_) (fun c22 => ?_)
    · have hF := if_t c22 hF
      refine lv_iconst (v := (0 : Int32)) hx hb (dk DX11_bring 15 rfl) (by decide) ?_
      exact J30 false mq8 _ _ ls (lv_sub hl [0, 1] rfl) hR hF
    · have hF := if_f c22 hF
      refine lv_iconst (v := (1 : Int32)) hx hb (dk DX11_bring 13 rfl) (by decide) ?_
      refine lv_goto (tgt := 30) hx hb (dk DX11_bring 14 rfl) (by decide) ?_
      exact J30 true mq8 _ _ ls (lv_sub hl [0, 1] rfl) hR hF
set_option maxHeartbeats 4000000 in
set_option maxRecDepth 100000 in
theorem C_M_noPlayed (l : Launch) (hl0 : l.stackTraces = false) (G : GG) (a1 : Int32) (m0 : Mem) (v : Bool) (m' : Mem) (hF : F_M_noPlayed a1 m0 = some (v, m')) : Ct l G mr0 N0 yX11_noPlayed cX11_noPlayed 2 (some .boolean) 2 [.ref (G.2.1 + 78), .int a1] m0 (some (.int (b2i v))) m' := by
  refine Ct_of hl0 (by decide) (Nat.le_of_ble_eq_true rfl) ?_
  intro p e s mid args below meth c ls C hrt hl hR
  have hx := C.1.1
  have hb := C.1.2.1
  have hl : lv_has ls 2 [(0, .ref (G.2.1 + 78)), (1, .int a1)] := hl
  unfold F_M_noPlayed at hF
  refine lv_iload_n hx hb (dk DX11_noPlayed 0 rfl) rfl (lv_at hl 1 rfl) ?_
  refine lv_iconst (v := (0 : Int32)) hx hb (dk DX11_noPlayed 1 rfl) (by decide) ?_
  refine lv_aload_n hx hb (dk DX11_noPlayed 2 rfl) rfl (lv_at hl 0 rfl) ?_
  obtain ⟨xq3, mq1, hzq2, hF⟩ := bnd_ex hF
  refine r_callVi (As := []) (rest := [.int (0 : Int32), .int a1]) C hR (C_M_size l hl0 G m0 _ _ hzq2) (by decide) (by decide) ob78 rfl wX11_63 rfl rfl (Nat.le_of_ble_eq_true rfl) hl.1 ⟨Nat.zero_le _, Nat.zero_le _⟩ (dk DX11_noPlayed 3 rfl) (fun H locs hR => ?_)
  obtain ⟨zq6, mq4, hzq5, hF⟩ := bnd_ex hF
  refine r_callSi (As := [.int a1, .int (0 : Int32), .int xq3]) (rest := []) C hR (C_M_in l hl0 G a1 (0 : Int32) xq3 mq1 _ _ hzq5) (by decide) (by decide) wX11_67 rfl rfl (Nat.le_of_ble_eq_true rfl) hl.1 ⟨Nat.zero_le _, Nat.zero_le _⟩ (dk DX11_noPlayed 4 rfl) (fun H locs hR => ?_)
  refine z_ifne (tgt := 16) hx hb (dk DX11_noPlayed 5 rfl) (by decide) (fun c9 => ?_) (fun c9 => ?_)
  · have hF := if_t c9 hF
    refine lv_iconst (v := (0 : Int32)) hx hb (dk DX11_noPlayed 8 rfl) (by decide) ?_
    cases hF
    exact r_zret C hrt hR (dk DX11_noPlayed 9 rfl)
  · have hF := if_f c9 hF
    refine lv_iconst (v := (1 : Int32)) hx hb (dk DX11_noPlayed 6 rfl) (by decide) ?_
    refine lv_goto (tgt := 17) hx hb (dk DX11_noPlayed 7 rfl) (by decide) ?_
    cases hF
    exact r_zret C hrt hR (dk DX11_noPlayed 9 rfl)
set_option maxHeartbeats 4000000 in
set_option maxRecDepth 100000 in
theorem C_M_countsFrom (l : Launch) (hl0 : l.stackTraces = false) (G : GG) (a1 : Int32) (a2 : Int32) (m0 : Mem) (v : Unit) (m' : Mem) (hF : F_M_countsFrom a1 a2 m0 = some (v, m')) : Ct l G mr0 N0 yX11_countsFrom cX11_countsFrom 3 none 10 [.ref (G.2.1 + 78), .int a1, .int a2] m0 none m' := by
  refine Ct_of hl0 (by decide) (Nat.le_of_ble_eq_true rfl) ?_
  intro p e s mid args below meth c ls C hrt hl hR
  have hx := C.1.1
  have hb := C.1.2.1
  have hl : lv_has ls 3 [(0, .ref (G.2.1 + 78)), (1, .int a1), (2, .int a2)] := hl
  unfold F_M_countsFrom at hF
  refine lv_aload_n hx hb (dk DX11_countsFrom 0 rfl) rfl (lv_at hl 0 rfl) ?_
  refine lv_aload_n hx hb (dk DX11_countsFrom 1 rfl) rfl (lv_at hl 0 rfl) ?_
  refine gX11_13 C hR ob78 rf78_1 (dk DX11_countsFrom 2 rfl) ?_
  refine lv_iconst (v := (2 : Int32)) hx hb (dk DX11_countsFrom 3 rfl) (by decide) ?_
  refine r_iald C hR ob79 rfl (dk DX11_countsFrom 4 rfl) ?_
  refine pX11_334 (x := gI m0 79 2) C hR ob78 (dk DX11_countsFrom 5 rfl) (fun H locs hR => ?_)
  obtain ⟨mq1, emq1, hF⟩ := lt_ex hF
  have hR := Rp_at emq1 hR
  refine lv_aload_n hx hb (dk DX11_countsFrom 6 rfl) rfl (lv_at hl 0 rfl) ?_
  refine lv_iconst (v := (0 : Int32)) hx hb (dk DX11_countsFrom 7 rfl) (by decide) ?_
  refine lv_iload_n hx hb (dk DX11_countsFrom 8 rfl) rfl (lv_at hl 1 rfl) ?_
  refine lv_iload_n hx hb (dk DX11_countsFrom 9 rfl) rfl (lv_at hl 2 rfl) ?_
  refine r_abI C (gd q2066 rfl) (by decide) (Nat.le_of_ble_eq_true rfl) hl.1 ⟨Nat.zero_le _, Nat.zero_le _⟩ (dk DX11_countsFrom 10 rfl) ?_
  obtain ⟨uq4, mq2, hzq3, hF⟩ := bnd_ex hF
  refine r_callVv (As := [.int (0 : Int32), .int a1, .int (abI a2)]) (rest := []) C hR (C_M_layers l hl0 G (0 : Int32) a1 (abI a2) mq1 _ _ hzq3) (by decide) (by decide) ob78 rfl wX11_412 rfl rfl (Nat.le_of_ble_eq_true rfl) hl.1 ⟨Nat.zero_le _, Nat.zero_le _⟩ (dk DX11_countsFrom 11 rfl) (fun H locs hR => ?_)
  refine lv_iload_n hx hb (dk DX11_countsFrom 12 rfl) rfl (lv_at hl 1 rfl) ?_
  refine lv_aload_n hx hb (dk DX11_countsFrom 13 rfl) rfl (lv_at hl 0 rfl) ?_
  obtain ⟨xq7, mq5, hzq6, hF⟩ := bnd_ex hF
  refine r_callVi (As := []) (rest := [.int a1]) C hR (C_M_size l hl0 G mq2 _ _ hzq6) (by decide) (by decide) ob78 rfl wX11_63 rfl rfl (Nat.le_of_ble_eq_true rfl) hl.1 ⟨Nat.zero_le _, Nat.zero_le _⟩ (dk DX11_countsFrom 14 rfl) (fun H locs hR => ?_)
  refine lv_icmp_ge (tgt := 33) hx hb (dk DX11_countsFrom 15 rfl) (by decide) (fun c25 => ?_) (fun c25 => ?_)
  · have hF := if_t c25 hF
    cases hF
    exact r_vret C hrt hR (dk DX11_countsFrom 19 rfl)
  · have hF := if_f c25 hF
    refine lv_aload_n hx hb (dk DX11_countsFrom 16 rfl) rfl (lv_at hl 0 rfl) ?_
    refine lv_iload_n hx hb (dk DX11_countsFrom 17 rfl) rfl (lv_at hl 1 rfl) ?_
    obtain ⟨uq10, mq8, hzq9, hF⟩ := bnd_ex hF
    refine r_callVv (As := [.int a1]) (rest := []) C hR (C_M_laysLevels l hl0 G a1 mq5 _ _ hzq9) (by decide) (by decide) ob78 rfl wX11_399 rfl rfl (Nat.le_of_ble_eq_true rfl) hl.1 ⟨Nat.zero_le _, Nat.zero_le _⟩ (dk DX11_countsFrom 18 rfl) (fun H locs hR => ?_)
    cases hF
    exact r_vret C hrt hR (dk DX11_countsFrom 19 rfl)
set_option maxHeartbeats 4000000 in
set_option maxRecDepth 100000 in
theorem C_M_chased (l : Launch) (hl0 : l.stackTraces = false) (G : GG) (a1 : Int32) (m0 : Mem) (v : Int32) (m' : Mem) (hF : F_M_chased a1 m0 = some (v, m')) : Ct l G mr0 N0 yX11_chased cX11_chased 3 (some .int) 11 [.ref (G.2.1 + 78), .int a1] m0 (some (.int v)) m' := by
  refine Ct_of hl0 (by decide) (Nat.le_of_ble_eq_true rfl) ?_
  intro p e s mid args below meth c ls C hrt hl hR
  have hx := C.1.1
  have hb := C.1.2.1
  have hl : lv_has ls 3 [(0, .ref (G.2.1 + 78)), (1, .int a1)] := hl
  unfold F_M_chased at hF
  refine lv_aload_n hx hb (dk DX11_chased 0 rfl) rfl (lv_at hl 0 rfl) ?_
  refine lv_iconst (v := (0 : Int32)) hx hb (dk DX11_chased 1 rfl) (by decide) ?_
  refine pX11_3 (x := (0 : Int32)) C hR ob78 (dk DX11_chased 2 rfl) (fun H locs hR => ?_)
  obtain ⟨mq1, emq1, hF⟩ := lt_ex hF
  have hR := Rp_at emq1 hR
  refine lv_aload_n hx hb (dk DX11_chased 3 rfl) rfl (lv_at hl 0 rfl) ?_
  refine lv_aload_n hx hb (dk DX11_chased 4 rfl) rfl (lv_at hl 0 rfl) ?_
  refine lv_iload_n hx hb (dk DX11_chased 5 rfl) rfl (lv_at hl 1 rfl) ?_
  obtain ⟨zq4, mq2, hzq3, hF⟩ := bnd_ex hF
  refine r_callVi (As := [.int a1]) (rest := [.ref (G.2.1 + 78)]) C hR (C_M_noPlayed l hl0 G a1 mq1 _ _ hzq3) (by decide) (by decide) ob78 rfl wX11_452 rfl rfl (Nat.le_of_ble_eq_true rfl) hl.1 ⟨Nat.zero_le _, Nat.zero_le _⟩ (dk DX11_chased 6 rfl) (fun H locs hR => ?_)
  refine lv_iconst (v := (1 : Int32)) hx hb (dk DX11_chased 7 rfl) (by decide) ?_
  obtain ⟨zq7, mq5, hzq6, hF⟩ := bnd_ex hF
  refine r_callVi (As := [.int (b2i zq4), .int (1 : Int32)]) (rest := []) C hR (C_M_throwsIf l hl0 G zq4 (1 : Int32) mq2 _ _ hzq6) (by decide) (by decide) ob78 rfl wX11_227 rfl rfl (Nat.le_of_ble_eq_true rfl) hl.1 ⟨Nat.zero_le _, Nat.zero_le _⟩ (dk DX11_chased 8 rfl) (fun H locs hR => ?_)
  refine z_ifeq (tgt := 20) hx hb (dk DX11_chased 9 rfl) (by decide) (fun c15 => ?_) (fun c15 => ?_)
  · have hF := if_f c15 hF
    refine lv_iload_n hx hb (dk DX11_chased 12 rfl) rfl (lv_at hl 1 rfl) ?_
    refine lv_aload_n hx hb (dk DX11_chased 13 rfl) rfl (lv_at hl 0 rfl) ?_
    obtain ⟨xq10, mq8, hzq9, hF⟩ := bnd_ex hF
    refine r_callVi (As := []) (rest := [.int a1]) C hR (C_M_size l hl0 G mq5 _ _ hzq9) (by decide) (by decide) ob78 rfl wX11_63 rfl rfl (Nat.le_of_ble_eq_true rfl) hl.1 ⟨Nat.zero_le _, Nat.zero_le _⟩ (dk DX11_chased 14 rfl) (fun H locs hR => ?_)
    refine lv_icmp_ne (tgt := 31) hx hb (dk DX11_chased 15 rfl) (by decide) (fun c25 => ?_) (fun c25 => ?_)
    · have hF := if_f c25 hF
      refine lv_aload_n hx hb (dk DX11_chased 18 rfl) rfl (lv_at hl 0 rfl) ?_
      refine lv_iload_n hx hb (dk DX11_chased 19 rfl) rfl (lv_at hl 1 rfl) ?_
      refine lv_bipush (v := (81 : Int32)) hx hb (dk DX11_chased 20 rfl) (by decide) ?_
      obtain ⟨uq13, mq11, hzq12, hF⟩ := bnd_ex hF
      refine r_callVv (As := [.int a1, .int (81 : Int32)]) (rest := []) C hR (C_M_countsFrom l hl0 G a1 (81 : Int32) mq8 _ _ hzq12) (by decide) (by decide) ob78 rfl wX11_458 rfl rfl (Nat.le_of_ble_eq_true rfl) hl.1 ⟨Nat.zero_le _, Nat.zero_le _⟩ (dk DX11_chased 21 rfl) (fun H locs hR => ?_)
      refine lv_bipush (v := (81 : Int32)) hx hb (dk DX11_chased 22 rfl) (by decide) ?_
      refine lv_istore_n (lv' := [(2, .int (81 : Int32)), (0, .ref (G.2.1 + 78)), (1, .int a1)]) hx hb (dk DX11_chased 23 rfl) rfl hl (by decide) rfl (fun ls hl => ?_)
      have L41 : ∀ (nf : Nat) (xq15 : Int32) (mq14 : Mem) (H : Heap) (locs : List Loc) (ls : Array Slot), lv_has ls 3 [(0, .ref (G.2.1 + 78)), (1, .int a1), (2, .int xq15)] → Rp G mr0 N0 mq14 s H locs → F_M_chased_L41 a1 nf xq15 mq14 = some (v, m') → W p l e (rmD 11) s mid args below meth c H locs 0 0 (MQ below (QR G mr0 N0 (some (.int v)) m') args s 0 0 (fun q => G.2.1 ≤ q)) (F0 mid 41 ls []) := by
        intro nf
        induction nf with
        | zero =>
          intro xq15 mq14 H locs ls hl hR hF
          rw [F_M_chased_L41] at hF
          cases hF
        | succ nf ihq17 =>
          intro xq15 mq14 H locs ls hl hR hF
          rw [F_M_chased_L41] at hF
          refine lv_iload_n hx hb (dk DX11_chased 24 rfl) rfl (lv_at hl 2 rfl) ?_
          refine lv_if_lt (tgt := 73) hx hb (dk DX11_chased 25 rfl) (by decide) (fun c42 => ?_) (fun c42 => ?_)
          · have hF := if_t c42 hF
            refine lv_iconst (v := (-1 : Int32)) hx hb (dk DX11_chased 42 rfl) (by decide) ?_
            cases hF
            exact r_iret C hrt hR (dk DX11_chased 43 rfl)
          · have hF := if_f c42 hF
            refine lv_aload_n hx hb (dk DX11_chased 26 rfl) rfl (lv_at hl 0 rfl) ?_
            refine lv_iload_n hx hb (dk DX11_chased 27 rfl) rfl (lv_at hl 1 rfl) ?_
            refine lv_iconst (v := (4 : Int32)) hx hb (dk DX11_chased 28 rfl) (by decide) ?_
            refine lv_iconst (v := (0 : Int32)) hx hb (dk DX11_chased 29 rfl) (by decide) ?_
            refine lv_iload_n hx hb (dk DX11_chased 30 rfl) rfl (lv_at hl 2 rfl) ?_
            refine lv_ineg hx hb (dk DX11_chased 31 rfl) ?_
            obtain ⟨uq20, mq18, hzq19, hF⟩ := bnd_ex hF
            refine r_callVv (As := [.int a1, .int (4 : Int32), .int (0 : Int32), .int (-xq15)]) (rest := []) C hR (C_M_takes l hl0 G a1 (4 : Int32) (0 : Int32) (-xq15) mq14 _ _ hzq19) (by decide) (by decide) ob78 rfl wX11_421 rfl rfl (Nat.le_of_ble_eq_true rfl) hl.1 ⟨Nat.zero_le _, Nat.zero_le _⟩ (dk DX11_chased 32 rfl) (fun H locs hR => ?_)
            refine lv_aload_n hx hb (dk DX11_chased 33 rfl) rfl (lv_at hl 0 rfl) ?_
            refine gX11_340 C hR ob78 (dk DX11_chased 34 rfl) ?_
            refine lv_aload_n hx hb (dk DX11_chased 35 rfl) rfl (lv_at hl 0 rfl) ?_
            refine gX11_343 C hR ob78 (dk DX11_chased 36 rfl) ?_
            refine lv_icmp_lt (tgt := 67) hx hb (dk DX11_chased 37 rfl) (by decide) (fun c62 => ?_) (fun c62 => ?_)
            · have hF := if_t c62 hF
              obtain ⟨xq21, exq21, hF⟩ := lt_ex hF
              refine lv_iinc (v := xq21) (lv' := [(2, .int xq21), (0, .ref (G.2.1 + 78)), (1, .int a1)]) hx hb (dk DX11_chased 40 rfl) hl (k := 2) rfl (by rw [exq21]; rfl) (by decide) rfl (fun ls hl => ?_)
              refine lv_goto (tgt := 41) hx hb (dk DX11_chased 41 rfl) (by decide) ?_
              exact ihq17 xq21 mq18 _ _ ls (lv_sub hl [1, 2, 0] rfl) hR hF
            · have hF := if_f c62 hF
              refine lv_iload_n hx hb (dk DX11_chased 38 rfl) rfl (lv_at hl 2 rfl) ?_
              cases hF
              exact r_iret C hrt hR (dk DX11_chased 39 rfl)
      exact L41 1000000 (81 : Int32) mq11 _ _ ls (lv_sub hl [1, 2, 0] rfl) hR hF
    · have hF := if_t c25 hF
      refine lv_bipush (v := (81 : Int32)) hx hb (dk DX11_chased 16 rfl) (by decide) ?_
      cases hF
      exact r_iret C hrt hR (dk DX11_chased 17 rfl)
  · have hF := if_t c15 hF
    refine lv_iconst (v := (0 : Int32)) hx hb (dk DX11_chased 10 rfl) (by decide) ?_
    cases hF
    exact r_iret C hrt hR (dk DX11_chased 11 rfl)
set_option maxHeartbeats 4000000 in
set_option maxRecDepth 100000 in
theorem C_M_canHold (l : Launch) (hl0 : l.stackTraces = false) (G : GG) (m0 : Mem) (v : Bool) (m' : Mem) (hF : F_M_canHold m0 = some (v, m')) : Ct l G mr0 N0 yX11_canHold cX11_canHold 1 (some .boolean) 3 [.ref (G.2.1 + 78)] m0 (some (.int (b2i v))) m' := by
  refine Ct_of hl0 (by decide) (Nat.le_of_ble_eq_true rfl) ?_
  intro p e s mid args below meth c ls C hrt hl hR
  have hx := C.1.1
  have hb := C.1.2.1
  have hl : lv_has ls 1 [(0, .ref (G.2.1 + 78))] := hl
  unfold F_M_canHold at hF
  refine lv_aload_n hx hb (dk DX11_canHold 0 rfl) rfl (lv_at hl 0 rfl) ?_
  obtain ⟨zq3, mq1, hzq2, hF⟩ := bnd_ex hF
  refine r_callVi (As := []) (rest := []) C hR (C_M_isOn l hl0 G m0 _ _ hzq2) (by decide) (by decide) ob78 rfl wX11_278 rfl rfl (Nat.le_of_ble_eq_true rfl) hl.1 ⟨Nat.zero_le _, Nat.zero_le _⟩ (dk DX11_canHold 1 rfl) (fun H locs hR => ?_)
  refine z_ifeq (tgt := 22) hx hb (dk DX11_canHold 2 rfl) (by decide) (fun c4 => ?_) (fun c4 => ?_)
  · have hF := if_f c4 hF
    refine lv_iconst (v := (0 : Int32)) hx hb (dk DX11_canHold 11 rfl) (by decide) ?_
    cases hF
    exact r_zret C hrt hR (dk DX11_canHold 12 rfl)
  · have hF := if_t c4 hF
    refine lv_aload_n hx hb (dk DX11_canHold 3 rfl) rfl (lv_at hl 0 rfl) ?_
    refine gX11_13 C hR ob78 rf78_1 (dk DX11_canHold 4 rfl) ?_
    refine lv_bipush (v := (11 : Int32)) hx hb (dk DX11_canHold 5 rfl) (by decide) ?_
    refine r_iald C hR ob79 rfl (dk DX11_canHold 6 rfl) ?_
    refine lv_iconst (v := (3 : Int32)) hx hb (dk DX11_canHold 7 rfl) (by decide) ?_
    refine lv_icmp_ne (tgt := 22) hx hb (dk DX11_canHold 8 rfl) (by decide) (fun c15 => ?_) (fun c15 => ?_)
    · have hF := if_f c15 hF
      refine lv_iconst (v := (0 : Int32)) hx hb (dk DX11_canHold 11 rfl) (by decide) ?_
      cases hF
      exact r_zret C hrt hR (dk DX11_canHold 12 rfl)
    · have hF := if_t c15 hF
      refine lv_iconst (v := (1 : Int32)) hx hb (dk DX11_canHold 9 rfl) (by decide) ?_
      refine lv_goto (tgt := 23) hx hb (dk DX11_canHold 10 rfl) (by decide) ?_
      cases hF
      exact r_zret C hrt hR (dk DX11_canHold 12 rfl)
set_option maxHeartbeats 4000000 in
set_option maxRecDepth 100000 in
theorem C_M_canFollow (l : Launch) (hl0 : l.stackTraces = false) (G : GG) (m0 : Mem) (v : Bool) (m' : Mem) (hF : F_M_canFollow m0 = some (v, m')) : Ct l G mr0 N0 yX11_canFollow cX11_canFollow 1 (some .boolean) 3 [.ref (G.2.1 + 78)] m0 (some (.int (b2i v))) m' := by
  refine Ct_of hl0 (by decide) (Nat.le_of_ble_eq_true rfl) ?_
  intro p e s mid args below meth c ls C hrt hl hR
  have hx := C.1.1
  have hb := C.1.2.1
  have hl : lv_has ls 1 [(0, .ref (G.2.1 + 78))] := hl
  unfold F_M_canFollow at hF
  refine lv_aload_n hx hb (dk DX11_canFollow 0 rfl) rfl (lv_at hl 0 rfl) ?_
  obtain ⟨zq3, mq1, hzq2, hF⟩ := bnd_ex hF
  refine r_callVi (As := []) (rest := []) C hR (C_M_isOn l hl0 G m0 _ _ hzq2) (by decide) (by decide) ob78 rfl wX11_278 rfl rfl (Nat.le_of_ble_eq_true rfl) hl.1 ⟨Nat.zero_le _, Nat.zero_le _⟩ (dk DX11_canFollow 1 rfl) (fun H locs hR => ?_)
  refine z_ifeq (tgt := 57) hx hb (dk DX11_canFollow 2 rfl) (by decide) (fun c4 => ?_) (fun c4 => ?_)
  · have hF := if_f c4 hF
    refine lv_iconst (v := (0 : Int32)) hx hb (dk DX11_canFollow 29 rfl) (by decide) ?_
    cases hF
    exact r_zret C hrt hR (dk DX11_canFollow 30 rfl)
  · have hF := if_t c4 hF
    refine lv_aload_n hx hb (dk DX11_canFollow 3 rfl) rfl (lv_at hl 0 rfl) ?_
    refine gX11_13 C hR ob78 rf78_1 (dk DX11_canFollow 4 rfl) ?_
    refine lv_bipush (v := (11 : Int32)) hx hb (dk DX11_canFollow 5 rfl) (by decide) ?_
    refine r_iald C hR ob79 rfl (dk DX11_canFollow 6 rfl) ?_
    refine lv_iconst (v := (2 : Int32)) hx hb (dk DX11_canFollow 7 rfl) (by decide) ?_
    refine lv_icmp_ne (tgt := 57) hx hb (dk DX11_canFollow 8 rfl) (by decide) (fun c15 => ?_) (fun c15 => ?_)
    · have hF := if_f c15 hF
      refine lv_iconst (v := (0 : Int32)) hx hb (dk DX11_canFollow 29 rfl) (by decide) ?_
      cases hF
      exact r_zret C hrt hR (dk DX11_canFollow 30 rfl)
    · have hF := if_t c15 hF
      refine lv_aload_n hx hb (dk DX11_canFollow 9 rfl) rfl (lv_at hl 0 rfl) ?_
      refine gX11_13 C hR ob78 rf78_1 (dk DX11_canFollow 10 rfl) ?_
      refine lv_bipush (v := (14 : Int32)) hx hb (dk DX11_canFollow 11 rfl) (by decide) ?_
      refine r_iald C hR ob79 rfl (dk DX11_canFollow 12 rfl) ?_
      refine lv_iconst (v := (1 : Int32)) hx hb (dk DX11_canFollow 13 rfl) (by decide) ?_
      refine lv_icmp_ne (tgt := 57) hx hb (dk DX11_canFollow 14 rfl) (by decide) (fun c26 => ?_) (fun c26 => ?_)
      · have hF := if_f c26 hF
        refine lv_iconst (v := (0 : Int32)) hx hb (dk DX11_canFollow 29 rfl) (by decide) ?_
        cases hF
        exact r_zret C hrt hR (dk DX11_canFollow 30 rfl)
      · have hF := if_t c26 hF
        refine lv_aload_n hx hb (dk DX11_canFollow 15 rfl) rfl (lv_at hl 0 rfl) ?_
        obtain ⟨zq6, mq4, hzq5, hF⟩ := bnd_ex hF
        refine r_callVi (As := []) (rest := []) C hR (C_M_isFollowed l hl0 G mq1 _ _ hzq5) (by decide) (by decide) ob78 rfl wX11_268 rfl rfl (Nat.le_of_ble_eq_true rfl) hl.1 ⟨Nat.zero_le _, Nat.zero_le _⟩ (dk DX11_canFollow 16 rfl) (fun H locs hR => ?_)
        refine z_ifne (tgt := 57) hx hb (dk DX11_canFollow 17 rfl) (by decide) (fun c33 => ?_) (fun c33 => ?_)
        · have hF := if_t c33 hF
          refine lv_iconst (v := (0 : Int32)) hx hb (dk DX11_canFollow 29 rfl) (by decide) ?_
          cases hF
          exact r_zret C hrt hR (dk DX11_canFollow 30 rfl)
        · have hF := if_f c33 hF
          refine lv_aload_n hx hb (dk DX11_canFollow 18 rfl) rfl (lv_at hl 0 rfl) ?_
          refine lv_aload_n hx hb (dk DX11_canFollow 19 rfl) rfl (lv_at hl 0 rfl) ?_
          obtain ⟨xq9, mq7, hzq8, hF⟩ := bnd_ex hF
          refine r_callVi (As := []) (rest := [.ref (G.2.1 + 78)]) C hR (C_M_firstSide l hl0 G mq4 _ _ hzq8) (by decide) (by decide) ob78 rfl wX11_265 rfl rfl (Nat.le_of_ble_eq_true rfl) hl.1 ⟨Nat.zero_le _, Nat.zero_le _⟩ (dk DX11_canFollow 20 rfl) (fun H locs hR => ?_)
          obtain ⟨xq12, mq10, hzq11, hF⟩ := bnd_ex hF
          refine r_callVi (As := [.int xq9]) (rest := []) C hR (C_M_leadOf l hl0 G xq9 mq7 _ _ hzq11) (by decide) (by decide) ob78 rfl wX11_281 rfl rfl (Nat.le_of_ble_eq_true rfl) hl.1 ⟨Nat.zero_le _, Nat.zero_le _⟩ (dk DX11_canFollow 21 rfl) (fun H locs hR => ?_)
          refine lv_aload_n hx hb (dk DX11_canFollow 22 rfl) rfl (lv_at hl 0 rfl) ?_
          refine gX11_13 C hR ob78 rf78_1 (dk DX11_canFollow 23 rfl) ?_
          refine lv_iconst (v := (1 : Int32)) hx hb (dk DX11_canFollow 24 rfl) (by decide) ?_
          refine r_iald C hR ob79 rfl (dk DX11_canFollow 25 rfl) ?_
          refine lv_icmp_lt (tgt := 57) hx hb (dk DX11_canFollow 26 rfl) (by decide) (fun c50 => ?_) (fun c50 => ?_)
          · have hF := if_t c50 hF
            refine lv_iconst (v := (0 : Int32)) hx hb (dk DX11_canFollow 29 rfl) (by decide) ?_
            cases hF
            exact r_zret C hrt hR (dk DX11_canFollow 30 rfl)
          · have hF := if_f c50 hF
            refine lv_iconst (v := (1 : Int32)) hx hb (dk DX11_canFollow 27 rfl) (by decide) ?_
            refine lv_goto (tgt := 58) hx hb (dk DX11_canFollow 28 rfl) (by decide) ?_
            cases hF
            exact r_zret C hrt hR (dk DX11_canFollow 30 rfl)
set_option maxHeartbeats 4000000 in
set_option maxRecDepth 100000 in
theorem C_M_canDeclare (l : Launch) (hl0 : l.stackTraces = false) (G : GG) (m0 : Mem) (v : Bool) (m' : Mem) (hF : F_M_canDeclare m0 = some (v, m')) : Ct l G mr0 N0 yX11_canDeclare cX11_canDeclare 1 (some .boolean) 3 [.ref (G.2.1 + 78)] m0 (some (.int (b2i v))) m' := by
  refine Ct_of hl0 (by decide) (Nat.le_of_ble_eq_true rfl) ?_
  intro p e s mid args below meth c ls C hrt hl hR
  have hx := C.1.1
  have hb := C.1.2.1
  have hl : lv_has ls 1 [(0, .ref (G.2.1 + 78))] := hl
  unfold F_M_canDeclare at hF
  refine lv_aload_n hx hb (dk DX11_canDeclare 0 rfl) rfl (lv_at hl 0 rfl) ?_
  obtain ⟨zq3, mq1, hzq2, hF⟩ := bnd_ex hF
  refine r_callVi (As := []) (rest := []) C hR (C_M_isOn l hl0 G m0 _ _ hzq2) (by decide) (by decide) ob78 rfl wX11_278 rfl rfl (Nat.le_of_ble_eq_true rfl) hl.1 ⟨Nat.zero_le _, Nat.zero_le _⟩ (dk DX11_canDeclare 1 rfl) (fun H locs hR => ?_)
  refine z_ifeq (tgt := 32) hx hb (dk DX11_canDeclare 2 rfl) (by decide) (fun c4 => ?_) (fun c4 => ?_)
  · have hF := if_f c4 hF
    refine lv_iconst (v := (0 : Int32)) hx hb (dk DX11_canDeclare 16 rfl) (by decide) ?_
    cases hF
    exact r_zret C hrt hR (dk DX11_canDeclare 17 rfl)
  · have hF := if_t c4 hF
    refine lv_aload_n hx hb (dk DX11_canDeclare 3 rfl) rfl (lv_at hl 0 rfl) ?_
    refine gX11_13 C hR ob78 rf78_1 (dk DX11_canDeclare 4 rfl) ?_
    refine lv_bipush (v := (11 : Int32)) hx hb (dk DX11_canDeclare 5 rfl) (by decide) ?_
    refine r_iald C hR ob79 rfl (dk DX11_canDeclare 6 rfl) ?_
    refine lv_iconst (v := (3 : Int32)) hx hb (dk DX11_canDeclare 7 rfl) (by decide) ?_
    refine lv_icmp_ge (tgt := 32) hx hb (dk DX11_canDeclare 8 rfl) (by decide) (fun c15 => ?_) (fun c15 => ?_)
    · have hF := if_t c15 hF
      refine lv_iconst (v := (0 : Int32)) hx hb (dk DX11_canDeclare 16 rfl) (by decide) ?_
      cases hF
      exact r_zret C hrt hR (dk DX11_canDeclare 17 rfl)
    · have hF := if_f c15 hF
      refine lv_aload_n hx hb (dk DX11_canDeclare 9 rfl) rfl (lv_at hl 0 rfl) ?_
      refine gX11_13 C hR ob78 rf78_1 (dk DX11_canDeclare 10 rfl) ?_
      refine lv_bipush (v := (14 : Int32)) hx hb (dk DX11_canDeclare 11 rfl) (by decide) ?_
      refine r_iald C hR ob79 rfl (dk DX11_canDeclare 12 rfl) ?_
      refine lv_if_ne (tgt := 32) hx hb (dk DX11_canDeclare 13 rfl) (by decide) (fun c25 => ?_) (fun c25 => ?_)
      · have hF := if_f c25 hF
        refine lv_iconst (v := (0 : Int32)) hx hb (dk DX11_canDeclare 16 rfl) (by decide) ?_
        cases hF
        exact r_zret C hrt hR (dk DX11_canDeclare 17 rfl)
      · have hF := if_t c25 hF
        refine lv_iconst (v := (1 : Int32)) hx hb (dk DX11_canDeclare 14 rfl) (by decide) ?_
        refine lv_goto (tgt := 33) hx hb (dk DX11_canDeclare 15 rfl) (by decide) ?_
        cases hF
        exact r_zret C hrt hR (dk DX11_canDeclare 17 rfl)
set_option maxHeartbeats 4000000 in
set_option maxRecDepth 100000 in
theorem C_M_canBe (l : Launch) (hl0 : l.stackTraces = false) (G : GG) (a1 : Int32) (m0 : Mem) (v : Bool) (m' : Mem) (hF : F_M_canBe a1 m0 = some (v, m')) : Ct l G mr0 N0 yX11_canBe cX11_canBe 2 (some .boolean) 4 [.ref (G.2.1 + 78), .int a1] m0 (some (.int (b2i v))) m' := by
  refine Ct_of hl0 (by decide) (Nat.le_of_ble_eq_true rfl) ?_
  intro p e s mid args below meth c ls C hrt hl hR
  have hx := C.1.1
  have hb := C.1.2.1
  have hl : lv_has ls 2 [(0, .ref (G.2.1 + 78)), (1, .int a1)] := hl
  unfold F_M_canBe at hF
  refine lv_iload_n hx hb (dk DX11_canBe 0 rfl) rfl (lv_at hl 1 rfl) ?_
  refine lv_if_ne (tgt := 11) hx hb (dk DX11_canBe 1 rfl) (by decide) (fun c1 => ?_) (fun c1 => ?_)
  · have hF := if_f c1 hF
    refine lv_iload_n hx hb (dk DX11_canBe 5 rfl) rfl (lv_at hl 1 rfl) ?_
    refine lv_iconst (v := (1 : Int32)) hx hb (dk DX11_canBe 6 rfl) (by decide) ?_
    refine lv_icmp_ne (tgt := 23) hx hb (dk DX11_canBe 7 rfl) (by decide) (fun c13 => ?_) (fun c13 => ?_)
    · have hF := if_f c13 hF
      refine lv_iload_n hx hb (dk DX11_canBe 11 rfl) rfl (lv_at hl 1 rfl) ?_
      refine lv_iconst (v := (2 : Int32)) hx hb (dk DX11_canBe 12 rfl) (by decide) ?_
      refine lv_icmp_ne (tgt := 35) hx hb (dk DX11_canBe 13 rfl) (by decide) (fun c25 => ?_) (fun c25 => ?_)
      · have hF := if_f c25 hF
        refine lv_aload_n hx hb (dk DX11_canBe 17 rfl) rfl (lv_at hl 0 rfl) ?_
        obtain ⟨zq3, mq1, hzq2, hF⟩ := bnd_ex hF
        refine r_callVi (As := []) (rest := []) C hR (C_M_canHold l hl0 G m0 _ _ hzq2) (by decide) (by decide) ob78 rfl wX11_317 rfl rfl (Nat.le_of_ble_eq_true rfl) hl.1 ⟨Nat.zero_le _, Nat.zero_le _⟩ (dk DX11_canBe 18 rfl) (fun H locs hR => ?_)
        cases hF
        exact r_zret C hrt hR (dk DX11_canBe 19 rfl)
      · have hF := if_t c25 hF
        refine lv_aload_n hx hb (dk DX11_canBe 14 rfl) rfl (lv_at hl 0 rfl) ?_
        obtain ⟨zq6, mq4, hzq5, hF⟩ := bnd_ex hF
        refine r_callVi (As := []) (rest := []) C hR (C_M_canFollow l hl0 G m0 _ _ hzq5) (by decide) (by decide) ob78 rfl wX11_291 rfl rfl (Nat.le_of_ble_eq_true rfl) hl.1 ⟨Nat.zero_le _, Nat.zero_le _⟩ (dk DX11_canBe 15 rfl) (fun H locs hR => ?_)
        refine lv_goto (tgt := 39) hx hb (dk DX11_canBe 16 rfl) (by decide) ?_
        cases hF
        exact r_zret C hrt hR (dk DX11_canBe 19 rfl)
    · have hF := if_t c13 hF
      refine lv_aload_n hx hb (dk DX11_canBe 8 rfl) rfl (lv_at hl 0 rfl) ?_
      obtain ⟨zq9, mq7, hzq8, hF⟩ := bnd_ex hF
      refine r_callVi (As := []) (rest := []) C hR (C_M_canDeclare l hl0 G m0 _ _ hzq8) (by decide) (by decide) ob78 rfl wX11_320 rfl rfl (Nat.le_of_ble_eq_true rfl) hl.1 ⟨Nat.zero_le _, Nat.zero_le _⟩ (dk DX11_canBe 9 rfl) (fun H locs hR => ?_)
      refine lv_goto (tgt := 39) hx hb (dk DX11_canBe 10 rfl) (by decide) ?_
      cases hF
      exact r_zret C hrt hR (dk DX11_canBe 19 rfl)
  · have hF := if_t c1 hF
    refine lv_aload_n hx hb (dk DX11_canBe 2 rfl) rfl (lv_at hl 0 rfl) ?_
    obtain ⟨zq12, mq10, hzq11, hF⟩ := bnd_ex hF
    refine r_callVi (As := []) (rest := []) C hR (C_M_isOn l hl0 G m0 _ _ hzq11) (by decide) (by decide) ob78 rfl wX11_278 rfl rfl (Nat.le_of_ble_eq_true rfl) hl.1 ⟨Nat.zero_le _, Nat.zero_le _⟩ (dk DX11_canBe 3 rfl) (fun H locs hR => ?_)
    refine lv_goto (tgt := 39) hx hb (dk DX11_canBe 4 rfl) (by decide) ?_
    cases hF
    exact r_zret C hrt hR (dk DX11_canBe 19 rfl)
set_option maxHeartbeats 4000000 in
set_option maxRecDepth 100000 in
theorem C_M_worthBy (l : Launch) (hl0 : l.stackTraces = false) (G : GG) (a1 : Int32) (m0 : Mem) (v : Int64) (m' : Mem) (hF : F_M_worthBy a1 m0 = some (v, m')) : Ct l G mr0 N0 yX11_worthBy cX11_worthBy 4 (some .long) 6 [.ref (G.2.1 + 78), .int a1] m0 (some (.long v)) m' := by
  refine Ct_of hl0 (by decide) (Nat.le_of_ble_eq_true rfl) ?_
  intro p e s mid args below meth c ls C hrt hl hR
  have hx := C.1.1
  have hb := C.1.2.1
  have hl : lv_has ls 4 [(0, .ref (G.2.1 + 78)), (1, .int a1)] := hl
  unfold F_M_worthBy at hF
  refine lv_aload_n hx hb (dk DX11_worthBy 0 rfl) rfl (lv_at hl 0 rfl) ?_
  obtain ⟨xq3, mq1, hzq2, hF⟩ := bnd_ex hF
  refine r_callVi (As := []) (rest := []) C hR (C_M_played l hl0 G m0 _ _ hzq2) (by decide) (by decide) ob78 rfl wX11_288 rfl rfl (Nat.le_of_ble_eq_true rfl) hl.1 ⟨Nat.zero_le _, Nat.zero_le _⟩ (dk DX11_worthBy 1 rfl) (fun H locs hR => ?_)
  refine lv_istore_n (lv' := [(2, .int xq3), (0, .ref (G.2.1 + 78)), (1, .int a1)]) hx hb (dk DX11_worthBy 2 rfl) rfl hl (by decide) rfl (fun ls hl => ?_)
  refine lv_aload_n hx hb (dk DX11_worthBy 3 rfl) rfl (lv_at hl 1 rfl) ?_
  refine lv_aload_n hx hb (dk DX11_worthBy 4 rfl) rfl (lv_at hl 1 rfl) ?_
  obtain ⟨xq6, mq4, hzq5, hF⟩ := bnd_ex hF
  refine r_callVi (As := []) (rest := [.ref (G.2.1 + 78)]) C hR (C_M_batter l hl0 G mq1 _ _ hzq5) (by decide) (by decide) ob78 rfl wX11_285 rfl rfl (Nat.le_of_ble_eq_true rfl) hl.1 ⟨Nat.zero_le _, Nat.zero_le _⟩ (dk DX11_worthBy 5 rfl) (fun H locs hR => ?_)
  obtain ⟨xq9, mq7, hzq8, hF⟩ := bnd_ex hF
  refine r_callVi (As := [.int xq6]) (rest := []) C hR (C_M_leadOf l hl0 G xq6 mq4 _ _ hzq8) (by decide) (by decide) ob78 rfl wX11_281 rfl rfl (Nat.le_of_ble_eq_true rfl) hl.1 ⟨Nat.zero_le _, Nat.zero_le _⟩ (dk DX11_worthBy 6 rfl) (fun H locs hR => ?_)
  refine lv_istore_n (lv' := [(3, .int xq9), (2, .int xq3), (0, .ref (G.2.1 + 78)), (1, .int a1)]) hx hb (dk DX11_worthBy 7 rfl) rfl hl (by decide) rfl (fun ls hl => ?_)
  refine lv_iload_n hx hb (dk DX11_worthBy 8 rfl) rfl (lv_at hl 3 rfl) ?_
  obtain ⟨k72_10, ek72_10, hF⟩ := lt_ex hF
  have J72 : ∀ (mq10 : Mem) (H : Heap) (locs : List Loc) (ls : Array Slot), lv_has ls 4 [(0, .ref (G.2.1 + 78)), (2, .int xq3)] → Rp G mr0 N0 mq10 s H locs → k72_10  mq10 = some (v, m') → W p l e (rmD 6) s mid args below meth c H locs 0 0 (MQ below (QR G mr0 N0 (some (.long v)) m') args s 0 0 (fun q => G.2.1 ≤ q)) (F0 mid 72 ls []) := by
    intro  mq10 H locs ls hl hR hF
    rw [ek72_10] at hF
    refine lv_aload_n hx hb (dk DX11_worthBy 40 rfl) rfl (lv_at hl 0 rfl) ?_
    refine lv_iload_n hx hb (dk DX11_worthBy 41 rfl) rfl (lv_at hl 1 rfl) ?_
    obtain ⟨yq13, mq11, hzq12, hF⟩ := bnd_ex hF
    refine r_callVl (As := [.int xq3]) (rest := []) C hR (C_M_got l hl0 G xq3 mq10 _ _ hzq12) (by decide) (by decide) ob78 rfl wX11_382 rfl rfl (Nat.le_of_ble_eq_true rfl) hl.1 ⟨Nat.zero_le _, Nat.zero_le _⟩ (dk DX11_worthBy 42 rfl) (fun H locs hR => ?_)
    cases hF
    exact r_lret C hrt hR (dk DX11_worthBy 43 rfl)
  obtain ⟨k23_14, ek23_14, hF⟩ := lt_ex hF
  have J23 : ∀ (mq14 : Mem) (H : Heap) (locs : List Loc) (ls : Array Slot), lv_has ls 4 [(0, .ref (G.2.1 + 78)), (1, .int a1), (2, .int xq3), (3, .int xq9)] → Rp G mr0 N0 mq14 s H locs → k23_14  mq14 = some (v, m') → W p l e (rmD 6) s mid args below meth c H locs 0 0 (MQ below (QR G mr0 N0 (some (.long v)) m') args s 0 0 (fun q => G.2.1 ≤ q)) (F0 mid 23 ls []) := by
    intro  mq14 H locs ls hl hR hF
    rw [ek23_14] at hF
    refine lv_aload_n hx hb (dk DX11_worthBy 13 rfl) rfl (lv_at hl 0 rfl) ?_
    refine lv_iload_n hx hb (dk DX11_worthBy 14 rfl) rfl (lv_at hl 2 rfl) ?_
    refine lv_aload_n hx hb (dk DX11_worthBy 15 rfl) rfl (lv_at hl 0 rfl) ?_
    obtain ⟨xq17, mq15, hzq16, hF⟩ := bnd_ex hF
    refine r_callVi (As := []) (rest := [.int xq3, .ref (G.2.1 + 78)]) C hR (C_M_kindNow l hl0 G mq14 _ _ hzq16) (by decide) (by decide) ob78 rfl wX11_415 rfl rfl (Nat.le_of_ble_eq_true rfl) hl.1 ⟨Nat.zero_le _, Nat.zero_le _⟩ (dk DX11_worthBy 16 rfl) (fun H locs hR => ?_)
    refine lv_aload_n hx hb (dk DX11_worthBy 17 rfl) rfl (lv_at hl 0 rfl) ?_
    obtain ⟨xq20, mq18, hzq19, hF⟩ := bnd_ex hF
    refine r_callVi (As := []) (rest := [.int xq17, .int xq3, .ref (G.2.1 + 78)]) C hR (C_M_outNow l hl0 G mq15 _ _ hzq19) (by decide) (by decide) ob78 rfl wX11_418 rfl rfl (Nat.le_of_ble_eq_true rfl) hl.1 ⟨Nat.zero_le _, Nat.zero_le _⟩ (dk DX11_worthBy 18 rfl) (fun H locs hR => ?_)
    refine lv_iload_n hx hb (dk DX11_worthBy 19 rfl) rfl (lv_at hl 3 rfl) ?_
    refine lv_iload_n hx hb (dk DX11_worthBy 20 rfl) rfl (lv_at hl 1 rfl) ?_
    refine lv_iconst (v := (3 : Int32)) hx hb (dk DX11_worthBy 21 rfl) (by decide) ?_
    obtain ⟨k44_22, ek44_22, hF⟩ := lt_ex hF
    have J44 : ∀ (zq22 : Bool) (mq21 : Mem) (H : Heap) (locs : List Loc) (ls : Array Slot), lv_has ls 4 [(0, .ref (G.2.1 + 78)), (2, .int xq3)] → Rp G mr0 N0 mq21 s H locs → k44_22 zq22 mq21 = some (v, m') → W p l e (rmD 6) s mid args below meth c H locs 0 0 (MQ below (QR G mr0 N0 (some (.long v)) m') args s 0 0 (fun q => G.2.1 ≤ q)) (F0 mid 44 ls [.int (b2i zq22), .int xq9, .int xq20, .int xq17, .int xq3, .ref (G.2.1 + 78)]) := by
      intro zq22 mq21 H locs ls hl hR hF
      rw [ek44_22] at hF
      obtain ⟨uq25, mq23, hzq24, hF⟩ := bnd_ex hF
      refine r_callVv (As := [.int xq3, .int xq17, .int xq20, .int xq9, .int (b2i zq22)]) (rest := []) C hR (C_M_goesOn l hl0 G xq3 xq17 xq20 xq9 zq22 mq21 _ _ hzq24) (by decide) (by decide) ob78 rfl wX11_368 rfl rfl (Nat.le_of_ble_eq_true rfl) hl.1 ⟨Nat.zero_le _, Nat.zero_le _⟩ (dk DX11_worthBy 26 rfl) (fun H locs hR => ?_)
      refine lv_goto (tgt := 72) hx hb (dk DX11_worthBy 27 rfl) (by decide) ?_
      exact J72 mq23 _ _ ls (lv_sub hl [0, 1] rfl) hR hF
    refine lv_icmp_ne (tgt := 43) hx hb (dk DX11_worthBy 22 rfl) (by decide) (fun c36 => ?_) (fun c36 => ?_)
    · have hF := if_f c36 hF
      refine lv_iconst (v := (0 : Int32)) hx hb (dk DX11_worthBy 25 rfl) (by decide) ?_
      exact J44 false mq18 _ _ ls (lv_sub hl [0, 2] rfl) hR hF
    · have hF := if_t c36 hF
      refine lv_iconst (v := (1 : Int32)) hx hb (dk DX11_worthBy 23 rfl) (by decide) ?_
      refine lv_goto (tgt := 44) hx hb (dk DX11_worthBy 24 rfl) (by decide) ?_
      exact J44 true mq18 _ _ ls (lv_sub hl [0, 2] rfl) hR hF
  refine lv_if_eq (tgt := 23) hx hb (dk DX11_worthBy 9 rfl) (by decide) (fun c15 => ?_) (fun c15 => ?_)
  · have hF := if_t c15 hF
    exact J23 mq7 _ _ ls (lv_sub hl [2, 3, 1, 0] rfl) hR hF
  · have hF := if_f c15 hF
    refine lv_iload_n hx hb (dk DX11_worthBy 10 rfl) rfl (lv_at hl 3 rfl) ?_
    refine lv_iconst (v := (3 : Int32)) hx hb (dk DX11_worthBy 11 rfl) (by decide) ?_
    refine lv_icmp_ne (tgt := 50) hx hb (dk DX11_worthBy 12 rfl) (by decide) (fun c20 => ?_) (fun c20 => ?_)
    · have hF := if_f c20 hF
      refine lv_aload_n hx hb (dk DX11_worthBy 28 rfl) rfl (lv_at hl 2 rfl) ?_
      refine lv_iload_n hx hb (dk DX11_worthBy 29 rfl) rfl (lv_at hl 1 rfl) ?_
      refine lv_iload_n hx hb (dk DX11_worthBy 30 rfl) rfl (lv_at hl 3 rfl) ?_
      refine lv_iconst (v := (1 : Int32)) hx hb (dk DX11_worthBy 31 rfl) (by decide) ?_
      obtain ⟨k68_27, ek68_27, hF⟩ := lt_ex hF
      have J68 : ∀ (xq27 : Int32) (mq26 : Mem) (H : Heap) (locs : List Loc) (ls : Array Slot), lv_has ls 4 [(0, .ref (G.2.1 + 78)), (2, .int xq3), (3, .int xq9)] → Rp G mr0 N0 mq26 s H locs → k68_27 xq27 mq26 = some (v, m') → W p l e (rmD 6) s mid args below meth c H locs 0 0 (MQ below (QR G mr0 N0 (some (.long v)) m') args s 0 0 (fun q => G.2.1 ≤ q)) (F0 mid 68 ls [.int xq27, .int xq3, .ref (G.2.1 + 78)]) := by
        intro xq27 mq26 H locs ls hl hR hF
        rw [ek68_27] at hF
        refine lv_iload_n hx hb (dk DX11_worthBy 38 rfl) rfl (lv_at hl 2 rfl) ?_
        obtain ⟨uq30, mq28, hzq29, hF⟩ := bnd_ex hF
        refine r_callVv (As := [.int xq3, .int xq27, .int xq9]) (rest := []) C hR (C_M_handsOver l hl0 G xq3 xq27 xq9 mq26 _ _ hzq29) (by decide) (by decide) ob78 rfl wX11_375 rfl rfl (Nat.le_of_ble_eq_true rfl) hl.1 ⟨Nat.zero_le _, Nat.zero_le _⟩ (dk DX11_worthBy 39 rfl) (fun H locs hR => ?_)
        exact J72 mq28 _ _ ls (lv_sub hl [0, 1] rfl) hR hF
      refine lv_icmp_ne (tgt := 67) hx hb (dk DX11_worthBy 32 rfl) (by decide) (fun c54 => ?_) (fun c54 => ?_)
      · have hF := if_f c54 hF
        refine lv_iconst (v := (3 : Int32)) hx hb (dk DX11_worthBy 37 rfl) (by decide) ?_
        exact J68 (3 : Int32) mq7 _ _ ls (lv_sub hl [2, 1, 0] rfl) hR hF
      · have hF := if_t c54 hF
        refine lv_aload_n hx hb (dk DX11_worthBy 33 rfl) rfl (lv_at hl 2 rfl) ?_
        obtain ⟨xq33, mq31, hzq32, hF⟩ := bnd_ex hF
        refine r_callVi (As := []) (rest := [.int xq3, .ref (G.2.1 + 78)]) C hR (C_M_kindNow l hl0 G mq7 _ _ hzq32) (by decide) (by decide) ob78 rfl wX11_415 rfl rfl (Nat.le_of_ble_eq_true rfl) hl.1 ⟨Nat.zero_le _, Nat.zero_le _⟩ (dk DX11_worthBy 34 rfl) (fun H locs hR => ?_)
        obtain ⟨xq36, mq34, hzq35, hF⟩ := bnd_ex hF
        refine r_callSi (As := [.int xq33]) (rest := [.int xq3, .ref (G.2.1 + 78)]) C hR (C_M_nextKind l hl0 G xq33 mq31 _ _ hzq35) (by decide) (by decide) wX11_361 rfl rfl (Nat.le_of_ble_eq_true rfl) hl.1 ⟨Nat.zero_le _, Nat.zero_le _⟩ (dk DX11_worthBy 35 rfl) (fun H locs hR => ?_)
        refine lv_goto (tgt := 68) hx hb (dk DX11_worthBy 36 rfl) (by decide) ?_
        exact J68 xq36 mq34 _ _ ls (lv_sub hl [2, 1, 0] rfl) hR hF
    · have hF := if_t c20 hF
      exact J23 mq7 _ _ ls (lv_sub hl [2, 3, 1, 0] rfl) hR hF
set_option maxHeartbeats 4000000 in
set_option maxRecDepth 100000 in
theorem C_M_cost (l : Launch) (hl0 : l.stackTraces = false) (G : GG) (a1 : Int32) (m0 : Mem) (v : Int64) (m' : Mem) (hF : F_M_cost a1 m0 = some (v, m')) : Ct l G mr0 N0 yX11_cost cX11_cost 5 (some .long) 11 [.ref (G.2.1 + 78), .int a1] m0 (some (.long v)) m' := by
  refine Ct_of hl0 (by decide) (Nat.le_of_ble_eq_true rfl) ?_
  intro p e s mid args below meth c ls C hrt hl hR
  have hx := C.1.1
  have hb := C.1.2.1
  have hl : lv_has ls 5 [(0, .ref (G.2.1 + 78)), (1, .int a1)] := hl
  unfold F_M_cost at hF
  refine lv_aload_n hx hb (dk DX11_cost 0 rfl) rfl (lv_at hl 0 rfl) ?_
  refine lv_iconst (v := (0 : Int32)) hx hb (dk DX11_cost 1 rfl) (by decide) ?_
  refine pX11_3 (x := (0 : Int32)) C hR ob78 (dk DX11_cost 2 rfl) (fun H locs hR => ?_)
  obtain ⟨mq1, emq1, hF⟩ := lt_ex hF
  have hR := Rp_at emq1 hR
  refine lv_aload_n hx hb (dk DX11_cost 3 rfl) rfl (lv_at hl 0 rfl) ?_
  refine lv_iload_n hx hb (dk DX11_cost 4 rfl) rfl (lv_at hl 1 rfl) ?_
  refine lv_iconst (v := (0 : Int32)) hx hb (dk DX11_cost 5 rfl) (by decide) ?_
  refine lv_iconst (v := (3 : Int32)) hx hb (dk DX11_cost 6 rfl) (by decide) ?_
  obtain ⟨zq4, mq2, hzq3, hF⟩ := bnd_ex hF
  refine r_callSi (As := [.int a1, .int (0 : Int32), .int (3 : Int32)]) (rest := [.ref (G.2.1 + 78)]) C hR (C_M_in l hl0 G a1 (0 : Int32) (3 : Int32) mq1 _ _ hzq3) (by decide) (by decide) wX11_67 rfl rfl (Nat.le_of_ble_eq_true rfl) hl.1 ⟨Nat.zero_le _, Nat.zero_le _⟩ (dk DX11_cost 7 rfl) (fun H locs hR => ?_)
  obtain ⟨k20_6, ek20_6, hF⟩ := lt_ex hF
  have J20 : ∀ (zq6 : Bool) (mq5 : Mem) (H : Heap) (locs : List Loc) (ls : Array Slot), lv_has ls 5 [(0, .ref (G.2.1 + 78)), (1, .int a1)] → Rp G mr0 N0 mq5 s H locs → k20_6 zq6 mq5 = some (v, m') → W p l e (rmD 11) s mid args below meth c H locs 0 0 (MQ below (QR G mr0 N0 (some (.long v)) m') args s 0 0 (fun q => G.2.1 ≤ q)) (F0 mid 20 ls [.int (b2i zq6), .ref (G.2.1 + 78)]) := by
    intro zq6 mq5 H locs ls hl hR hF
    rw [ek20_6] at hF
    refine lv_iconst (v := (1 : Int32)) hx hb (dk DX11_cost 12 rfl) (by decide) ?_
    obtain ⟨zq9, mq7, hzq8, hF⟩ := bnd_ex hF
    refine r_callVi (As := [.int (b2i zq6), .int (1 : Int32)]) (rest := []) C hR (C_M_throwsIf l hl0 G zq6 (1 : Int32) mq5 _ _ hzq8) (by decide) (by decide) ob78 rfl wX11_227 rfl rfl (Nat.le_of_ble_eq_true rfl) hl.1 ⟨Nat.zero_le _, Nat.zero_le _⟩ (dk DX11_cost 13 rfl) (fun H locs hR => ?_)
    refine z_ifne (tgt := 48) hx hb (dk DX11_cost 14 rfl) (by decide) (fun c24 => ?_) (fun c24 => ?_)
    · have hF := if_t c24 hF
      refine lv_lconst (v := (0 : Int64)) hx hb (dk DX11_cost 26 rfl) (by decide) ?_
      cases hF
      exact r_lret C hrt hR (dk DX11_cost 27 rfl)
    · have hF := if_f c24 hF
      refine lv_aload_n hx hb (dk DX11_cost 15 rfl) rfl (lv_at hl 0 rfl) ?_
      refine lv_aload_n hx hb (dk DX11_cost 16 rfl) rfl (lv_at hl 0 rfl) ?_
      refine lv_iload_n hx hb (dk DX11_cost 17 rfl) rfl (lv_at hl 1 rfl) ?_
      obtain ⟨zq12, mq10, hzq11, hF⟩ := bnd_ex hF
      refine r_callVi (As := [.int a1]) (rest := [.ref (G.2.1 + 78)]) C hR (C_M_canBe l hl0 G a1 mq7 _ _ hzq11) (by decide) (by decide) ob78 rfl wX11_464 rfl rfl (Nat.le_of_ble_eq_true rfl) hl.1 ⟨Nat.zero_le _, Nat.zero_le _⟩ (dk DX11_cost 18 rfl) (fun H locs hR => ?_)
      obtain ⟨k41_14, ek41_14, hF⟩ := lt_ex hF
      have J41 : ∀ (zq14 : Bool) (mq13 : Mem) (H : Heap) (locs : List Loc) (ls : Array Slot), lv_has ls 5 [(0, .ref (G.2.1 + 78)), (1, .int a1)] → Rp G mr0 N0 mq13 s H locs → k41_14 zq14 mq13 = some (v, m') → W p l e (rmD 11) s mid args below meth c H locs 0 0 (MQ below (QR G mr0 N0 (some (.long v)) m') args s 0 0 (fun q => G.2.1 ≤ q)) (F0 mid 41 ls [.int (b2i zq14), .ref (G.2.1 + 78)]) := by
        intro zq14 mq13 H locs ls hl hR hF
        rw [ek41_14] at hF
        refine lv_iconst (v := (2 : Int32)) hx hb (dk DX11_cost 23 rfl) (by decide) ?_
        obtain ⟨zq17, mq15, hzq16, hF⟩ := bnd_ex hF
        refine r_callVi (As := [.int (b2i zq14), .int (2 : Int32)]) (rest := []) C hR (C_M_throwsIf l hl0 G zq14 (2 : Int32) mq13 _ _ hzq16) (by decide) (by decide) ob78 rfl wX11_227 rfl rfl (Nat.le_of_ble_eq_true rfl) hl.1 ⟨Nat.zero_le _, Nat.zero_le _⟩ (dk DX11_cost 24 rfl) (fun H locs hR => ?_)
        refine z_ifeq (tgt := 50) hx hb (dk DX11_cost 25 rfl) (by decide) (fun c45 => ?_) (fun c45 => ?_)
        · have hF := if_f c45 hF
          refine lv_aload_n hx hb (dk DX11_cost 28 rfl) rfl (lv_at hl 0 rfl) ?_
          obtain ⟨uq20, mq18, hzq19, hF⟩ := bnd_ex hF
          refine r_callVv (As := []) (rest := []) C hR (C_M_countsNow l hl0 G mq15 _ _ hzq19) (by decide) (by decide) ob78 rfl wX11_424 rfl rfl (Nat.le_of_ble_eq_true rfl) hl.1 ⟨Nat.zero_le _, Nat.zero_le _⟩ (dk DX11_cost 29 rfl) (fun H locs hR => ?_)
          refine lv_aload_n hx hb (dk DX11_cost 30 rfl) rfl (lv_at hl 0 rfl) ?_
          refine lv_aload_n hx hb (dk DX11_cost 31 rfl) rfl (lv_at hl 0 rfl) ?_
          obtain ⟨xq23, mq21, hzq22, hF⟩ := bnd_ex hF
          refine r_callVi (As := []) (rest := [.ref (G.2.1 + 78)]) C hR (C_M_played l hl0 G mq18 _ _ hzq22) (by decide) (by decide) ob78 rfl wX11_288 rfl rfl (Nat.le_of_ble_eq_true rfl) hl.1 ⟨Nat.zero_le _, Nat.zero_le _⟩ (dk DX11_cost 32 rfl) (fun H locs hR => ?_)
          obtain ⟨uq26, mq24, hzq25, hF⟩ := bnd_ex hF
          refine r_callVv (As := [.int xq23]) (rest := []) C hR (C_M_laysLevels l hl0 G xq23 mq21 _ _ hzq25) (by decide) (by decide) ob78 rfl wX11_399 rfl rfl (Nat.le_of_ble_eq_true rfl) hl.1 ⟨Nat.zero_le _, Nat.zero_le _⟩ (dk DX11_cost 33 rfl) (fun H locs hR => ?_)
          refine lv_lconst (v := (0 : Int64)) hx hb (dk DX11_cost 34 rfl) (by decide) ?_
          refine lv_lstore_n (lv' := [(2, .long (0 : Int64)), (0, .ref (G.2.1 + 78)), (1, .int a1)]) hx hb (dk DX11_cost 35 rfl) rfl hl (by decide) rfl (fun ls hl => ?_)
          refine lv_iconst (v := (0 : Int32)) hx hb (dk DX11_cost 36 rfl) (by decide) ?_
          refine lv_istore (lv' := [(4, .int (0 : Int32)), (2, .long (0 : Int64)), (0, .ref (G.2.1 + 78)), (1, .int a1)]) hx hb (dk DX11_cost 37 rfl) hl (by decide) rfl (fun ls hl => ?_)
          obtain ⟨k103_28, ek103_28, hF⟩ := lt_ex hF
          have J103 : ∀ (yq28 : Int64) (mq27 : Mem) (H : Heap) (locs : List Loc) (ls : Array Slot), lv_has ls 5 [(0, .ref (G.2.1 + 78)), (1, .int a1), (2, .long yq28)] → Rp G mr0 N0 mq27 s H locs → k103_28 yq28 mq27 = some (v, m') → W p l e (rmD 11) s mid args below meth c H locs 0 0 (MQ below (QR G mr0 N0 (some (.long v)) m') args s 0 0 (fun q => G.2.1 ≤ q)) (F0 mid 103 ls []) := by
            intro yq28 mq27 H locs ls hl hR hF
            rw [ek103_28] at hF
            refine lv_lload_n hx hb (dk DX11_cost 55 rfl) rfl (lv_at hl 2 rfl) ?_
            refine lv_aload_n hx hb (dk DX11_cost 56 rfl) rfl (lv_at hl 0 rfl) ?_
            refine lv_iload_n hx hb (dk DX11_cost 57 rfl) rfl (lv_at hl 1 rfl) ?_
            obtain ⟨yq31, mq29, hzq30, hF⟩ := bnd_ex hF
            refine r_callVl (As := [.int a1]) (rest := [.long yq28]) C hR (C_M_worthBy l hl0 G a1 mq27 _ _ hzq30) (by decide) (by decide) ob78 rfl wX11_467 rfl rfl (Nat.le_of_ble_eq_true rfl) hl.1 ⟨Nat.zero_le _, Nat.zero_le _⟩ (dk DX11_cost 58 rfl) (fun H locs hR => ?_)
            refine lv_lsub hx hb (dk DX11_cost 59 rfl) ?_
            cases hF
            exact r_lret C hrt hR (dk DX11_cost 60 rfl)
          have L67 : ∀ (nf : Nat) (yq33 : Int64) (xq34 : Int32) (mq32 : Mem) (H : Heap) (locs : List Loc) (ls : Array Slot), lv_has ls 5 [(0, .ref (G.2.1 + 78)), (1, .int a1), (2, .long yq33), (4, .int xq34)] → Rp G mr0 N0 mq32 s H locs → F_M_cost_L67 k103_28 nf yq33 xq34 mq32 = some (v, m') → W p l e (rmD 11) s mid args below meth c H locs 0 0 (MQ below (QR G mr0 N0 (some (.long v)) m') args s 0 0 (fun q => G.2.1 ≤ q)) (F0 mid 67 ls []) := by
            intro nf
            induction nf with
            | zero =>
              intro yq33 xq34 mq32 H locs ls hl hR hF
              rw [F_M_cost_L67] at hF
              cases hF
            | succ nf ihq36 =>
              intro yq33 xq34 mq32 H locs ls hl hR hF
              rw [F_M_cost_L67] at hF
              refine lv_iload hx hb (dk DX11_cost 38 rfl) (lv_at hl 3 rfl) ?_
              refine lv_iconst (v := (4 : Int32)) hx hb (dk DX11_cost 39 rfl) (by decide) ?_
              refine lv_icmp_ge (tgt := 103) hx hb (dk DX11_cost 40 rfl) (by decide) (fun c70 => ?_) (fun c70 => ?_)
              · have hF := if_t c70 hF
                exact J103 yq33 mq32 _ _ ls (lv_sub hl [0, 1, 2] rfl) hR hF
              · have hF := if_f c70 hF
                refine lv_aload_n hx hb (dk DX11_cost 41 rfl) rfl (lv_at hl 0 rfl) ?_
                refine lv_iload hx hb (dk DX11_cost 42 rfl) (lv_at hl 3 rfl) ?_
                obtain ⟨zq39, mq37, hzq38, hF⟩ := bnd_ex hF
                refine r_callVi (As := [.int xq34]) (rest := []) C hR (C_M_canBe l hl0 G xq34 mq32 _ _ hzq38) (by decide) (by decide) ob78 rfl wX11_464 rfl rfl (Nat.le_of_ble_eq_true rfl) hl.1 ⟨Nat.zero_le _, Nat.zero_le _⟩ (dk DX11_cost 43 rfl) (fun H locs hR => ?_)
                obtain ⟨k96_41, ek96_41, hF⟩ := lt_ex hF
                have J96 : ∀ (yq41 : Int64) (mq40 : Mem) (H : Heap) (locs : List Loc) (ls : Array Slot), lv_has ls 5 [(0, .ref (G.2.1 + 78)), (1, .int a1), (4, .int xq34)] → Rp G mr0 N0 mq40 s H locs → k96_41 yq41 mq40 = some (v, m') → W p l e (rmD 11) s mid args below meth c H locs 0 0 (MQ below (QR G mr0 N0 (some (.long v)) m') args s 0 0 (fun q => G.2.1 ≤ q)) (F0 mid 96 ls [.long yq41]) := by
                  intro yq41 mq40 H locs ls hl hR hF
                  rw [ek96_41] at hF
                  refine lv_lstore_n (lv' := [(2, .long yq41), (0, .ref (G.2.1 + 78)), (1, .int a1), (4, .int xq34)]) hx hb (dk DX11_cost 52 rfl) rfl hl (by decide) rfl (fun ls hl => ?_)
                  obtain ⟨xq42, exq42, hF⟩ := lt_ex hF
                  refine lv_iinc (v := xq42) (lv' := [(4, .int xq42), (2, .long yq41), (0, .ref (G.2.1 + 78)), (1, .int a1)]) hx hb (dk DX11_cost 53 rfl) hl (k := 3) rfl (by rw [exq42]; rfl) (by decide) rfl (fun ls hl => ?_)
                  refine lv_goto (tgt := 67) hx hb (dk DX11_cost 54 rfl) (by decide) ?_
                  exact ihq36 yq41 xq42 mq40 _ _ ls (lv_sub hl [2, 3, 1, 0] rfl) hR hF
                refine z_ifeq (tgt := 95) hx hb (dk DX11_cost 44 rfl) (by decide) (fun c79 => ?_) (fun c79 => ?_)
                · have hF := if_f c79 hF
                  refine lv_lload_n hx hb (dk DX11_cost 51 rfl) rfl (lv_at hl 2 rfl) ?_
                  exact J96 yq33 mq37 _ _ ls (lv_sub hl [0, 1, 3] rfl) hR hF
                · have hF := if_t c79 hF
                  refine lv_lload_n hx hb (dk DX11_cost 45 rfl) rfl (lv_at hl 2 rfl) ?_
                  refine lv_aload_n hx hb (dk DX11_cost 46 rfl) rfl (lv_at hl 0 rfl) ?_
                  refine lv_iload hx hb (dk DX11_cost 47 rfl) (lv_at hl 3 rfl) ?_
                  obtain ⟨yq45, mq43, hzq44, hF⟩ := bnd_ex hF
                  refine r_callVl (As := [.int xq34]) (rest := [.long yq33]) C hR (C_M_worthBy l hl0 G xq34 mq37 _ _ hzq44) (by decide) (by decide) ob78 rfl wX11_467 rfl rfl (Nat.le_of_ble_eq_true rfl) hl.1 ⟨Nat.zero_le _, Nat.zero_le _⟩ (dk DX11_cost 48 rfl) (fun H locs hR => ?_)
                  refine r_mxL C (gd q2190 rfl) (by decide) (Nat.le_of_ble_eq_true rfl) hl.1 ⟨Nat.zero_le _, Nat.zero_le _⟩ (dk DX11_cost 49 rfl) ?_
                  refine lv_goto (tgt := 96) hx hb (dk DX11_cost 50 rfl) (by decide) ?_
                  exact J96 (mxL yq33 yq45) mq43 _ _ ls (lv_sub hl [0, 1, 3] rfl) hR hF
          exact L67 1000000 (0 : Int64) (0 : Int32) mq24 _ _ ls (lv_sub hl [2, 3, 1, 0] rfl) hR hF
        · have hF := if_t c45 hF
          refine lv_lconst (v := (0 : Int64)) hx hb (dk DX11_cost 26 rfl) (by decide) ?_
          cases hF
          exact r_lret C hrt hR (dk DX11_cost 27 rfl)
      refine z_ifne (tgt := 40) hx hb (dk DX11_cost 19 rfl) (by decide) (fun c33 => ?_) (fun c33 => ?_)
      · have hF := if_t c33 hF
        refine lv_iconst (v := (0 : Int32)) hx hb (dk DX11_cost 22 rfl) (by decide) ?_
        exact J41 false mq10 _ _ ls (lv_sub hl [0, 1] rfl) hR hF
      · have hF := if_f c33 hF
        refine lv_iconst (v := (1 : Int32)) hx hb (dk DX11_cost 20 rfl) (by decide) ?_
        refine lv_goto (tgt := 41) hx hb (dk DX11_cost 21 rfl) (by decide) ?_
        exact J41 true mq10 _ _ ls (lv_sub hl [0, 1] rfl) hR hF
  refine z_ifne (tgt := 19) hx hb (dk DX11_cost 8 rfl) (by decide) (fun c12 => ?_) (fun c12 => ?_)
  · have hF := if_t c12 hF
    refine lv_iconst (v := (0 : Int32)) hx hb (dk DX11_cost 11 rfl) (by decide) ?_
    exact J20 false mq2 _ _ ls (lv_sub hl [0, 1] rfl) hR hF
  · have hF := if_f c12 hF
    refine lv_iconst (v := (1 : Int32)) hx hb (dk DX11_cost 9 rfl) (by decide) ?_
    refine lv_goto (tgt := 20) hx hb (dk DX11_cost 10 rfl) (by decide) ?_
    exact J20 true mq2 _ _ ls (lv_sub hl [0, 1] rfl) hR hF
