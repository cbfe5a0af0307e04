set_option maxHeartbeats 4000000 in
set_option maxRecDepth 100000 in
theorem C_Ma_beginNext_2 (l : Launch) (hl0 : l.stackTraces = false) (G : GG) (m0 : Mem) (v : Unit) (m' : Mem) (hF : F_Ma_beginNext_2 m0 = some (v, m')) : Ct l G mr0 N0 yX5_beginNext cX5_beginNext 1 none 1 [.ref (G.2.1 + 18)] m0 none m' := by
  refine Ct_of hl0 (by decide) (Nat.le_of_ble_eq_true rfl) ?_
  intro p e s mid args below meth c ls C hrt hl hR
  have hx := C.1.1
  have hb := C.1.2.1
  have hl : lv_has ls 1 [(0, .ref (G.2.1 + 18))] := hl
  unfold F_Ma_beginNext_2 at hF
  refine lv_aload_n hx hb (dk DX5_beginNext 0 rfl) rfl (lv_at hl 0 rfl) ?_
  refine lv_dup hx hb (dk DX5_beginNext 1 rfl) rfl ?_
  refine gX5_15 C hR ob18 (dk DX5_beginNext 2 rfl) ?_
  refine lv_iconst (v := (1 : Int32)) hx hb (dk DX5_beginNext 3 rfl) (by decide) ?_
  refine lv_iadd hx hb (dk DX5_beginNext 4 rfl) ?_
  refine pX5_15 (x := (gI m0 18 1) + (1 : Int32)) C hR ob18 (dk DX5_beginNext 5 rfl) (fun H locs hR => ?_)
  obtain ⟨mq1, emq1, hF⟩ := lt_ex hF
  have hR := Rp_at emq1 hR
  refine lv_aload_n hx hb (dk DX5_beginNext 6 rfl) rfl (lv_at hl 0 rfl) ?_
  refine lv_iconst (v := (0 : Int32)) hx hb (dk DX5_beginNext 7 rfl) (by decide) ?_
  refine pX5_18 (x := (0 : Int32)) C hR ob18 (dk DX5_beginNext 8 rfl) (fun H locs hR => ?_)
  obtain ⟨mq2, emq2, hF⟩ := lt_ex hF
  have hR := Rp_at emq2 hR
  refine lv_aload_n hx hb (dk DX5_beginNext 9 rfl) rfl (lv_at hl 0 rfl) ?_
  refine lv_iconst (v := (1 : Int32)) hx hb (dk DX5_beginNext 10 rfl) (by decide) ?_
  refine pX5_31 (x := true) C hR ob18 (dk DX5_beginNext 11 rfl) (fun H locs hR => ?_)
  obtain ⟨mq3, emq3, hF⟩ := lt_ex hF
  have hR := Rp_at emq3 hR
  cases hF
  exact r_vret C hrt hR (dk DX5_beginNext 12 rfl)
set_option maxHeartbeats 4000000 in
set_option maxRecDepth 100000 in
theorem C_Ma_playSession_2 (l : Launch) (hl0 : l.stackTraces = false) (G : GG) (a2 : Int32) (a3 : Bool) (m0 : Mem) (v : Unit) (m' : Mem) (hF : F_Ma_playSession_2 a2 a3 m0 = some (v, m')) : Ct l G mr0 N0 yX5_playSession cX5_playSession 8 none 5 [.ref (G.2.1 + 18), .ref (G.2.1 + 3), .int a2, .int (b2i a3)] m0 none m' := by
  refine Ct_of hl0 (by decide) (Nat.le_of_ble_eq_true rfl) ?_
  intro p e s mid args below meth c ls C hrt hl hR
  have hx := C.1.1
  have hb := C.1.2.1
  have hl : lv_has ls 8 [(0, .ref (G.2.1 + 18)), (1, .ref (G.2.1 + 3)), (2, .int a2), (3, .int (b2i a3))] := hl
  unfold F_Ma_playSession_2 at hF
  refine lv_aload_n hx hb (dk DX5_playSession 0 rfl) rfl (lv_at hl 0 rfl) ?_
  obtain ⟨xq3, mq1, hzq2, hF⟩ := bnd_ex hF
  refine r_callVi (As := []) (rest := []) C hR (C_Ma_batting_2 l hl0 G m0 _ _ hzq2) (by decide) (by decide) ob18 rfl wX5_70 rfl rfl (Nat.le_of_ble_eq_true rfl) hl.1 ⟨Nat.zero_le _, Nat.zero_le _⟩ (dk DX5_playSession 1 rfl) (fun H locs hR => ?_)
  refine lv_istore (lv' := [(4, .int xq3), (0, .ref (G.2.1 + 18)), (1, .ref (G.2.1 + 3)), (2, .int a2), (3, .int (b2i a3))]) hx hb (dk DX5_playSession 2 rfl) hl (by decide) rfl (fun ls hl => ?_)
  refine lv_aload_n hx hb (dk DX5_playSession 3 rfl) rfl (lv_at hl 2 rfl) ?_
  refine lv_aload_n hx hb (dk DX5_playSession 4 rfl) rfl (lv_at hl 1 rfl) ?_
  refine gX5_21 C hR ob18 (dk DX5_playSession 5 rfl) ?_
  refine lv_aload_n hx hb (dk DX5_playSession 6 rfl) rfl (lv_at hl 1 rfl) ?_
  refine gX5_15 C hR ob18 (dk DX5_playSession 7 rfl) ?_
  refine lv_iload hx hb (dk DX5_playSession 8 rfl) (lv_at hl 0 rfl) ?_
  obtain ⟨xq6, mq4, hzq5, hF⟩ := bnd_ex hF
  refine r_callVi (As := [.int (gI mq1 18 3), .int (gI mq1 18 1), .int xq3]) (rest := []) C hR (C_Gr_levelOf l hl0 G (gI mq1 18 3) (gI mq1 18 1) xq3 mq1 _ _ hzq5) (by decide) (by decide) ob3 rfl wX5_73 rfl rfl (Nat.le_of_ble_eq_true rfl) hl.1 ⟨Nat.zero_le _, Nat.zero_le _⟩ (dk DX5_playSession 9 rfl) (fun H locs hR => ?_)
  refine lv_istore (lv' := [(5, .int xq6), (4, .int xq3), (0, .ref (G.2.1 + 18)), (1, .ref (G.2.1 + 3)), (2, .int a2), (3, .int (b2i a3))]) hx hb (dk DX5_playSession 10 rfl) hl (by decide) rfl (fun ls hl => ?_)
  refine lv_iload_n hx hb (dk DX5_playSession 11 rfl) rfl (lv_at hl 5 rfl) ?_
  obtain ⟨k41_8, ek41_8, hF⟩ := lt_ex hF
  have J41 : ∀ (xq8 : Int32) (mq7 : Mem) (H : Heap) (locs : List Loc) (ls : Array Slot), lv_has ls 8 [(0, .ref (G.2.1 + 18)), (1, .ref (G.2.1 + 3)), (2, .int a2), (3, .int (b2i a3)), (4, .int xq3), (5, .int xq6)] → Rp G mr0 N0 mq7 s H locs → k41_8 xq8 mq7 = some (v, m') → W p l e (rmD 5) s mid args below meth c H locs 0 0 (MQ below (QR G mr0 N0 none m') args s 0 0 (fun q => G.2.1 ≤ q)) (F0 mid 41 ls [.int xq8]) := by
    intro xq8 mq7 H locs ls hl hR hF
    rw [ek41_8] at hF
    refine lv_istore (lv' := [(6, .int xq8), (0, .ref (G.2.1 + 18)), (1, .ref (G.2.1 + 3)), (2, .int a2), (3, .int (b2i a3)), (4, .int xq3), (5, .int xq6)]) hx hb (dk DX5_playSession 21 rfl) hl (by decide) rfl (fun ls hl => ?_)
    refine lv_aload_n hx hb (dk DX5_playSession 22 rfl) rfl (lv_at hl 2 rfl) ?_
    refine lv_aload_n hx hb (dk DX5_playSession 23 rfl) rfl (lv_at hl 1 rfl) ?_
    refine gX5_21 C hR ob18 (dk DX5_playSession 24 rfl) ?_
    refine lv_iload hx hb (dk DX5_playSession 25 rfl) (lv_at hl 6 rfl) ?_
    refine lv_iload_n hx hb (dk DX5_playSession 26 rfl) rfl (lv_at hl 3 rfl) ?_
    obtain ⟨xq11, mq9, hzq10, hF⟩ := bnd_ex hF
    refine r_callVi (As := [.int (gI mq7 18 3), .int xq6, .int a2]) (rest := []) C hR (C_Gr_outsIn l hl0 G (gI mq7 18 3) xq6 a2 mq7 _ _ hzq10) (by decide) (by decide) ob3 rfl wX5_82 rfl rfl (Nat.le_of_ble_eq_true rfl) hl.1 ⟨Nat.zero_le _, Nat.zero_le _⟩ (dk DX5_playSession 27 rfl) (fun H locs hR => ?_)
    refine lv_istore (lv' := [(7, .int xq11), (6, .int xq8), (0, .ref (G.2.1 + 18)), (1, .ref (G.2.1 + 3)), (2, .int a2), (3, .int (b2i a3)), (4, .int xq3), (5, .int xq6)]) hx hb (dk DX5_playSession 28 rfl) hl (by decide) rfl (fun ls hl => ?_)
    refine lv_iload_n hx hb (dk DX5_playSession 29 rfl) rfl (lv_at hl 5 rfl) ?_
    obtain ⟨k70_13, ek70_13, hF⟩ := lt_ex hF
    have J70 : ∀ (xq13 : Int32) (mq12 : Mem) (H : Heap) (locs : List Loc) (ls : Array Slot), lv_has ls 8 [(0, .ref (G.2.1 + 18)), (1, .ref (G.2.1 + 3)), (2, .int a2), (4, .int xq3), (5, .int xq6), (6, .int xq8), (7, .int xq13)] → Rp G mr0 N0 mq12 s H locs → k70_13 xq13 mq12 = some (v, m') → W p l e (rmD 5) s mid args below meth c H locs 0 0 (MQ below (QR G mr0 N0 none m') args s 0 0 (fun q => G.2.1 ≤ q)) (F0 mid 70 ls []) := by
      intro xq13 mq12 H locs ls hl hR hF
      rw [ek70_13] at hF
      refine lv_iload hx hb (dk DX5_playSession 37 rfl) (lv_at hl 3 rfl) ?_
      obtain ⟨k100_14, ek100_14, hF⟩ := lt_ex hF
      have J100 : ∀ (mq14 : Mem) (H : Heap) (locs : List Loc) (ls : Array Slot), lv_has ls 8 [(0, .ref (G.2.1 + 18)), (1, .ref (G.2.1 + 3)), (2, .int a2), (4, .int xq3), (5, .int xq6), (6, .int xq8), (7, .int xq13)] → Rp G mr0 N0 mq14 s H locs → k100_14  mq14 = some (v, m') → W p l e (rmD 5) s mid args below meth c H locs 0 0 (MQ below (QR G mr0 N0 none m') args s 0 0 (fun q => G.2.1 ≤ q)) (F0 mid 100 ls []) := by
        intro  mq14 H locs ls hl hR hF
        rw [ek100_14] at hF
        refine lv_aload_n hx hb (dk DX5_playSession 52 rfl) rfl (lv_at hl 0 rfl) ?_
        refine lv_bipush (v := (10 : Int32)) hx hb (dk DX5_playSession 53 rfl) (by decide) ?_
        refine lv_aload_n hx hb (dk DX5_playSession 54 rfl) rfl (lv_at hl 0 rfl) ?_
        refine gX5_18 C hR ob18 (dk DX5_playSession 55 rfl) ?_
        refine lv_iload hx hb (dk DX5_playSession 56 rfl) (lv_at hl 6 rfl) ?_
        refine lv_iadd hx hb (dk DX5_playSession 57 rfl) ?_
        refine r_mnI C (gd q1285 rfl) (by decide) (Nat.le_of_ble_eq_true rfl) hl.1 ⟨Nat.zero_le _, Nat.zero_le _⟩ (dk DX5_playSession 58 rfl) ?_
        refine pX5_18 (x := mnI (10 : Int32) ((gI mq14 18 2) + xq13)) C hR ob18 (dk DX5_playSession 59 rfl) (fun H locs hR => ?_)
        obtain ⟨mq15, emq15, hF⟩ := lt_ex hF
        have hR := Rp_at emq15 hR
        refine lv_aload_n hx hb (dk DX5_playSession 60 rfl) rfl (lv_at hl 0 rfl) ?_
        refine lv_iconst (v := (0 : Int32)) hx hb (dk DX5_playSession 61 rfl) (by decide) ?_
        refine pX5_31 (x := false) C hR ob18 (dk DX5_playSession 62 rfl) (fun H locs hR => ?_)
        obtain ⟨mq16, emq16, hF⟩ := lt_ex hF
        have hR := Rp_at emq16 hR
        refine lv_aload_n hx hb (dk DX5_playSession 63 rfl) rfl (lv_at hl 0 rfl) ?_
        refine lv_iconst (v := (0 : Int32)) hx hb (dk DX5_playSession 64 rfl) (by decide) ?_
        refine lv_aload_n hx hb (dk DX5_playSession 65 rfl) rfl (lv_at hl 0 rfl) ?_
        refine gX5_15 C hR ob18 (dk DX5_playSession 66 rfl) ?_
        obtain ⟨uq19, mq17, hzq18, hF⟩ := bnd_ex hF
        refine r_callVv (As := [.int (0 : Int32), .int (gI mq16 18 1)]) (rest := []) C hR (C_Ma_setLog_2 l hl0 G (0 : Int32) (gI mq16 18 1) mq16 _ _ hzq18) (by decide) (by decide) ob18 rfl wX5_94 rfl rfl (Nat.le_of_ble_eq_true rfl) hl.1 ⟨Nat.zero_le _, Nat.zero_le _⟩ (dk DX5_playSession 67 rfl) (fun H locs hR => ?_)
        refine lv_aload_n hx hb (dk DX5_playSession 68 rfl) rfl (lv_at hl 0 rfl) ?_
        refine lv_iconst (v := (1 : Int32)) hx hb (dk DX5_playSession 69 rfl) (by decide) ?_
        refine lv_iload hx hb (dk DX5_playSession 70 rfl) (lv_at hl 3 rfl) ?_
        obtain ⟨uq22, mq20, hzq21, hF⟩ := bnd_ex hF
        refine r_callVv (As := [.int (1 : Int32), .int xq3]) (rest := []) C hR (C_Ma_setLog_2 l hl0 G (1 : Int32) xq3 mq17 _ _ hzq21) (by decide) (by decide) ob18 rfl wX5_94 rfl rfl (Nat.le_of_ble_eq_true rfl) hl.1 ⟨Nat.zero_le _, Nat.zero_le _⟩ (dk DX5_playSession 71 rfl) (fun H locs hR => ?_)
        refine lv_aload_n hx hb (dk DX5_playSession 72 rfl) rfl (lv_at hl 0 rfl) ?_
        refine lv_iconst (v := (2 : Int32)) hx hb (dk DX5_playSession 73 rfl) (by decide) ?_
        refine lv_iload hx hb (dk DX5_playSession 74 rfl) (lv_at hl 4 rfl) ?_
        obtain ⟨uq25, mq23, hzq24, hF⟩ := bnd_ex hF
        refine r_callVv (As := [.int (2 : Int32), .int xq6]) (rest := []) C hR (C_Ma_setLog_2 l hl0 G (2 : Int32) xq6 mq20 _ _ hzq24) (by decide) (by decide) ob18 rfl wX5_94 rfl rfl (Nat.le_of_ble_eq_true rfl) hl.1 ⟨Nat.zero_le _, Nat.zero_le _⟩ (dk DX5_playSession 75 rfl) (fun H locs hR => ?_)
        refine lv_aload_n hx hb (dk DX5_playSession 76 rfl) rfl (lv_at hl 0 rfl) ?_
        refine lv_iconst (v := (3 : Int32)) hx hb (dk DX5_playSession 77 rfl) (by decide) ?_
        refine lv_iload_n hx hb (dk DX5_playSession 78 rfl) rfl (lv_at hl 2 rfl) ?_
        obtain ⟨uq28, mq26, hzq27, hF⟩ := bnd_ex hF
        refine r_callVv (As := [.int (3 : Int32), .int a2]) (rest := []) C hR (C_Ma_setLog_2 l hl0 G (3 : Int32) a2 mq23 _ _ hzq27) (by decide) (by decide) ob18 rfl wX5_94 rfl rfl (Nat.le_of_ble_eq_true rfl) hl.1 ⟨Nat.zero_le _, Nat.zero_le _⟩ (dk DX5_playSession 79 rfl) (fun H locs hR => ?_)
        refine lv_aload_n hx hb (dk DX5_playSession 80 rfl) rfl (lv_at hl 0 rfl) ?_
        refine lv_iconst (v := (4 : Int32)) hx hb (dk DX5_playSession 81 rfl) (by decide) ?_
        refine lv_aload_n hx hb (dk DX5_playSession 82 rfl) rfl (lv_at hl 0 rfl) ?_
        refine lv_iload hx hb (dk DX5_playSession 83 rfl) (lv_at hl 3 rfl) ?_
        obtain ⟨xq31, mq29, hzq30, hF⟩ := bnd_ex hF
        refine r_callVi (As := [.int xq3]) (rest := [.int (4 : Int32), .ref (G.2.1 + 18)]) C hR (C_Ma_leadOf_2 l hl0 G xq3 mq26 _ _ hzq30) (by decide) (by decide) ob18 rfl wX5_65 rfl rfl (Nat.le_of_ble_eq_true rfl) hl.1 ⟨Nat.zero_le _, Nat.zero_le _⟩ (dk DX5_playSession 84 rfl) (fun H locs hR => ?_)
        obtain ⟨uq34, mq32, hzq33, hF⟩ := bnd_ex hF
        refine r_callVv (As := [.int (4 : Int32), .int xq31]) (rest := []) C hR (C_Ma_setLog_2 l hl0 G (4 : Int32) xq31 mq29 _ _ hzq33) (by decide) (by decide) ob18 rfl wX5_94 rfl rfl (Nat.le_of_ble_eq_true rfl) hl.1 ⟨Nat.zero_le _, Nat.zero_le _⟩ (dk DX5_playSession 85 rfl) (fun H locs hR => ?_)
        refine lv_aload_n hx hb (dk DX5_playSession 86 rfl) rfl (lv_at hl 0 rfl) ?_
        refine lv_iconst (v := (5 : Int32)) hx hb (dk DX5_playSession 87 rfl) (by decide) ?_
        refine lv_aload_n hx hb (dk DX5_playSession 88 rfl) rfl (lv_at hl 0 rfl) ?_
        refine gX5_18 C hR ob18 (dk DX5_playSession 89 rfl) ?_
        obtain ⟨uq37, mq35, hzq36, hF⟩ := bnd_ex hF
        refine r_callVv (As := [.int (5 : Int32), .int (gI mq32 18 2)]) (rest := []) C hR (C_Ma_setLog_2 l hl0 G (5 : Int32) (gI mq32 18 2) mq32 _ _ hzq36) (by decide) (by decide) ob18 rfl wX5_94 rfl rfl (Nat.le_of_ble_eq_true rfl) hl.1 ⟨Nat.zero_le _, Nat.zero_le _⟩ (dk DX5_playSession 90 rfl) (fun H locs hR => ?_)
        refine lv_aload_n hx hb (dk DX5_playSession 91 rfl) rfl (lv_at hl 0 rfl) ?_
        refine lv_bipush (v := (6 : Int32)) hx hb (dk DX5_playSession 92 rfl) (by decide) ?_
        refine lv_iload hx hb (dk DX5_playSession 93 rfl) (lv_at hl 5 rfl) ?_
        obtain ⟨uq40, mq38, hzq39, hF⟩ := bnd_ex hF
        refine r_callVv (As := [.int (6 : Int32), .int xq8]) (rest := []) C hR (C_Ma_setLog_2 l hl0 G (6 : Int32) xq8 mq35 _ _ hzq39) (by decide) (by decide) ob18 rfl wX5_94 rfl rfl (Nat.le_of_ble_eq_true rfl) hl.1 ⟨Nat.zero_le _, Nat.zero_le _⟩ (dk DX5_playSession 94 rfl) (fun H locs hR => ?_)
        refine lv_aload_n hx hb (dk DX5_playSession 95 rfl) rfl (lv_at hl 0 rfl) ?_
        refine lv_dup hx hb (dk DX5_playSession 96 rfl) rfl ?_
        refine gX5_21 C hR ob18 (dk DX5_playSession 97 rfl) ?_
        refine lv_iconst (v := (1 : Int32)) hx hb (dk DX5_playSession 98 rfl) (by decide) ?_
        refine lv_iadd hx hb (dk DX5_playSession 99 rfl) ?_
        refine pX5_21 (x := (gI mq38 18 3) + (1 : Int32)) C hR ob18 (dk DX5_playSession 100 rfl) (fun H locs hR => ?_)
        obtain ⟨mq41, emq41, hF⟩ := lt_ex hF
        have hR := Rp_at emq41 hR
        refine lv_aload_n hx hb (dk DX5_playSession 101 rfl) rfl (lv_at hl 0 rfl) ?_
        refine gX5_18 C hR ob18 (dk DX5_playSession 102 rfl) ?_
        refine lv_bipush (v := (10 : Int32)) hx hb (dk DX5_playSession 103 rfl) (by decide) ?_
        obtain ⟨k209_42, ek209_42, hF⟩ := lt_ex hF
        have J209 : ∀ (mq42 : Mem) (H : Heap) (locs : List Loc) (ls : Array Slot), lv_has ls 8 [(0, .ref (G.2.1 + 18)), (1, .ref (G.2.1 + 3))] → Rp G mr0 N0 mq42 s H locs → k209_42  mq42 = some (v, m') → W p l e (rmD 5) s mid args below meth c H locs 0 0 (MQ below (QR G mr0 N0 none m') args s 0 0 (fun q => G.2.1 ≤ q)) (F0 mid 209 ls []) := by
          intro  mq42 H locs ls hl hR hF
          rw [ek209_42] at hF
          refine lv_aload_n hx hb (dk DX5_playSession 111 rfl) rfl (lv_at hl 0 rfl) ?_
          refine lv_aload_n hx hb (dk DX5_playSession 112 rfl) rfl (lv_at hl 1 rfl) ?_
          refine gX5_101 C hR ob3 (dk DX5_playSession 113 rfl) ?_
          obtain ⟨uq45, mq43, hzq44, hF⟩ := bnd_ex hF
          refine r_callVv (As := [.int (gI mq42 3 0)]) (rest := []) C hR (C_Ma_judge_2 l hl0 G (gI mq42 3 0) mq42 _ _ hzq44) (by decide) (by decide) ob18 rfl wX5_104 rfl rfl (Nat.le_of_ble_eq_true rfl) hl.1 ⟨Nat.zero_le _, Nat.zero_le _⟩ (dk DX5_playSession 114 rfl) (fun H locs hR => ?_)
          cases hF
          exact r_vret C hrt hR (dk DX5_playSession 115 rfl)
        refine lv_icmp_ne (tgt := 209) hx hb (dk DX5_playSession 104 rfl) (by decide) (fun c194 => ?_) (fun c194 => ?_)
        · have hF := if_f c194 hF
          exact J209 mq41 _ _ ls (lv_sub hl [0, 1] rfl) hR hF
        · have hF := if_t c194 hF
          refine lv_aload_n hx hb (dk DX5_playSession 105 rfl) rfl (lv_at hl 0 rfl) ?_
          refine gX5_15 C hR ob18 (dk DX5_playSession 106 rfl) ?_
          refine lv_iconst (v := (3 : Int32)) hx hb (dk DX5_playSession 107 rfl) (by decide) ?_
          refine lv_icmp_eq (tgt := 209) hx hb (dk DX5_playSession 108 rfl) (by decide) (fun c202 => ?_) (fun c202 => ?_)
          · have hF := if_t c202 hF
            exact J209 mq41 _ _ ls (lv_sub hl [0, 1] rfl) hR hF
          · have hF := if_f c202 hF
            refine lv_aload_n hx hb (dk DX5_playSession 109 rfl) rfl (lv_at hl 0 rfl) ?_
            obtain ⟨uq48, mq46, hzq47, hF⟩ := bnd_ex hF
            refine r_callVv (As := []) (rest := []) C hR (C_Ma_beginNext_2 l hl0 G mq41 _ _ hzq47) (by decide) (by decide) ob18 rfl wX5_98 rfl rfl (Nat.le_of_ble_eq_true rfl) hl.1 ⟨Nat.zero_le _, Nat.zero_le _⟩ (dk DX5_playSession 110 rfl) (fun H locs hR => ?_)
            exact J209 mq46 _ _ ls (lv_sub hl [0, 1] rfl) hR hF
      refine lv_if_ne (tgt := 89) hx hb (dk DX5_playSession 38 rfl) (by decide) (fun c72 => ?_) (fun c72 => ?_)
      · have hF := if_f c72 hF
        refine lv_aload_n hx hb (dk DX5_playSession 46 rfl) rfl (lv_at hl 0 rfl) ?_
        refine lv_dup hx hb (dk DX5_playSession 47 rfl) rfl ?_
        refine gX5_40 C hR ob18 (dk DX5_playSession 48 rfl) ?_
        refine lv_iload hx hb (dk DX5_playSession 49 rfl) (lv_at hl 5 rfl) ?_
        refine lv_iadd hx hb (dk DX5_playSession 50 rfl) ?_
        refine pX5_40 (x := (gI mq12 18 9) + xq8) C hR ob18 (dk DX5_playSession 51 rfl) (fun H locs hR => ?_)
        obtain ⟨mq49, emq49, hF⟩ := lt_ex hF
        have hR := Rp_at emq49 hR
        exact J100 mq49 _ _ ls (lv_sub hl [0, 1, 2, 3, 4, 5, 6] rfl) hR hF
      · have hF := if_t c72 hF
        refine lv_aload_n hx hb (dk DX5_playSession 39 rfl) rfl (lv_at hl 0 rfl) ?_
        refine lv_dup hx hb (dk DX5_playSession 40 rfl) rfl ?_
        refine gX5_37 C hR ob18 (dk DX5_playSession 41 rfl) ?_
        refine lv_iload hx hb (dk DX5_playSession 42 rfl) (lv_at hl 5 rfl) ?_
        refine lv_iadd hx hb (dk DX5_playSession 43 rfl) ?_
        refine pX5_37 (x := (gI mq12 18 8) + xq8) C hR ob18 (dk DX5_playSession 44 rfl) (fun H locs hR => ?_)
        obtain ⟨mq50, emq50, hF⟩ := lt_ex hF
        have hR := Rp_at emq50 hR
        refine lv_goto (tgt := 100) hx hb (dk DX5_playSession 45 rfl) (by decide) ?_
        exact J100 mq50 _ _ ls (lv_sub hl [0, 1, 2, 3, 4, 5, 6] rfl) hR hF
    refine z_ifeq (tgt := 70) hx hb (dk DX5_playSession 30 rfl) (by decide) (fun c57 => ?_) (fun c57 => ?_)
    · have hF := if_f c57 hF
      exact J70 xq11 mq9 _ _ ls (lv_sub hl [2, 3, 4, 6, 7, 1, 0] rfl) hR hF
    · have hF := if_t c57 hF
      refine lv_iconst (v := (0 : Int32)) hx hb (dk DX5_playSession 31 rfl) (by decide) ?_
      refine lv_iload hx hb (dk DX5_playSession 32 rfl) (lv_at hl 0 rfl) ?_
      refine lv_iconst (v := (1 : Int32)) hx hb (dk DX5_playSession 33 rfl) (by decide) ?_
      refine lv_isub hx hb (dk DX5_playSession 34 rfl) ?_
      refine r_mxI C (gd q1284 rfl) (by decide) (Nat.le_of_ble_eq_true rfl) hl.1 ⟨Nat.zero_le _, Nat.zero_le _⟩ (dk DX5_playSession 35 rfl) ?_
      refine lv_topi (fun xq51 exq51 => ?_)
      have hF := lt_at exq51 hF
      refine lv_istore (lv' := [(7, .int xq51), (6, .int xq8), (0, .ref (G.2.1 + 18)), (1, .ref (G.2.1 + 3)), (2, .int a2), (3, .int (b2i a3)), (4, .int xq3), (5, .int xq6)]) hx hb (dk DX5_playSession 36 rfl) hl (by decide) rfl (fun ls hl => ?_)
      exact J70 xq51 mq9 _ _ ls (lv_sub hl [2, 3, 4, 6, 7, 1, 0] rfl) hR hF
  refine z_ifeq (tgt := 30) hx hb (dk DX5_playSession 12 rfl) (by decide) (fun c23 => ?_) (fun c23 => ?_)
  · have hF := if_f c23 hF
    refine lv_aload_n hx hb (dk DX5_playSession 15 rfl) rfl (lv_at hl 3 rfl) ?_
    refine lv_aload_n hx hb (dk DX5_playSession 16 rfl) rfl (lv_at hl 2 rfl) ?_
    refine gX5_21 C hR ob18 (dk DX5_playSession 17 rfl) ?_
    refine lv_iload hx hb (dk DX5_playSession 18 rfl) (lv_at hl 0 rfl) ?_
    refine lv_iload_n hx hb (dk DX5_playSession 19 rfl) rfl (lv_at hl 4 rfl) ?_
    obtain ⟨xq54, mq52, hzq53, hF⟩ := bnd_ex hF
    refine r_callVi (As := [.int (gI mq4 18 3), .int xq6, .int a2]) (rest := []) C hR (C_Gr_runsIn l hl0 G (gI mq4 18 3) xq6 a2 mq4 _ _ hzq53) (by decide) (by decide) ob3 rfl wX5_79 rfl rfl (Nat.le_of_ble_eq_true rfl) hl.1 ⟨Nat.zero_le _, Nat.zero_le _⟩ (dk DX5_playSession 20 rfl) (fun H locs hR => ?_)
    exact J41 xq54 mq52 _ _ ls (lv_sub hl [2, 3, 4, 5, 1, 0] rfl) hR hF
  · have hF := if_t c23 hF
    refine lv_iconst (v := (0 : Int32)) hx hb (dk DX5_playSession 13 rfl) (by decide) ?_
    refine lv_goto (tgt := 41) hx hb (dk DX5_playSession 14 rfl) (by decide) ?_
    exact J41 (0 : Int32) mq4 _ _ ls (lv_sub hl [2, 3, 4, 5, 1, 0] rfl) hR hF
set_option maxHeartbeats 4000000 in
set_option maxRecDepth 100000 in
theorem C_T_swing (l : Launch) (hl0 : l.stackTraces = false) (G : GG) (m0 : Mem) (v : Nat ⊕ Int32) (m' : Mem) (hF : F_T_swing m0 = some (v, m')) : CtX l G mr0 N0 yX10_swing cX10_swing 3 (some .int) 9 [.ref (G.2.1 + 0)] m0 (ouI v) m' := by
  refine CtX_of hl0 (by decide) (Nat.le_of_ble_eq_true rfl) ?_
  intro p e s mid args below meth c ls C hrt hex hl hR
  have hx := C.1.1
  have hb := C.1.2.1
  have hl : lv_has ls 3 [(0, .ref (G.2.1 + 0))] := hl
  unfold F_T_swing at hF
  refine lv_aload_n hx hb (dk DX10_swing 0 rfl) rfl (lv_at hl 0 rfl) ?_
  obtain ⟨xq3, mq1, hzq2, hF⟩ := bnd_ex hF
  refine r_callVi (As := []) (rest := []) C hR (C_T_useTape l hl0 G m0 _ _ hzq2) (by decide) (by decide) ob0 rfl wX10_89 rfl rfl (Nat.le_of_ble_eq_true rfl) hl.1 ⟨Nat.zero_le _, Nat.zero_le _⟩ (dk DX10_swing 1 rfl) (fun H locs hR => ?_)
  refine lv_istore_n (lv' := [(1, .int xq3), (0, .ref (G.2.1 + 0))]) hx hb (dk DX10_swing 2 rfl) rfl hl (by decide) rfl (fun ls hl => ?_)
  refine lv_aload_n hx hb (dk DX10_swing 3 rfl) rfl (lv_at hl 1 rfl) ?_
  rcases bndX_ex hF with ⟨ke, mq4, hzq5, hF⟩ | ⟨uq6, mq4, hzq5, hF⟩
  · have hM := C_T_mustBeOn l hl0 G mq1 (Sum.inl ke) mq4 hzq5
    rw [show ouV (Sum.inl ke) = (Sum.inl ke : Ou) from rfl] at hM
    cases hF
    exact x_passV (d := 9) (k := ke) (As := []) (rest := []) C hex hR hM (by decide) (by decide) ob0 rfl wX10_247 rfl rfl (Nat.le_of_ble_eq_true rfl) hl.1 (dk DX10_swing 4 rfl)
  · have hM := C_T_mustBeOn l hl0 G mq1 (Sum.inr uq6) mq4 hzq5
    rw [show ouV (Sum.inr uq6) = (Sum.inr none : Ou) from rfl] at hM
    refine x_callVv (As := []) (rest := []) C hR hM (by decide) (by decide) ob0 rfl wX10_247 rfl rfl (Nat.le_of_ble_eq_true rfl) hl.1 ⟨Nat.zero_le _, Nat.zero_le _⟩ (dk DX10_swing 4 rfl) (fun H locs hR => ?_)
    refine lv_iload_n hx hb (dk DX10_swing 5 rfl) rfl (lv_at hl 0 rfl) ?_
    refine lv_aload_n hx hb (dk DX10_swing 6 rfl) rfl (lv_at hl 1 rfl) ?_
    refine gX10_31 C hR ob0 rf0_4 (dk DX10_swing 7 rfl) ?_
    refine gX10_167 C hR ob3 (dk DX10_swing 8 rfl) ?_
    refine lv_aload_n hx hb (dk DX10_swing 9 rfl) rfl (lv_at hl 1 rfl) ?_
    refine gX10_37 C hR ob0 rf0_5 (dk DX10_swing 10 rfl) ?_
    refine gX10_203 C hR ob16 (dk DX10_swing 11 rfl) ?_
    refine lv_isub hx hb (dk DX10_swing 12 rfl) ?_
    obtain ⟨k37_7, ek37_7, hF⟩ := lt_ex hF
    have J37 : ∀ (mq7 : Mem) (H : Heap) (locs : List Loc) (ls : Array Slot), lv_has ls 3 [] → Rp G mr0 N0 mq7 s H locs → k37_7  mq7 = some (v, m') → W p l e (rmX 9 (ouI v)) s mid args below meth c H locs 0 0 (ZX below G mr0 N0 (ouI v) m' args s) (F0 mid 37 ls []) := by
      intro  mq7 H locs ls hl hR hF
      rw [ek37_7] at hF
      cases hF
      exact r_throwW (d := 9) (k := 1) C hex hR tX10_113 strm_X10_296 (by decide) (Nat.le_of_ble_eq_true rfl) hl.1 (dk DX10_swing 19 rfl) (dk DX10_swing 20 rfl) (dk DX10_swing 21 rfl) (dk DX10_swing 22 rfl) (dk DX10_swing 23 rfl)
    refine lv_icmp_ne (tgt := 37) hx hb (dk DX10_swing 13 rfl) (by decide) (fun c25 => ?_) (fun c25 => ?_)
    · have hF := if_f c25 hF
      exact J37 mq4 _ _ ls (lv_sub hl [] rfl) hR hF
    · have hF := if_t c25 hF
      refine lv_aload_n hx hb (dk DX10_swing 14 rfl) rfl (lv_at hl 1 rfl) ?_
      refine lv_iload_n hx hb (dk DX10_swing 15 rfl) rfl (lv_at hl 0 rfl) ?_
      refine lv_iconst (v := (4 : Int32)) hx hb (dk DX10_swing 16 rfl) (by decide) ?_
      obtain ⟨zq10, mq8, hzq9, hF⟩ := bnd_ex hF
      refine r_callVi (As := [.int xq3, .int (4 : Int32)]) (rest := []) C hR (C_T_tapeIsBelow l hl0 G xq3 (4 : Int32) mq4 _ _ hzq9) (by decide) (by decide) ob0 rfl wX10_292 rfl rfl (Nat.le_of_ble_eq_true rfl) hl.1 ⟨Nat.zero_le _, Nat.zero_le _⟩ (dk DX10_swing 17 rfl) (fun H locs hR => ?_)
      refine z_ifne (tgt := 48) hx hb (dk DX10_swing 18 rfl) (by decide) (fun c34 => ?_) (fun c34 => ?_)
      · have hF := if_t c34 hF
        refine lv_aload_n hx hb (dk DX10_swing 24 rfl) rfl (lv_at hl 1 rfl) ?_
        refine gX10_41 C hR ob0 rf0_6 (dk DX10_swing 25 rfl) ?_
        refine lv_aload_n hx hb (dk DX10_swing 26 rfl) rfl (lv_at hl 1 rfl) ?_
        refine gX10_37 C hR ob0 rf0_5 (dk DX10_swing 27 rfl) ?_
        obtain ⟨uq13, mq11, hzq12, hF⟩ := bnd_ex hF
        refine r_callVv (As := [.ref (G.2.1 + 16)]) (rest := []) C hR (C_Ma_copyFrom_4 l hl0 G mq8 _ _ hzq12) (by decide) (by decide) ob18 rfl wX10_285 rfl rfl (Nat.le_of_ble_eq_true rfl) hl.1 ⟨Nat.zero_le _, Nat.zero_le _⟩ (dk DX10_swing 28 rfl) (fun H locs hR => ?_)
        refine lv_iconst (v := (0 : Int32)) hx hb (dk DX10_swing 29 rfl) (by decide) ?_
        refine lv_istore_n (lv' := [(2, .int (0 : Int32)), (1, .int xq3), (0, .ref (G.2.1 + 0))]) hx hb (dk DX10_swing 30 rfl) rfl hl (by decide) rfl (fun ls hl => ?_)
        obtain ⟨k107_14, ek107_14, hF⟩ := lt_ex hF
        have J107 : ∀ (mq14 : Mem) (H : Heap) (locs : List Loc) (ls : Array Slot), lv_has ls 3 [(0, .ref (G.2.1 + 0))] → Rp G mr0 N0 mq14 s H locs → k107_14  mq14 = some (v, m') → W p l e (rmX 9 (ouI v)) s mid args below meth c H locs 0 0 (ZX below G mr0 N0 (ouI v) m' args s) (F0 mid 107 ls []) := by
          intro  mq14 H locs ls hl hR hF
          rw [ek107_14] at hF
          refine lv_aload_n hx hb (dk DX10_swing 53 rfl) rfl (lv_at hl 0 rfl) ?_
          refine gX10_41 C hR ob0 rf0_6 (dk DX10_swing 54 rfl) ?_
          refine gX10_225 C hR ob18 (dk DX10_swing 55 rfl) ?_
          cases hF
          exact x_iret C hrt hR (dk DX10_swing 56 rfl)
        have L61 : ∀ (nf : Nat) (xq16 : Int32) (mq15 : Mem) (H : Heap) (locs : List Loc) (ls : Array Slot), lv_has ls 3 [(0, .ref (G.2.1 + 0)), (1, .int xq3), (2, .int xq16)] → Rp G mr0 N0 mq15 s H locs → F_T_swing_L61 xq3 k107_14 nf xq16 mq15 = some (v, m') → W p l e (rmX 9 (ouI v)) s mid args below meth c H locs 0 0 (ZX below G mr0 N0 (ouI v) m' args s) (F0 mid 61 ls []) := by
          intro nf
          induction nf with
          | zero =>
            intro xq16 mq15 H locs ls hl hR hF
            rw [F_T_swing_L61] at hF
            cases hF
          | succ nf ihq18 =>
            intro xq16 mq15 H locs ls hl hR hF
            rw [F_T_swing_L61] at hF
            refine lv_iload_n hx hb (dk DX10_swing 31 rfl) rfl (lv_at hl 2 rfl) ?_
            refine lv_iload_n hx hb (dk DX10_swing 32 rfl) rfl (lv_at hl 1 rfl) ?_
            refine lv_icmp_ge (tgt := 107) hx hb (dk DX10_swing 33 rfl) (by decide) (fun c63 => ?_) (fun c63 => ?_)
            · have hF := if_t c63 hF
              exact J107 mq15 _ _ ls (lv_sub hl [0] rfl) hR hF
            · have hF := if_f c63 hF
              refine lv_iload_n hx hb (dk DX10_swing 34 rfl) rfl (lv_at hl 2 rfl) ?_
              refine lv_sipush (v := (400 : Int32)) hx hb (dk DX10_swing 35 rfl) (by decide) ?_
              refine lv_icmp_ge (tgt := 107) hx hb (dk DX10_swing 36 rfl) (by decide) (fun c70 => ?_) (fun c70 => ?_)
              · have hF := if_t c70 hF
                exact J107 mq15 _ _ ls (lv_sub hl [0] rfl) hR hF
              · have hF := if_f c70 hF
                refine lv_aload_n hx hb (dk DX10_swing 37 rfl) rfl (lv_at hl 0 rfl) ?_
                refine gX10_41 C hR ob0 rf0_6 (dk DX10_swing 38 rfl) ?_
                obtain ⟨zq21, mq19, hzq20, hF⟩ := bnd_ex hF
                refine r_callVi (As := []) (rest := []) C hR (C_Ma_isOn_2 l hl0 G mq15 _ _ hzq20) (by decide) (by decide) ob18 rfl wX10_215 rfl rfl (Nat.le_of_ble_eq_true rfl) hl.1 ⟨Nat.zero_le _, Nat.zero_le _⟩ (dk DX10_swing 39 rfl) (fun H locs hR => ?_)
                obtain ⟨k101_22, ek101_22, hF⟩ := lt_ex hF
                have J101 : ∀ (mq22 : Mem) (H : Heap) (locs : List Loc) (ls : Array Slot), lv_has ls 3 [(0, .ref (G.2.1 + 0)), (1, .int xq3), (2, .int xq16)] → Rp G mr0 N0 mq22 s H locs → k101_22  mq22 = some (v, m') → W p l e (rmX 9 (ouI v)) s mid args below meth c H locs 0 0 (ZX below G mr0 N0 (ouI v) m' args s) (F0 mid 101 ls []) := by
                  intro  mq22 H locs ls hl hR hF
                  rw [ek101_22] at hF
                  obtain ⟨xq23, exq23, hF⟩ := lt_ex hF
                  refine lv_iinc (v := xq23) (lv' := [(2, .int xq23), (0, .ref (G.2.1 + 0)), (1, .int xq3)]) hx hb (dk DX10_swing 51 rfl) hl (k := 2) rfl (by rw [exq23]; rfl) (by decide) rfl (fun ls hl => ?_)
                  refine lv_goto (tgt := 61) hx hb (dk DX10_swing 52 rfl) (by decide) ?_
                  exact ihq18 xq23 mq22 _ _ ls (lv_sub hl [1, 2, 0] rfl) hR hF
                refine z_ifeq (tgt := 101) hx hb (dk DX10_swing 40 rfl) (by decide) (fun c80 => ?_) (fun c80 => ?_)
                · have hF := if_f c80 hF
                  exact J101 mq19 _ _ ls (lv_sub hl [0, 1, 2] rfl) hR hF
                · have hF := if_t c80 hF
                  refine lv_aload_n hx hb (dk DX10_swing 41 rfl) rfl (lv_at hl 0 rfl) ?_
                  refine gX10_41 C hR ob0 rf0_6 (dk DX10_swing 42 rfl) ?_
                  refine lv_aload_n hx hb (dk DX10_swing 43 rfl) rfl (lv_at hl 0 rfl) ?_
                  refine gX10_31 C hR ob0 rf0_4 (dk DX10_swing 44 rfl) ?_
                  refine lv_aload_n hx hb (dk DX10_swing 45 rfl) rfl (lv_at hl 0 rfl) ?_
                  refine gX10_9 C hR ob0 rf0_0 (dk DX10_swing 46 rfl) ?_
                  refine lv_iload_n hx hb (dk DX10_swing 47 rfl) rfl (lv_at hl 2 rfl) ?_
                  obtain ⟨hq24, hF⟩ := ckB_ex hF
                  refine r_iald C hR ob1 hq24 (dk DX10_swing 48 rfl) ?_
                  refine lv_topi (fun xq25 exq25 => ?_)
                  have hF := lt_at exq25 hF
                  refine lv_iconst (v := (0 : Int32)) hx hb (dk DX10_swing 49 rfl) (by decide) ?_
                  obtain ⟨uq28, mq26, hzq27, hF⟩ := bnd_ex hF
                  refine r_callVv (As := [.ref (G.2.1 + 3), .int xq25, .int (b2i false)]) (rest := []) C hR (C_Ma_playSession_2 l hl0 G xq25 false mq19 _ _ hzq27) (by decide) (by decide) ob18 rfl wX10_253 rfl rfl (Nat.le_of_ble_eq_true rfl) hl.1 ⟨Nat.zero_le _, Nat.zero_le _⟩ (dk DX10_swing 50 rfl) (fun H locs hR => ?_)
                  exact J101 mq26 _ _ ls (lv_sub hl [0, 1, 2] rfl) hR hF
        exact L61 1000000 (0 : Int32) mq11 _ _ ls (lv_sub hl [2, 1, 0] rfl) hR hF
      · have hF := if_f c34 hF
        exact J37 mq8 _ _ ls (lv_sub hl [] rfl) hR hF
set_option maxHeartbeats 4000000 in
set_option maxRecDepth 100000 in
theorem C_T_table (l : Launch) (hl0 : l.stackTraces = false) (G : GG) (a1 : Int32) (a2 : Int32) (a3 : Int32) (a4 : Bool) (m0 : Mem) (v : Nat ⊕ Int32) (m' : Mem) (hF : F_T_table a1 a2 a3 a4 m0 = some (v, m')) : CtX l G mr0 N0 yX10_table cX10_table 8 (some .int) 9 [.ref (G.2.1 + 0), .int a1, .int a2, .int a3, .int (b2i a4)] m0 (ouI v) m' := by
  refine CtX_of hl0 (by decide) (Nat.le_of_ble_eq_true rfl) ?_
  intro p e s mid args below meth c ls C hrt hex hl hR
  have hx := C.1.1
  have hb := C.1.2.1
  have hl : lv_has ls 8 [(0, .ref (G.2.1 + 0)), (1, .int a1), (2, .int a2), (3, .int a3), (4, .int (b2i a4))] := hl
  unfold F_T_table at hF
  refine lv_aload_n hx hb (dk DX10_table 0 rfl) rfl (lv_at hl 0 rfl) ?_
  refine lv_iload_n hx hb (dk DX10_table 1 rfl) rfl (lv_at hl 1 rfl) ?_
  refine lv_aload_n hx hb (dk DX10_table 2 rfl) rfl (lv_at hl 0 rfl) ?_
  refine gX10_31 C hR ob0 rf0_4 (dk DX10_table 3 rfl) ?_
  refine gX10_167 C hR ob3 (dk DX10_table 4 rfl) ?_
  rcases bndX_ex hF with ⟨ke, mq1, hzq2, hF⟩ | ⟨uq3, mq1, hzq2, hF⟩
  · have hM := C_T_mustBeBelow l hl0 G a1 (gI m0 3 0) m0 (Sum.inl ke) mq1 hzq2
    rw [show ouV (Sum.inl ke) = (Sum.inl ke : Ou) from rfl] at hM
    cases hF
    exact x_passV (d := 9) (k := ke) (As := [.int a1, .int (gI m0 3 0)]) (rest := []) C hex hR hM (by decide) (by decide) ob0 rfl wX10_149 rfl rfl (Nat.le_of_ble_eq_true rfl) hl.1 (dk DX10_table 5 rfl)
  · have hM := C_T_mustBeBelow l hl0 G a1 (gI m0 3 0) m0 (Sum.inr uq3) mq1 hzq2
    rw [show ouV (Sum.inr uq3) = (Sum.inr none : Ou) from rfl] at hM
    refine x_callVv (As := [.int a1, .int (gI m0 3 0)]) (rest := []) C hR hM (by decide) (by decide) ob0 rfl wX10_149 rfl rfl (Nat.le_of_ble_eq_true rfl) hl.1 ⟨Nat.zero_le _, Nat.zero_le _⟩ (dk DX10_table 5 rfl) (fun H locs hR => ?_)
    refine lv_aload_n hx hb (dk DX10_table 6 rfl) rfl (lv_at hl 0 rfl) ?_
    refine lv_iload_n hx hb (dk DX10_table 7 rfl) rfl (lv_at hl 2 rfl) ?_
    refine lv_iconst (v := (4 : Int32)) hx hb (dk DX10_table 8 rfl) (by decide) ?_
    rcases bndX_ex hF with ⟨ke, mq4, hzq5, hF⟩ | ⟨uq6, mq4, hzq5, hF⟩
    · have hM := C_T_mustBeBelow l hl0 G a2 (4 : Int32) mq1 (Sum.inl ke) mq4 hzq5
      rw [show ouV (Sum.inl ke) = (Sum.inl ke : Ou) from rfl] at hM
      cases hF
      exact x_passV (d := 9) (k := ke) (As := [.int a2, .int (4 : Int32)]) (rest := []) C hex hR hM (by decide) (by decide) ob0 rfl wX10_149 rfl rfl (Nat.le_of_ble_eq_true rfl) hl.1 (dk DX10_table 9 rfl)
    · have hM := C_T_mustBeBelow l hl0 G a2 (4 : Int32) mq1 (Sum.inr uq6) mq4 hzq5
      rw [show ouV (Sum.inr uq6) = (Sum.inr none : Ou) from rfl] at hM
      refine x_callVv (As := [.int a2, .int (4 : Int32)]) (rest := []) C hR hM (by decide) (by decide) ob0 rfl wX10_149 rfl rfl (Nat.le_of_ble_eq_true rfl) hl.1 ⟨Nat.zero_le _, Nat.zero_le _⟩ (dk DX10_table 9 rfl) (fun H locs hR => ?_)
      refine lv_aload_n hx hb (dk DX10_table 10 rfl) rfl (lv_at hl 0 rfl) ?_
      refine lv_iload_n hx hb (dk DX10_table 11 rfl) rfl (lv_at hl 3 rfl) ?_
      refine lv_iconst (v := (2 : Int32)) hx hb (dk DX10_table 12 rfl) (by decide) ?_
      rcases bndX_ex hF with ⟨ke, mq7, hzq8, hF⟩ | ⟨uq9, mq7, hzq8, hF⟩
      · have hM := C_T_mustBeBelow l hl0 G a3 (2 : Int32) mq4 (Sum.inl ke) mq7 hzq8
        rw [show ouV (Sum.inl ke) = (Sum.inl ke : Ou) from rfl] at hM
        cases hF
        exact x_passV (d := 9) (k := ke) (As := [.int a3, .int (2 : Int32)]) (rest := []) C hex hR hM (by decide) (by decide) ob0 rfl wX10_149 rfl rfl (Nat.le_of_ble_eq_true rfl) hl.1 (dk DX10_table 13 rfl)
      · have hM := C_T_mustBeBelow l hl0 G a3 (2 : Int32) mq4 (Sum.inr uq9) mq7 hzq8
        rw [show ouV (Sum.inr uq9) = (Sum.inr none : Ou) from rfl] at hM
        refine x_callVv (As := [.int a3, .int (2 : Int32)]) (rest := []) C hR hM (by decide) (by decide) ob0 rfl wX10_149 rfl rfl (Nat.le_of_ble_eq_true rfl) hl.1 ⟨Nat.zero_le _, Nat.zero_le _⟩ (dk DX10_table 13 rfl) (fun H locs hR => ?_)
        refine lv_aload_n hx hb (dk DX10_table 14 rfl) rfl (lv_at hl 0 rfl) ?_
        refine gX10_31 C hR ob0 rf0_4 (dk DX10_table 15 rfl) ?_
        refine lv_iload_n hx hb (dk DX10_table 16 rfl) rfl (lv_at hl 1 rfl) ?_
        refine lv_iload_n hx hb (dk DX10_table 17 rfl) rfl (lv_at hl 2 rfl) ?_
        refine lv_iload_n hx hb (dk DX10_table 18 rfl) rfl (lv_at hl 3 rfl) ?_
        obtain ⟨xq12, mq10, hzq11, hF⟩ := bnd_ex hF
        refine r_callVi (As := [.int a1, .int a2, .int a3]) (rest := []) C hR (C_Gr_levelOf l hl0 G a1 a2 a3 mq7 _ _ hzq11) (by decide) (by decide) ob3 rfl wX10_187 rfl rfl (Nat.le_of_ble_eq_true rfl) hl.1 ⟨Nat.zero_le _, Nat.zero_le _⟩ (dk DX10_table 19 rfl) (fun H locs hR => ?_)
        refine lv_istore (lv' := [(5, .int xq12), (0, .ref (G.2.1 + 0)), (1, .int a1), (2, .int a2), (3, .int a3), (4, .int (b2i a4))]) hx hb (dk DX10_table 20 rfl) hl (by decide) rfl (fun ls hl => ?_)
        refine lv_iconst (v := (0 : Int32)) hx hb (dk DX10_table 21 rfl) (by decide) ?_
        refine lv_istore (lv' := [(6, .int (0 : Int32)), (5, .int xq12), (0, .ref (G.2.1 + 0)), (1, .int a1), (2, .int a2), (3, .int a3), (4, .int (b2i a4))]) hx hb (dk DX10_table 22 rfl) hl (by decide) rfl (fun ls hl => ?_)
        refine lv_iconst (v := (0 : Int32)) hx hb (dk DX10_table 23 rfl) (by decide) ?_
        refine lv_istore (lv' := [(7, .int (0 : Int32)), (6, .int (0 : Int32)), (5, .int xq12), (0, .ref (G.2.1 + 0)), (1, .int a1), (2, .int a2), (3, .int a3), (4, .int (b2i a4))]) hx hb (dk DX10_table 24 rfl) hl (by decide) rfl (fun ls hl => ?_)
        have L42 : ∀ (nf : Nat) (xq14 : Int32) (xq15 : Int32) (mq13 : Mem) (H : Heap) (locs : List Loc) (ls : Array Slot), lv_has ls 8 [(0, .ref (G.2.1 + 0)), (1, .int a1), (4, .int (b2i a4)), (5, .int xq12), (6, .int xq14), (7, .int xq15)] → Rp G mr0 N0 mq13 s H locs → F_T_table_L42 a1 a4 xq12 nf xq14 xq15 mq13 = some (v, m') → W p l e (rmX 9 (ouI v)) s mid args below meth c H locs 0 0 (ZX below G mr0 N0 (ouI v) m' args s) (F0 mid 42 ls []) := by
          intro nf
          induction nf with
          | zero =>
            intro xq14 xq15 mq13 H locs ls hl hR hF
            rw [F_T_table_L42] at hF
            cases hF
          | succ nf ihq17 =>
            intro xq14 xq15 mq13 H locs ls hl hR hF
            rw [F_T_table_L42] at hF
            refine lv_iload hx hb (dk DX10_table 25 rfl) (lv_at hl 5 rfl) ?_
            refine lv_iconst (v := (4 : Int32)) hx hb (dk DX10_table 26 rfl) (by decide) ?_
            refine lv_icmp_ge (tgt := 91) hx hb (dk DX10_table 27 rfl) (by decide) (fun c45 => ?_) (fun c45 => ?_)
            · have hF := if_t c45 hF
              refine lv_iload hx hb (dk DX10_table 48 rfl) (lv_at hl 4 rfl) ?_
              cases hF
              exact x_iret C hrt hR (dk DX10_table 49 rfl)
            · have hF := if_f c45 hF
              refine lv_iload hx hb (dk DX10_table 28 rfl) (lv_at hl 4 rfl) ?_
              refine lv_iload hx hb (dk DX10_table 29 rfl) (lv_at hl 2 rfl) ?_
              obtain ⟨k82_19, ek82_19, hF⟩ := lt_ex hF
              have J82 : ∀ (xq19 : Int32) (mq18 : Mem) (H : Heap) (locs : List Loc) (ls : Array Slot), lv_has ls 8 [(0, .ref (G.2.1 + 0)), (1, .int a1), (4, .int (b2i a4)), (5, .int xq12), (7, .int xq15)] → Rp G mr0 N0 mq18 s H locs → k82_19 xq19 mq18 = some (v, m') → W p l e (rmX 9 (ouI v)) s mid args below meth c H locs 0 0 (ZX below G mr0 N0 (ouI v) m' args s) (F0 mid 82 ls [.int xq19, .int xq14]) := by
                intro xq19 mq18 H locs ls hl hR hF
                rw [ek82_19] at hF
                refine lv_iadd hx hb (dk DX10_table 44 rfl) ?_
                refine lv_topi (fun xq20 exq20 => ?_)
                have hF := lt_at exq20 hF
                refine lv_istore (lv' := [(6, .int xq20), (0, .ref (G.2.1 + 0)), (1, .int a1), (4, .int (b2i a4)), (5, .int xq12), (7, .int xq15)]) hx hb (dk DX10_table 45 rfl) hl (by decide) rfl (fun ls hl => ?_)
                obtain ⟨xq21, exq21, hF⟩ := lt_ex hF
                refine lv_iinc (v := xq21) (lv' := [(7, .int xq21), (6, .int xq20), (0, .ref (G.2.1 + 0)), (1, .int a1), (4, .int (b2i a4)), (5, .int xq12)]) hx hb (dk DX10_table 46 rfl) hl (k := 5) rfl (by rw [exq21]; rfl) (by decide) rfl (fun ls hl => ?_)
                refine lv_goto (tgt := 42) hx hb (dk DX10_table 47 rfl) (by decide) ?_
                exact ihq17 xq20 xq21 mq18 _ _ ls (lv_sub hl [2, 3, 4, 5, 1, 0] rfl) hR hF
              refine z_ifeq (tgt := 70) hx hb (dk DX10_table 30 rfl) (by decide) (fun c52 => ?_) (fun c52 => ?_)
              · have hF := if_f c52 hF
                refine lv_aload_n hx hb (dk DX10_table 38 rfl) rfl (lv_at hl 0 rfl) ?_
                refine gX10_31 C hR ob0 rf0_4 (dk DX10_table 39 rfl) ?_
                refine lv_iload_n hx hb (dk DX10_table 40 rfl) rfl (lv_at hl 1 rfl) ?_
                refine lv_iload hx hb (dk DX10_table 41 rfl) (lv_at hl 3 rfl) ?_
                refine lv_iload hx hb (dk DX10_table 42 rfl) (lv_at hl 5 rfl) ?_
                obtain ⟨xq24, mq22, hzq23, hF⟩ := bnd_ex hF
                refine r_callVi (As := [.int a1, .int xq12, .int xq15]) (rest := [.int xq14]) C hR (C_Gr_runsIn l hl0 G a1 xq12 xq15 mq13 _ _ hzq23) (by decide) (by decide) ob3 rfl wX10_194 rfl rfl (Nat.le_of_ble_eq_true rfl) hl.1 ⟨Nat.zero_le _, Nat.zero_le _⟩ (dk DX10_table 43 rfl) (fun H locs hR => ?_)
                exact J82 xq24 mq22 _ _ ls (lv_sub hl [0, 1, 2, 3, 5] rfl) hR hF
              · have hF := if_t c52 hF
                refine lv_aload_n hx hb (dk DX10_table 31 rfl) rfl (lv_at hl 0 rfl) ?_
                refine gX10_31 C hR ob0 rf0_4 (dk DX10_table 32 rfl) ?_
                refine lv_iload_n hx hb (dk DX10_table 33 rfl) rfl (lv_at hl 1 rfl) ?_
                refine lv_iload hx hb (dk DX10_table 34 rfl) (lv_at hl 3 rfl) ?_
                refine lv_iload hx hb (dk DX10_table 35 rfl) (lv_at hl 5 rfl) ?_
                obtain ⟨xq27, mq25, hzq26, hF⟩ := bnd_ex hF
                refine r_callVi (As := [.int a1, .int xq12, .int xq15]) (rest := [.int xq14]) C hR (C_Gr_outsIn l hl0 G a1 xq12 xq15 mq13 _ _ hzq26) (by decide) (by decide) ob3 rfl wX10_191 rfl rfl (Nat.le_of_ble_eq_true rfl) hl.1 ⟨Nat.zero_le _, Nat.zero_le _⟩ (dk DX10_table 36 rfl) (fun H locs hR => ?_)
                refine lv_goto (tgt := 82) hx hb (dk DX10_table 37 rfl) (by decide) ?_
                exact J82 xq27 mq25 _ _ ls (lv_sub hl [0, 1, 2, 3, 5] rfl) hR hF
        exact L42 1000000 (0 : Int32) (0 : Int32) mq10 _ _ ls (lv_sub hl [3, 4, 7, 2, 1, 0] rfl) hR hF
set_option maxHeartbeats 4000000 in
set_option maxRecDepth 100000 in
theorem C_T_target (l : Launch) (hl0 : l.stackTraces = false) (G : GG) (a1 : Bool) (m0 : Mem) (v : Nat ⊕ Int32) (m' : Mem) (hF : F_T_target a1 m0 = some (v, m')) : CtX l G mr0 N0 yX10_target cX10_target 4 (some .int) 9 [.ref (G.2.1 + 0), .int (b2i a1)] m0 (ouI v) m' := by
  refine CtX_of hl0 (by decide) (Nat.le_of_ble_eq_true rfl) ?_
  intro p e s mid args below meth c ls C hrt hex hl hR
  have hx := C.1.1
  have hb := C.1.2.1
  have hl : lv_has ls 4 [(0, .ref (G.2.1 + 0)), (1, .int (b2i a1))] := hl
  unfold F_T_target at hF
  refine lv_aload_n hx hb (dk DX10_target 0 rfl) rfl (lv_at hl 0 rfl) ?_
  rcases bndX_ex hF with ⟨ke, mq1, hzq2, hF⟩ | ⟨uq3, mq1, hzq2, hF⟩
  · have hM := C_T_mustBeChase l hl0 G m0 (Sum.inl ke) mq1 hzq2
    rw [show ouV (Sum.inl ke) = (Sum.inl ke : Ou) from rfl] at hM
    cases hF
    exact x_passV (d := 9) (k := ke) (As := []) (rest := []) C hex hR hM (by decide) (by decide) ob0 rfl wX10_260 rfl rfl (Nat.le_of_ble_eq_true rfl) hl.1 (dk DX10_target 1 rfl)
  · have hM := C_T_mustBeChase l hl0 G m0 (Sum.inr uq3) mq1 hzq2
    rw [show ouV (Sum.inr uq3) = (Sum.inr none : Ou) from rfl] at hM
    refine x_callVv (As := []) (rest := []) C hR hM (by decide) (by decide) ob0 rfl wX10_260 rfl rfl (Nat.le_of_ble_eq_true rfl) hl.1 ⟨Nat.zero_le _, Nat.zero_le _⟩ (dk DX10_target 1 rfl) (fun H locs hR => ?_)
    refine lv_iconst (v := (1 : Int32)) hx hb (dk DX10_target 2 rfl) (by decide) ?_
    refine lv_aload_n hx hb (dk DX10_target 3 rfl) rfl (lv_at hl 0 rfl) ?_
    refine gX10_37 C hR ob0 rf0_5 (dk DX10_target 4 rfl) ?_
    refine lv_aload_n hx hb (dk DX10_target 5 rfl) rfl (lv_at hl 0 rfl) ?_
    refine gX10_37 C hR ob0 rf0_5 (dk DX10_target 6 rfl) ?_
    obtain ⟨xq6, mq4, hzq5, hF⟩ := bnd_ex hF
    refine r_callVi (As := []) (rest := [.ref (G.2.1 + 16), .int (1 : Int32)]) C hR (C_Ma_batting l hl0 G mq1 _ _ hzq5) (by decide) (by decide) ob16 rfl wX10_219 rfl rfl (Nat.le_of_ble_eq_true rfl) hl.1 ⟨Nat.zero_le _, Nat.zero_le _⟩ (dk DX10_target 7 rfl) (fun H locs hR => ?_)
    obtain ⟨xq9, mq7, hzq8, hF⟩ := bnd_ex hF
    refine r_callVi (As := [.int xq6]) (rest := [.int (1 : Int32)]) C hR (C_Ma_leadOf l hl0 G xq6 mq4 _ _ hzq8) (by decide) (by decide) ob16 rfl wX10_257 rfl rfl (Nat.le_of_ble_eq_true rfl) hl.1 ⟨Nat.zero_le _, Nat.zero_le _⟩ (dk DX10_target 8 rfl) (fun H locs hR => ?_)
    refine lv_isub hx hb (dk DX10_target 9 rfl) ?_
    refine lv_topi (fun xq10 exq10 => ?_)
    have hF := lt_at exq10 hF
    refine lv_istore_n (lv' := [(2, .int xq10), (0, .ref (G.2.1 + 0)), (1, .int (b2i a1))]) hx hb (dk DX10_target 10 rfl) rfl hl (by decide) rfl (fun ls hl => ?_)
    refine lv_aload_n hx hb (dk DX10_target 11 rfl) rfl (lv_at hl 1 rfl) ?_
    refine gX10_31 C hR ob0 rf0_4 (dk DX10_target 12 rfl) ?_
    refine gX10_167 C hR ob3 (dk DX10_target 13 rfl) ?_
    refine lv_aload_n hx hb (dk DX10_target 14 rfl) rfl (lv_at hl 1 rfl) ?_
    refine gX10_37 C hR ob0 rf0_5 (dk DX10_target 15 rfl) ?_
    refine gX10_203 C hR ob16 (dk DX10_target 16 rfl) ?_
    refine lv_isub hx hb (dk DX10_target 17 rfl) ?_
    refine lv_topi (fun xq11 exq11 => ?_)
    have hF := lt_at exq11 hF
    refine lv_istore_n (lv' := [(3, .int xq11), (2, .int xq10), (0, .ref (G.2.1 + 0)), (1, .int (b2i a1))]) hx hb (dk DX10_target 18 rfl) rfl hl (by decide) rfl (fun ls hl => ?_)
    refine lv_iload_n hx hb (dk DX10_target 19 rfl) rfl (lv_at hl 3 rfl) ?_
    refine z_ifeq (tgt := 45) hx hb (dk DX10_target 20 rfl) (by decide) (fun c38 => ?_) (fun c38 => ?_)
    · have hF := if_f c38 hF
      refine lv_iload_n hx hb (dk DX10_target 23 rfl) rfl (lv_at hl 1 rfl) ?_
      cases hF
      exact x_iret C hrt hR (dk DX10_target 24 rfl)
    · have hF := if_t c38 hF
      refine lv_iload_n hx hb (dk DX10_target 21 rfl) rfl (lv_at hl 0 rfl) ?_
      refine lv_if_gt (tgt := 47) hx hb (dk DX10_target 22 rfl) (by decide) (fun c42 => ?_) (fun c42 => ?_)
      · have hF := if_t c42 hF
        refine lv_iload_n hx hb (dk DX10_target 25 rfl) rfl (lv_at hl 1 rfl) ?_
        refine lv_iload_n hx hb (dk DX10_target 26 rfl) rfl (lv_at hl 0 rfl) ?_
        refine lv_iadd hx hb (dk DX10_target 27 rfl) ?_
        refine lv_iconst (v := (1 : Int32)) hx hb (dk DX10_target 28 rfl) (by decide) ?_
        refine lv_isub hx hb (dk DX10_target 29 rfl) ?_
        refine lv_iload_n hx hb (dk DX10_target 30 rfl) rfl (lv_at hl 0 rfl) ?_
        obtain ⟨hq12, hF⟩ := ckB_ex hF
        refine lv_idiv hx hb (dk DX10_target 31 rfl) (by simpa using hq12) ?_
        cases hF
        exact x_iret C hrt hR (dk DX10_target 32 rfl)
      · have hF := if_f c42 hF
        refine lv_iload_n hx hb (dk DX10_target 23 rfl) rfl (lv_at hl 1 rfl) ?_
        cases hF
        exact x_iret C hrt hR (dk DX10_target 24 rfl)
set_option maxHeartbeats 4000000 in
set_option maxRecDepth 100000 in
theorem C_Ma_begin (l : Launch) (hl0 : l.stackTraces = false) (G : GG) (a1 : Int32) (m0 : Mem) (v : Unit) (m' : Mem) (hF : F_Ma_begin a1 m0 = some (v, m')) : Ct l G mr0 N0 yX5_begin cX5_begin 2 none 1 [.ref (G.2.1 + 16), .int a1] m0 none m' := by
  refine Ct_of hl0 (by decide) (Nat.le_of_ble_eq_true rfl) ?_
  intro p e s mid args below meth c ls C hrt hl hR
  have hx := C.1.1
  have hb := C.1.2.1
  have hl : lv_has ls 2 [(0, .ref (G.2.1 + 16)), (1, .int a1)] := hl
  unfold F_Ma_begin at hF
  refine lv_aload_n hx hb (dk DX5_begin 0 rfl) rfl (lv_at hl 0 rfl) ?_
  refine lv_iload_n hx hb (dk DX5_begin 1 rfl) rfl (lv_at hl 1 rfl) ?_
  refine pX5_9 (x := a1) C hR ob16 (dk DX5_begin 2 rfl) (fun H locs hR => ?_)
  obtain ⟨mq1, emq1, hF⟩ := lt_ex hF
  have hR := Rp_at emq1 hR
  refine lv_aload_n hx hb (dk DX5_begin 3 rfl) rfl (lv_at hl 0 rfl) ?_
  refine lv_iconst (v := (1 : Int32)) hx hb (dk DX5_begin 4 rfl) (by decide) ?_
  refine pX5_31 (x := true) C hR ob16 (dk DX5_begin 5 rfl) (fun H locs hR => ?_)
  obtain ⟨mq2, emq2, hF⟩ := lt_ex hF
  have hR := Rp_at emq2 hR
  cases hF
  exact r_vret C hrt hR (dk DX5_begin 6 rfl)
set_option maxHeartbeats 4000000 in
set_option maxRecDepth 100000 in
theorem C_T_toss (l : Launch) (hl0 : l.stackTraces = false) (G : GG) (a1 : Int32) (m0 : Mem) (v : Nat ⊕ Int32) (m' : Mem) (hF : F_T_toss a1 m0 = some (v, m')) : CtX l G mr0 N0 yX10_toss cX10_toss 2 (some .int) 9 [.ref (G.2.1 + 0), .int a1] m0 (ouI v) m' := by
  refine CtX_of hl0 (by decide) (Nat.le_of_ble_eq_true rfl) ?_
  intro p e s mid args below meth c ls C hrt hex hl hR
  have hx := C.1.1
  have hb := C.1.2.1
  have hl : lv_has ls 2 [(0, .ref (G.2.1 + 0)), (1, .int a1)] := hl
  unfold F_T_toss at hF
  refine lv_aload_n hx hb (dk DX10_toss 0 rfl) rfl (lv_at hl 0 rfl) ?_
  refine lv_iload_n hx hb (dk DX10_toss 1 rfl) rfl (lv_at hl 1 rfl) ?_
  refine lv_iconst (v := (2 : Int32)) hx hb (dk DX10_toss 2 rfl) (by decide) ?_
  rcases bndX_ex hF with ⟨ke, mq1, hzq2, hF⟩ | ⟨uq3, mq1, hzq2, hF⟩
  · have hM := C_T_mustBeBelow l hl0 G a1 (2 : Int32) m0 (Sum.inl ke) mq1 hzq2
    rw [show ouV (Sum.inl ke) = (Sum.inl ke : Ou) from rfl] at hM
    cases hF
    exact x_passV (d := 9) (k := ke) (As := [.int a1, .int (2 : Int32)]) (rest := []) C hex hR hM (by decide) (by decide) ob0 rfl wX10_149 rfl rfl (Nat.le_of_ble_eq_true rfl) hl.1 (dk DX10_toss 3 rfl)
  · have hM := C_T_mustBeBelow l hl0 G a1 (2 : Int32) m0 (Sum.inr uq3) mq1 hzq2
    rw [show ouV (Sum.inr uq3) = (Sum.inr none : Ou) from rfl] at hM
    refine x_callVv (As := [.int a1, .int (2 : Int32)]) (rest := []) C hR hM (by decide) (by decide) ob0 rfl wX10_149 rfl rfl (Nat.le_of_ble_eq_true rfl) hl.1 ⟨Nat.zero_le _, Nat.zero_le _⟩ (dk DX10_toss 3 rfl) (fun H locs hR => ?_)
    refine lv_aload_n hx hb (dk DX10_toss 4 rfl) rfl (lv_at hl 0 rfl) ?_
    refine gX10_37 C hR ob0 rf0_5 (dk DX10_toss 5 rfl) ?_
    refine gX10_93 C hR ob16 (dk DX10_toss 6 rfl) ?_
    refine lv_iconst (v := (-1 : Int32)) hx hb (dk DX10_toss 7 rfl) (by decide) ?_
    refine lv_icmp_eq (tgt := 27) hx hb (dk DX10_toss 8 rfl) (by decide) (fun c14 => ?_) (fun c14 => ?_)
    · have hF := if_t c14 hF
      refine lv_aload_n hx hb (dk DX10_toss 14 rfl) rfl (lv_at hl 0 rfl) ?_
      refine gX10_47 C hR ob0 rf0_7 (dk DX10_toss 15 rfl) ?_
      refine lv_aload_n hx hb (dk DX10_toss 16 rfl) rfl (lv_at hl 0 rfl) ?_
      refine gX10_37 C hR ob0 rf0_5 (dk DX10_toss 17 rfl) ?_
      obtain ⟨uq6, mq4, hzq5, hF⟩ := bnd_ex hF
      refine r_callVv (As := [.ref (G.2.1 + 16)]) (rest := []) C hR (C_Pa_remember l hl0 G mq1 _ _ hzq5) (by decide) (by decide) ob20 rfl wX10_240 rfl rfl (Nat.le_of_ble_eq_true rfl) hl.1 ⟨Nat.zero_le _, Nat.zero_le _⟩ (dk DX10_toss 18 rfl) (fun H locs hR => ?_)
      refine lv_aload_n hx hb (dk DX10_toss 19 rfl) rfl (lv_at hl 0 rfl) ?_
      refine gX10_37 C hR ob0 rf0_5 (dk DX10_toss 20 rfl) ?_
      refine lv_iload_n hx hb (dk DX10_toss 21 rfl) rfl (lv_at hl 1 rfl) ?_
      obtain ⟨uq9, mq7, hzq8, hF⟩ := bnd_ex hF
      refine r_callVv (As := [.int a1]) (rest := []) C hR (C_Ma_begin l hl0 G a1 mq4 _ _ hzq8) (by decide) (by decide) ob16 rfl wX10_244 rfl rfl (Nat.le_of_ble_eq_true rfl) hl.1 ⟨Nat.zero_le _, Nat.zero_le _⟩ (dk DX10_toss 22 rfl) (fun H locs hR => ?_)
      refine lv_aload_n hx hb (dk DX10_toss 23 rfl) rfl (lv_at hl 0 rfl) ?_
      refine gX10_31 C hR ob0 rf0_4 (dk DX10_toss 24 rfl) ?_
      refine lv_iconst (v := (0 : Int32)) hx hb (dk DX10_toss 25 rfl) (by decide) ?_
      refine lv_iconst (v := (0 : Int32)) hx hb (dk DX10_toss 26 rfl) (by decide) ?_
      refine lv_iload_n hx hb (dk DX10_toss 27 rfl) rfl (lv_at hl 1 rfl) ?_
      obtain ⟨xq12, mq10, hzq11, hF⟩ := bnd_ex hF
      refine r_callVi (As := [.int (0 : Int32), .int (0 : Int32), .int a1]) (rest := []) C hR (C_Gr_levelOf l hl0 G (0 : Int32) (0 : Int32) a1 mq7 _ _ hzq11) (by decide) (by decide) ob3 rfl wX10_187 rfl rfl (Nat.le_of_ble_eq_true rfl) hl.1 ⟨Nat.zero_le _, Nat.zero_le _⟩ (dk DX10_toss 28 rfl) (fun H locs hR => ?_)
      cases hF
      exact x_iret C hrt hR (dk DX10_toss 29 rfl)
    · have hF := if_f c14 hF
      cases hF
      exact r_throw (d := 9) (k := 0) C hex hR tX10_239 strm_X10_237 (by decide) (Nat.le_of_ble_eq_true rfl) hl.1 (dk DX10_toss 9 rfl) (dk DX10_toss 10 rfl) (dk DX10_toss 11 rfl) (dk DX10_toss 12 rfl) (dk DX10_toss 13 rfl)
set_option maxHeartbeats 4000000 in
set_option maxRecDepth 100000 in
theorem C_T_turning (l : Launch) (hl0 : l.stackTraces = false) (G : GG) (a1 : Bool) (m0 : Mem) (v : Nat ⊕ Int32) (m' : Mem) (hF : F_T_turning a1 m0 = some (v, m')) : CtX l G mr0 N0 yX10_turning cX10_turning 11 (some .int) 291 [.ref (G.2.1 + 0), .int (b2i a1)] m0 (ouI v) m' := by
  refine CtX_of hl0 (by decide) (Nat.le_of_ble_eq_true rfl) ?_
  intro p e s mid args below meth c ls C hrt hex hl hR
  have hx := C.1.1
  have hb := C.1.2.1
  have hl : lv_has ls 11 [(0, .ref (G.2.1 + 0)), (1, .int (b2i a1))] := hl
  unfold F_T_turning at hF
  refine lv_aload_n hx hb (dk DX10_turning 0 rfl) rfl (lv_at hl 0 rfl) ?_
  rcases bndX_ex hF with ⟨ke, mq1, hzq2, hF⟩ | ⟨uq3, mq1, hzq2, hF⟩
  · have hM := C_T_mustBeOn l hl0 G m0 (Sum.inl ke) mq1 hzq2
    rw [show ouV (Sum.inl ke) = (Sum.inl ke : Ou) from rfl] at hM
    cases hF
    exact x_passV (d := 291) (k := ke) (As := []) (rest := []) C hex hR hM (by decide) (by decide) ob0 rfl wX10_247 rfl rfl (Nat.le_of_ble_eq_true rfl) hl.1 (dk DX10_turning 1 rfl)
  · have hM := C_T_mustBeOn l hl0 G m0 (Sum.inr uq3) mq1 hzq2
    rw [show ouV (Sum.inr uq3) = (Sum.inr none : Ou) from rfl] at hM
    refine x_callVv (As := []) (rest := []) C hR hM (by decide) (by decide) ob0 rfl wX10_247 rfl rfl (Nat.le_of_ble_eq_true rfl) hl.1 ⟨Nat.zero_le _, Nat.zero_le _⟩ (dk DX10_turning 1 rfl) (fun H locs hR => ?_)
    refine lv_aload_n hx hb (dk DX10_turning 2 rfl) rfl (lv_at hl 0 rfl) ?_
    refine gX10_37 C hR ob0 rf0_5 (dk DX10_turning 3 rfl) ?_
    obtain ⟨xq6, mq4, hzq5, hF⟩ := bnd_ex hF
    refine r_callVi (As := []) (rest := []) C hR (C_Ma_batting l hl0 G mq1 _ _ hzq5) (by decide) (by decide) ob16 rfl wX10_219 rfl rfl (Nat.le_of_ble_eq_true rfl) hl.1 ⟨Nat.zero_le _, Nat.zero_le _⟩ (dk DX10_turning 4 rfl) (fun H locs hR => ?_)
    refine lv_aload_n hx hb (dk DX10_turning 5 rfl) rfl (lv_at hl 0 rfl) ?_
    refine gX10_37 C hR ob0 rf0_5 (dk DX10_turning 6 rfl) ?_
    refine gX10_93 C hR ob16 (dk DX10_turning 7 rfl) ?_
    obtain ⟨k26_8, ek26_8, hF⟩ := lt_ex hF
    have J26 : ∀ (zq8 : Bool) (mq7 : Mem) (H : Heap) (locs : List Loc) (ls : Array Slot), lv_has ls 11 [(0, .ref (G.2.1 + 0)), (1, .int (b2i a1))] → Rp G mr0 N0 mq7 s H locs → k26_8 zq8 mq7 = some (v, m') → W p l e (rmX 291 (ouI v)) s mid args below meth c H locs 0 0 (ZX below G mr0 N0 (ouI v) m' args s) (F0 mid 26 ls [.int (b2i zq8)]) := by
      intro zq8 mq7 H locs ls hl hR hF
      rw [ek26_8] at hF
      refine lv_istore_n (lv' := [(2, .int (b2i zq8)), (0, .ref (G.2.1 + 0)), (1, .int (b2i a1))]) hx hb (dk DX10_turning 12 rfl) rfl hl (by decide) rfl (fun ls hl => ?_)
      refine lv_iconst (v := (0 : Int32)) hx hb (dk DX10_turning 13 rfl) (by decide) ?_
      refine lv_istore_n (lv' := [(3, .int (0 : Int32)), (2, .int (b2i zq8)), (0, .ref (G.2.1 + 0)), (1, .int (b2i a1))]) hx hb (dk DX10_turning 14 rfl) rfl hl (by decide) rfl (fun ls hl => ?_)
      refine lv_lconst (v := (0 : Int64)) hx hb (dk DX10_turning 15 rfl) (by decide) ?_
      refine lv_lstore (lv' := [(4, .long (0 : Int64)), (3, .int (0 : Int32)), (2, .int (b2i zq8)), (0, .ref (G.2.1 + 0)), (1, .int (b2i a1))]) hx hb (dk DX10_turning 16 rfl) hl (by decide) rfl (fun ls hl => ?_)
      refine lv_iconst (v := (0 : Int32)) hx hb (dk DX10_turning 17 rfl) (by decide) ?_
      refine lv_istore (lv' := [(6, .int (0 : Int32)), (4, .long (0 : Int64)), (3, .int (0 : Int32)), (2, .int (b2i zq8)), (0, .ref (G.2.1 + 0)), (1, .int (b2i a1))]) hx hb (dk DX10_turning 18 rfl) hl (by decide) rfl (fun ls hl => ?_)
      have L35 : ∀ (nf : Nat) (xq10 : Int32) (yq11 : Int64) (xq12 : Int32) (mq9 : Mem) (H : Heap) (locs : List Loc) (ls : Array Slot), lv_has ls 11 [(0, .ref (G.2.1 + 0)), (1, .int (b2i a1)), (2, .int (b2i zq8)), (3, .int xq10), (4, .long yq11), (6, .int xq12)] → Rp G mr0 N0 mq9 s H locs → F_T_turning_L35 a1 zq8 nf xq10 yq11 xq12 mq9 = some (v, m') → W p l e (rmX 291 (ouI v)) s mid args below meth c H locs 0 0 (ZX below G mr0 N0 (ouI v) m' args s) (F0 mid 35 ls []) := by
        intro nf
        induction nf with
        | zero =>
          intro xq10 yq11 xq12 mq9 H locs ls hl hR hF
          rw [F_T_turning_L35] at hF
          cases hF
        | succ nf ihq14 =>
          intro xq10 yq11 xq12 mq9 H locs ls hl hR hF
          rw [F_T_turning_L35] at hF
          refine lv_iload hx hb (dk DX10_turning 19 rfl) (lv_at hl 5 rfl) ?_
          refine lv_iconst (v := (4 : Int32)) hx hb (dk DX10_turning 20 rfl) (by decide) ?_
          refine lv_icmp_ge (tgt := 118) hx hb (dk DX10_turning 21 rfl) (by decide) (fun c38 => ?_) (fun c38 => ?_)
          · have hF := if_t c38 hF
            refine lv_iload_n hx hb (dk DX10_turning 59 rfl) rfl (lv_at hl 3 rfl) ?_
            cases hF
            exact x_iret C hrt hR (dk DX10_turning 60 rfl)
          · have hF := if_f c38 hF
            refine lv_aload_n hx hb (dk DX10_turning 22 rfl) rfl (lv_at hl 0 rfl) ?_
            refine lv_iload hx hb (dk DX10_turning 23 rfl) (lv_at hl 5 rfl) ?_
            obtain ⟨yq17, mq15, hzq16, hF⟩ := bnd_ex hF
            refine r_callVl (As := [.int xq12]) (rest := []) C hR (C_T_waysAfter l hl0 G xq12 mq9 _ _ hzq16) (by decide) (by decide) ob0 rfl wX10_302 rfl rfl (Nat.le_of_ble_eq_true rfl) hl.1 ⟨Nat.zero_le _, Nat.zero_le _⟩ (dk DX10_turning 24 rfl) (fun H locs hR => ?_)
            refine lv_lstore (lv' := [(7, .long yq17), (0, .ref (G.2.1 + 0)), (1, .int (b2i a1)), (2, .int (b2i zq8)), (3, .int xq10), (4, .long yq11), (6, .int xq12)]) hx hb (dk DX10_turning 25 rfl) hl (by decide) rfl (fun ls hl => ?_)
            refine lv_aload_n hx hb (dk DX10_turning 26 rfl) rfl (lv_at hl 1 rfl) ?_
            refine gX10_23 C hR ob0 rf0_3 (dk DX10_turning 27 rfl) ?_
            refine lv_lload hx hb (dk DX10_turning 28 rfl) (lv_at hl 0 rfl) ?_
            refine lv_aload_n hx hb (dk DX10_turning 29 rfl) rfl (lv_at hl 1 rfl) ?_
            refine gX10_37 C hR ob0 rf0_5 (dk DX10_turning 30 rfl) ?_
            refine gX10_203 C hR ob16 (dk DX10_turning 31 rfl) ?_
            refine lv_iconst (v := (1 : Int32)) hx hb (dk DX10_turning 32 rfl) (by decide) ?_
            refine lv_iadd hx hb (dk DX10_turning 33 rfl) ?_
            refine lv_iload_n hx hb (dk DX10_turning 34 rfl) rfl (lv_at hl 3 rfl) ?_
            refine lv_aload_n hx hb (dk DX10_turning 35 rfl) rfl (lv_at hl 1 rfl) ?_
            refine gX10_31 C hR ob0 rf0_4 (dk DX10_turning 36 rfl) ?_
            refine gX10_200 C hR ob3 (dk DX10_turning 37 rfl) ?_
            obtain ⟨yq20, mq18, hzq19, hF⟩ := bnd_ex hF
            refine r_callVl (As := [.long yq17, .int ((gI mq15 16 3) + (1 : Int32)), .int (b2i zq8), .int (gI mq15 3 5)]) (rest := []) C hR (C_Od_valueOf l hl0 G yq17 ((gI mq15 16 3) + (1 : Int32)) zq8 (gI mq15 3 5) mq15 _ _ hzq19) (by decide) (by decide) ob2 rfl wX10_310 rfl rfl (Nat.le_of_ble_eq_true rfl) hl.1 ⟨Nat.zero_le _, Nat.zero_le _⟩ (dk DX10_turning 38 rfl) (fun H locs hR => ?_)
            refine lv_lstore (lv' := [(9, .long yq20), (7, .long yq17), (0, .ref (G.2.1 + 0)), (1, .int (b2i a1)), (2, .int (b2i zq8)), (3, .int xq10), (4, .long yq11), (6, .int xq12)]) hx hb (dk DX10_turning 39 rfl) hl (by decide) rfl (fun ls hl => ?_)
            refine lv_iload hx hb (dk DX10_turning 40 rfl) (lv_at hl 7 rfl) ?_
            obtain ⟨k112_23, ek112_23, hF⟩ := lt_ex hF
            have J112 : ∀ (xq22 : Int32) (yq23 : Int64) (mq21 : Mem) (H : Heap) (locs : List Loc) (ls : Array Slot), lv_has ls 11 [(0, .ref (G.2.1 + 0)), (1, .int (b2i a1)), (2, .int (b2i zq8)), (3, .int xq22), (4, .long yq23), (6, .int xq12)] → Rp G mr0 N0 mq21 s H locs → k112_23 xq22 yq23 mq21 = some (v, m') → W p l e (rmX 291 (ouI v)) s mid args below meth c H locs 0 0 (ZX below G mr0 N0 (ouI v) m' args s) (F0 mid 112 ls []) := by
              intro xq22 yq23 mq21 H locs ls hl hR hF
              rw [ek112_23] at hF
              obtain ⟨xq24, exq24, hF⟩ := lt_ex hF
              refine lv_iinc (v := xq24) (lv' := [(6, .int xq24), (0, .ref (G.2.1 + 0)), (1, .int (b2i a1)), (2, .int (b2i zq8)), (3, .int xq22), (4, .long yq23)]) hx hb (dk DX10_turning 57 rfl) hl (k := 5) rfl (by rw [exq24]; rfl) (by decide) rfl (fun ls hl => ?_)
              refine lv_goto (tgt := 35) hx hb (dk DX10_turning 58 rfl) (by decide) ?_
              exact ihq14 xq22 yq23 xq24 mq21 _ _ ls (lv_sub hl [1, 2, 3, 4, 5, 0] rfl) hR hF
            obtain ⟨k105_25, ek105_25, hF⟩ := lt_ex hF
            have J105 : ∀ (mq25 : Mem) (H : Heap) (locs : List Loc) (ls : Array Slot), lv_has ls 11 [(0, .ref (G.2.1 + 0)), (1, .int (b2i a1)), (2, .int (b2i zq8)), (6, .int xq12), (9, .long yq20)] → Rp G mr0 N0 mq25 s H locs → k105_25  mq25 = some (v, m') → W p l e (rmX 291 (ouI v)) s mid args below meth c H locs 0 0 (ZX below G mr0 N0 (ouI v) m' args s) (F0 mid 105 ls []) := by
              intro  mq25 H locs ls hl hR hF
              rw [ek105_25] at hF
              refine lv_lload hx hb (dk DX10_turning 53 rfl) (lv_at hl 4 rfl) ?_
              refine lv_lstore (lv' := [(4, .long yq20), (0, .ref (G.2.1 + 0)), (1, .int (b2i a1)), (2, .int (b2i zq8)), (6, .int xq12), (9, .long yq20)]) hx hb (dk DX10_turning 54 rfl) hl (by decide) rfl (fun ls hl => ?_)
              refine lv_iload hx hb (dk DX10_turning 55 rfl) (lv_at hl 4 rfl) ?_
              refine lv_istore_n (lv' := [(3, .int xq12), (4, .long yq20), (0, .ref (G.2.1 + 0)), (1, .int (b2i a1)), (2, .int (b2i zq8)), (6, .int xq12), (9, .long yq20)]) hx hb (dk DX10_turning 56 rfl) rfl hl (by decide) rfl (fun ls hl => ?_)
              exact J112 xq12 yq20 mq25 _ _ ls (lv_sub hl [2, 3, 4, 0, 1, 5] rfl) hR hF
            refine lv_if_eq (tgt := 105) hx hb (dk DX10_turning 41 rfl) (by decide) (fun c79 => ?_) (fun c79 => ?_)
            · have hF := if_t c79 hF
              exact J105 mq18 _ _ ls (lv_sub hl [2, 3, 4, 7, 0] rfl) hR hF
            · have hF := if_f c79 hF
              refine lv_iload_n hx hb (dk DX10_turning 42 rfl) rfl (lv_at hl 3 rfl) ?_
              refine z_ifeq (tgt := 97) hx hb (dk DX10_turning 43 rfl) (by decide) (fun c83 => ?_) (fun c83 => ?_)
              · have hF := if_f c83 hF
                refine lv_lload hx hb (dk DX10_turning 49 rfl) (lv_at hl 0 rfl) ?_
                refine lv_lload hx hb (dk DX10_turning 50 rfl) (lv_at hl 6 rfl) ?_
                refine l_ifle (tgt := 112) hx hb (dk DX10_turning 51 rfl) (dk DX10_turning 52 rfl) (by decide) (fun c101 => ?_) (fun c101 => ?_)
                · have hF := if_t c101 hF
                  exact J112 xq10 yq11 mq18 _ _ ls (lv_sub hl [2, 3, 4, 5, 6, 7] rfl) hR hF
                · have hF := if_f c101 hF
                  exact J105 mq18 _ _ ls (lv_sub hl [2, 3, 4, 7, 0] rfl) hR hF
              · have hF := if_t c83 hF
                refine lv_lload hx hb (dk DX10_turning 44 rfl) (lv_at hl 0 rfl) ?_
                refine lv_lload hx hb (dk DX10_turning 45 rfl) (lv_at hl 6 rfl) ?_
                refine l_ifge (tgt := 112) hx hb (dk DX10_turning 46 rfl) (dk DX10_turning 47 rfl) (by decide) (fun c90 => ?_) (fun c90 => ?_)
                · have hF := if_t c90 hF
                  exact J112 xq10 yq11 mq18 _ _ ls (lv_sub hl [2, 3, 4, 5, 6, 7] rfl) hR hF
                · have hF := if_f c90 hF
                  refine lv_goto (tgt := 105) hx hb (dk DX10_turning 48 rfl) (by decide) ?_
                  exact J105 mq18 _ _ ls (lv_sub hl [2, 3, 4, 7, 0] rfl) hR hF
      exact L35 1000000 (0 : Int32) (0 : Int64) (0 : Int32) mq7 _ _ ls (lv_sub hl [4, 5, 3, 2, 1, 0] rfl) hR hF
    refine lv_icmp_ne (tgt := 25) hx hb (dk DX10_turning 8 rfl) (by decide) (fun c18 => ?_) (fun c18 => ?_)
    · have hF := if_f c18 hF
      refine lv_iconst (v := (0 : Int32)) hx hb (dk DX10_turning 11 rfl) (by decide) ?_
      exact J26 false mq4 _ _ ls (lv_sub hl [0, 1] rfl) hR hF
    · have hF := if_t c18 hF
      refine lv_iconst (v := (1 : Int32)) hx hb (dk DX10_turning 9 rfl) (by decide) ?_
      refine lv_goto (tgt := 26) hx hb (dk DX10_turning 10 rfl) (by decide) ?_
      exact J26 true mq4 _ _ ls (lv_sub hl [0, 1] rfl) hR hF
set_option maxHeartbeats 4000000 in
set_option maxRecDepth 100000 in
theorem C_T_turnover (l : Launch) (hl0 : l.stackTraces = false) (G : GG) (a1 : Int32) (a2 : Int32) (m0 : Mem) (v : Nat ⊕ Int32) (m' : Mem) (hF : F_T_turnover a1 a2 m0 = some (v, m')) : CtX l G mr0 N0 yX10_turnover cX10_turnover 4 (some .int) 293 [.ref (G.2.1 + 0), .int a1, .int a2] m0 (ouI v) m' := by
  refine CtX_of hl0 (by decide) (Nat.le_of_ble_eq_true rfl) ?_
  intro p e s mid args below meth c ls C hrt hex hl hR
  have hx := C.1.1
  have hb := C.1.2.1
  have hl : lv_has ls 4 [(0, .ref (G.2.1 + 0)), (1, .int a1), (2, .int a2)] := hl
  unfold F_T_turnover at hF
  refine lv_aload_n hx hb (dk DX10_turnover 0 rfl) rfl (lv_at hl 0 rfl) ?_
  refine lv_iload_n hx hb (dk DX10_turnover 1 rfl) rfl (lv_at hl 1 rfl) ?_
  refine lv_iconst (v := (3 : Int32)) hx hb (dk DX10_turnover 2 rfl) (by decide) ?_
  refine lv_iconst (v := (0 : Int32)) hx hb (dk DX10_turnover 3 rfl) (by decide) ?_
  refine lv_iload_n hx hb (dk DX10_turnover 4 rfl) rfl (lv_at hl 2 rfl) ?_
  rcases bndX_ex hF with ⟨ke, mq1, hzq2, hF⟩ | ⟨uq3, mq1, hzq2, hF⟩
  · have hM := C_T_mustBeState l hl0 G a1 (3 : Int32) (0 : Int32) a2 m0 (Sum.inl ke) mq1 hzq2
    rw [show ouV (Sum.inl ke) = (Sum.inl ke : Ou) from rfl] at hM
    cases hF
    exact x_passV (d := 293) (k := ke) (As := [.int a1, .int (3 : Int32), .int (0 : Int32), .int a2]) (rest := []) C hex hR hM (by decide) (by decide) ob0 rfl wX10_361 rfl rfl (Nat.le_of_ble_eq_true rfl) hl.1 (dk DX10_turnover 5 rfl)
  · have hM := C_T_mustBeState l hl0 G a1 (3 : Int32) (0 : Int32) a2 m0 (Sum.inr uq3) mq1 hzq2
    rw [show ouV (Sum.inr uq3) = (Sum.inr none : Ou) from rfl] at hM
    refine x_callVv (As := [.int a1, .int (3 : Int32), .int (0 : Int32), .int a2]) (rest := []) C hR hM (by decide) (by decide) ob0 rfl wX10_361 rfl rfl (Nat.le_of_ble_eq_true rfl) hl.1 ⟨Nat.zero_le _, Nat.zero_le _⟩ (dk DX10_turnover 5 rfl) (fun H locs hR => ?_)
    refine lv_aload_n hx hb (dk DX10_turnover 6 rfl) rfl (lv_at hl 0 rfl) ?_
    refine gX10_23 C hR ob0 rf0_3 (dk DX10_turnover 7 rfl) ?_
    refine lv_iconst (v := (0 : Int32)) hx hb (dk DX10_turnover 8 rfl) (by decide) ?_
    refine lv_aload_n hx hb (dk DX10_turnover 9 rfl) rfl (lv_at hl 0 rfl) ?_
    refine gX10_31 C hR ob0 rf0_4 (dk DX10_turnover 10 rfl) ?_
    refine gX10_200 C hR ob3 (dk DX10_turnover 11 rfl) ?_
    refine lv_iconst (v := (0 : Int32)) hx hb (dk DX10_turnover 12 rfl) (by decide) ?_
    obtain ⟨uq6, mq4, hzq5, hF⟩ := bnd_ex hF
    refine r_callVv (As := [.int (0 : Int32), .int (gI mq1 3 5), .int (b2i false)]) (rest := []) C hR (C_Od_ready l hl0 G (0 : Int32) (gI mq1 3 5) false mq1 _ _ hzq5) (by decide) (by decide) ob2 rfl wX10_327 rfl rfl (Nat.le_of_ble_eq_true rfl) hl.1 ⟨Nat.zero_le _, Nat.zero_le _⟩ (dk DX10_turnover 13 rfl) (fun H locs hR => ?_)
    refine lv_bipush (v := (81 : Int32)) hx hb (dk DX10_turnover 14 rfl) (by decide) ?_
    refine lv_istore_n (lv' := [(3, .int (81 : Int32)), (0, .ref (G.2.1 + 0)), (1, .int a1), (2, .int a2)]) hx hb (dk DX10_turnover 15 rfl) rfl hl (by decide) rfl (fun ls hl => ?_)
    have L27 : ∀ (nf : Nat) (xq8 : Int32) (mq7 : Mem) (H : Heap) (locs : List Loc) (ls : Array Slot), lv_has ls 4 [(0, .ref (G.2.1 + 0)), (1, .int a1), (2, .int a2), (3, .int xq8)] → Rp G mr0 N0 mq7 s H locs → F_T_turnover_L27 a1 a2 nf xq8 mq7 = some (v, m') → W p l e (rmX 293 (ouI v)) s mid args below meth c H locs 0 0 (ZX below G mr0 N0 (ouI v) m' args s) (F0 mid 27 ls []) := by
      intro nf
      induction nf with
      | zero =>
        intro xq8 mq7 H locs ls hl hR hF
        rw [F_T_turnover_L27] at hF
        cases hF
      | succ nf ihq10 =>
        intro xq8 mq7 H locs ls hl hR hF
        rw [F_T_turnover_L27] at hF
        refine lv_iload_n hx hb (dk DX10_turnover 16 rfl) rfl (lv_at hl 3 rfl) ?_
        refine lv_if_lt (tgt := 58) hx hb (dk DX10_turnover 17 rfl) (by decide) (fun c28 => ?_) (fun c28 => ?_)
        · have hF := if_t c28 hF
          refine lv_iconst (v := (-1 : Int32)) hx hb (dk DX10_turnover 33 rfl) (by decide) ?_
          cases hF
          exact x_iret C hrt hR (dk DX10_turnover 34 rfl)
        · have hF := if_f c28 hF
          refine lv_aload_n hx hb (dk DX10_turnover 18 rfl) rfl (lv_at hl 0 rfl) ?_
          refine gX10_23 C hR ob0 rf0_3 (dk DX10_turnover 19 rfl) ?_
          refine lv_iload_n hx hb (dk DX10_turnover 20 rfl) rfl (lv_at hl 1 rfl) ?_
          refine lv_iconst (v := (3 : Int32)) hx hb (dk DX10_turnover 21 rfl) (by decide) ?_
          refine lv_iconst (v := (0 : Int32)) hx hb (dk DX10_turnover 22 rfl) (by decide) ?_
          obtain ⟨xq13, mq11, hzq12, hF⟩ := bnd_ex hF
          refine r_callSi (As := [.int (3 : Int32), .int (b2i false)]) (rest := [.int a1, .ref (G.2.1 + 2)]) C hR (C_Od_kindOf l hl0 G (3 : Int32) false mq7 _ _ hzq12) (by decide) (by decide) wX10_365 rfl rfl (Nat.le_of_ble_eq_true rfl) hl.1 ⟨Nat.zero_le _, Nat.zero_le _⟩ (dk DX10_turnover 23 rfl) (fun H locs hR => ?_)
          refine lv_iload_n hx hb (dk DX10_turnover 24 rfl) rfl (lv_at hl 3 rfl) ?_
          refine lv_ineg hx hb (dk DX10_turnover 25 rfl) ?_
          refine lv_iload_n hx hb (dk DX10_turnover 26 rfl) rfl (lv_at hl 2 rfl) ?_
          obtain ⟨zq16, mq14, hzq15, hF⟩ := bnd_ex hF
          refine r_callVi (As := [.int a1, .int xq13, .int (-xq8), .int a2]) (rest := []) C hR (C_Od_choosesTold l hl0 G a1 xq13 (-xq8) a2 mq11 _ _ hzq15) (by decide) (by decide) ob2 rfl wX10_373 rfl rfl (Nat.le_of_ble_eq_true rfl) hl.1 ⟨Nat.zero_le _, Nat.zero_le _⟩ (dk DX10_turnover 27 rfl) (fun H locs hR => ?_)
          refine z_ifne (tgt := 52) hx hb (dk DX10_turnover 28 rfl) (by decide) (fun c47 => ?_) (fun c47 => ?_)
          · have hF := if_t c47 hF
            obtain ⟨xq17, exq17, hF⟩ := lt_ex hF
            refine lv_iinc (v := xq17) (lv' := [(3, .int xq17), (0, .ref (G.2.1 + 0)), (1, .int a1), (2, .int a2)]) hx hb (dk DX10_turnover 31 rfl) hl (k := 3) rfl (by rw [exq17]; rfl) (by decide) rfl (fun ls hl => ?_)
            refine lv_goto (tgt := 27) hx hb (dk DX10_turnover 32 rfl) (by decide) ?_
            exact ihq10 xq17 mq14 _ _ ls (lv_sub hl [1, 2, 3, 0] rfl) hR hF
          · have hF := if_f c47 hF
            refine lv_iload_n hx hb (dk DX10_turnover 29 rfl) rfl (lv_at hl 3 rfl) ?_
            cases hF
            exact x_iret C hrt hR (dk DX10_turnover 30 rfl)
    exact L27 1000000 (81 : Int32) mq4 _ _ ls (lv_sub hl [1, 2, 3, 0] rfl) hR hF
set_option maxHeartbeats 4000000 in
set_option maxRecDepth 100000 in
theorem C_Ma_copyFrom_5 (l : Launch) (hl0 : l.stackTraces = false) (G : GG) (o1 : Nat) (m0 : Mem) (hMo1 : isM o1) (v : Unit) (m' : Mem) (hF : F_Ma_copyFrom_5 o1 m0 = some (v, m')) : Ct l G mr0 N0 yX5_copyFrom cX5_copyFrom 3 none 1 [.ref (G.2.1 + 16), .ref (G.2.1 + o1)] m0 none m' := by
  refine Ct_of hl0 (by decide) (Nat.le_of_ble_eq_true rfl) ?_
  intro p e s mid args below meth c ls C hrt hl hR
  have hx := C.1.1
  have hb := C.1.2.1
  have hl : lv_has ls 3 [(0, .ref (G.2.1 + 16)), (1, .ref (G.2.1 + o1))] := hl
  unfold F_Ma_copyFrom_5 at hF
  refine lv_aload_n hx hb (dk DX5_copyFrom 0 rfl) rfl (lv_at hl 0 rfl) ?_
  refine lv_aload_n hx hb (dk DX5_copyFrom 1 rfl) rfl (lv_at hl 1 rfl) ?_
  refine gX5_9 C hR hMo1.1 (dk DX5_copyFrom 2 rfl) ?_
  refine pX5_9 (x := gI m0 o1 0) C hR ob16 (dk DX5_copyFrom 3 rfl) (fun H locs hR => ?_)
  obtain ⟨mq1, emq1, hF⟩ := lt_ex hF
  have hR := Rp_at emq1 hR
  refine lv_aload_n hx hb (dk DX5_copyFrom 4 rfl) rfl (lv_at hl 0 rfl) ?_
  refine lv_aload_n hx hb (dk DX5_copyFrom 5 rfl) rfl (lv_at hl 1 rfl) ?_
  refine gX5_15 C hR hMo1.1 (dk DX5_copyFrom 6 rfl) ?_
  refine pX5_15 (x := gI mq1 o1 1) C hR ob16 (dk DX5_copyFrom 7 rfl) (fun H locs hR => ?_)
  obtain ⟨mq2, emq2, hF⟩ := lt_ex hF
  have hR := Rp_at emq2 hR
  refine lv_aload_n hx hb (dk DX5_copyFrom 8 rfl) rfl (lv_at hl 0 rfl) ?_
  refine lv_aload_n hx hb (dk DX5_copyFrom 9 rfl) rfl (lv_at hl 1 rfl) ?_
  refine gX5_18 C hR hMo1.1 (dk DX5_copyFrom 10 rfl) ?_
  refine pX5_18 (x := gI mq2 o1 2) C hR ob16 (dk DX5_copyFrom 11 rfl) (fun H locs hR => ?_)
  obtain ⟨mq3, emq3, hF⟩ := lt_ex hF
  have hR := Rp_at emq3 hR
  refine lv_aload_n hx hb (dk DX5_copyFrom 12 rfl) rfl (lv_at hl 0 rfl) ?_
  refine lv_aload_n hx hb (dk DX5_copyFrom 13 rfl) rfl (lv_at hl 1 rfl) ?_
  refine gX5_21 C hR hMo1.1 (dk DX5_copyFrom 14 rfl) ?_
  refine pX5_21 (x := gI mq3 o1 3) C hR ob16 (dk DX5_copyFrom 15 rfl) (fun H locs hR => ?_)
  obtain ⟨mq4, emq4, hF⟩ := lt_ex hF
  have hR := Rp_at emq4 hR
  refine lv_aload_n hx hb (dk DX5_copyFrom 16 rfl) rfl (lv_at hl 0 rfl) ?_
  refine lv_aload_n hx hb (dk DX5_copyFrom 17 rfl) rfl (lv_at hl 1 rfl) ?_
  refine gX5_24 C hR hMo1.1 (dk DX5_copyFrom 18 rfl) ?_
  refine pX5_24 (x := gI mq4 o1 4) C hR ob16 (dk DX5_copyFrom 19 rfl) (fun H locs hR => ?_)
  obtain ⟨mq5, emq5, hF⟩ := lt_ex hF
  have hR := Rp_at emq5 hR
  refine lv_aload_n hx hb (dk DX5_copyFrom 20 rfl) rfl (lv_at hl 0 rfl) ?_
  refine lv_aload_n hx hb (dk DX5_copyFrom 21 rfl) rfl (lv_at hl 1 rfl) ?_
  refine gX5_27 C hR hMo1.1 (dk DX5_copyFrom 22 rfl) ?_
  refine pX5_27 (x := gZ mq5 o1 5) C hR ob16 (dk DX5_copyFrom 23 rfl) (fun H locs hR => ?_)
  obtain ⟨mq6, emq6, hF⟩ := lt_ex hF
  have hR := Rp_at emq6 hR
  refine lv_aload_n hx hb (dk DX5_copyFrom 24 rfl) rfl (lv_at hl 0 rfl) ?_
  refine lv_aload_n hx hb (dk DX5_copyFrom 25 rfl) rfl (lv_at hl 1 rfl) ?_
  refine gX5_31 C hR hMo1.1 (dk DX5_copyFrom 26 rfl) ?_
  refine pX5_31 (x := gZ mq6 o1 6) C hR ob16 (dk DX5_copyFrom 27 rfl) (fun H locs hR => ?_)
  obtain ⟨mq7, emq7, hF⟩ := lt_ex hF
  have hR := Rp_at emq7 hR
  refine lv_aload_n hx hb (dk DX5_copyFrom 28 rfl) rfl (lv_at hl 0 rfl) ?_
  refine lv_aload_n hx hb (dk DX5_copyFrom 29 rfl) rfl (lv_at hl 1 rfl) ?_
  refine gX5_34 C hR hMo1.1 (dk DX5_copyFrom 30 rfl) ?_
  refine pX5_34 (x := gI mq7 o1 7) C hR ob16 (dk DX5_copyFrom 31 rfl) (fun H locs hR => ?_)
  obtain ⟨mq8, emq8, hF⟩ := lt_ex hF
  have hR := Rp_at emq8 hR
  refine lv_aload_n hx hb (dk DX5_copyFrom 32 rfl) rfl (lv_at hl 0 rfl) ?_
  refine lv_aload_n hx hb (dk DX5_copyFrom 33 rfl) rfl (lv_at hl 1 rfl) ?_
  refine gX5_37 C hR hMo1.1 (dk DX5_copyFrom 34 rfl) ?_
  refine pX5_37 (x := gI mq8 o1 8) C hR ob16 (dk DX5_copyFrom 35 rfl) (fun H locs hR => ?_)
  obtain ⟨mq9, emq9, hF⟩ := lt_ex hF
  have hR := Rp_at emq9 hR
  refine lv_aload_n hx hb (dk DX5_copyFrom 36 rfl) rfl (lv_at hl 0 rfl) ?_
  refine lv_aload_n hx hb (dk DX5_copyFrom 37 rfl) rfl (lv_at hl 1 rfl) ?_
  refine gX5_40 C hR hMo1.1 (dk DX5_copyFrom 38 rfl) ?_
  refine pX5_40 (x := gI mq9 o1 9) C hR ob16 (dk DX5_copyFrom 39 rfl) (fun H locs hR => ?_)
  obtain ⟨mq10, emq10, hF⟩ := lt_ex hF
  have hR := Rp_at emq10 hR
  refine lv_iconst (v := (0 : Int32)) hx hb (dk DX5_copyFrom 40 rfl) (by decide) ?_
  refine lv_istore_n (lv' := [(2, .int (0 : Int32)), (0, .ref (G.2.1 + 16)), (1, .ref (G.2.1 + o1))]) hx hb (dk DX5_copyFrom 41 rfl) rfl hl (by decide) rfl (fun ls hl => ?_)
  have L82 : ∀ (nf : Nat) (xq12 : Int32) (mq11 : Mem) (H : Heap) (locs : List Loc) (ls : Array Slot), lv_has ls 3 [(0, .ref (G.2.1 + 16)), (1, .ref (G.2.1 + o1)), (2, .int xq12)] → Rp G mr0 N0 mq11 s H locs → F_Ma_copyFrom_5_L82 o1 nf xq12 mq11 = some (v, m') → W p l e (rmD 1) s mid args below meth c H locs 0 0 (MQ below (QR G mr0 N0 none m') args s 0 0 (fun q => G.2.1 ≤ q)) (F0 mid 82 ls []) := by
    intro nf
    induction nf with
    | zero =>
      intro xq12 mq11 H locs ls hl hR hF
      rw [F_Ma_copyFrom_5_L82] at hF
      cases hF
    | succ nf ihq14 =>
      intro xq12 mq11 H locs ls hl hR hF
      rw [F_Ma_copyFrom_5_L82] at hF
      refine lv_iload_n hx hb (dk DX5_copyFrom 42 rfl) rfl (lv_at hl 2 rfl) ?_
      refine lv_bipush (v := (63 : Int32)) hx hb (dk DX5_copyFrom 43 rfl) (by decide) ?_
      refine lv_icmp_ge (tgt := 106) hx hb (dk DX5_copyFrom 44 rfl) (by decide) (fun c85 => ?_) (fun c85 => ?_)
      · have hF := if_t c85 hF
        cases hF
        exact r_vret C hrt hR (dk DX5_copyFrom 55 rfl)
      · have hF := if_f c85 hF
        refine lv_aload_n hx hb (dk DX5_copyFrom 45 rfl) rfl (lv_at hl 0 rfl) ?_
        refine gX5_43 C hR ob16 rf16_10 (dk DX5_copyFrom 46 rfl) ?_
        refine lv_iload_n hx hb (dk DX5_copyFrom 47 rfl) rfl (lv_at hl 2 rfl) ?_
        refine lv_aload_n hx hb (dk DX5_copyFrom 48 rfl) rfl (lv_at hl 1 rfl) ?_
        refine gX5_43 C hR hMo1.1 hMo1.2.2 (dk DX5_copyFrom 49 rfl) ?_
        refine lv_iload_n hx hb (dk DX5_copyFrom 50 rfl) rfl (lv_at hl 2 rfl) ?_
        obtain ⟨hq15, hF⟩ := ckB_ex hF
        refine r_iald C hR hMo1.2.1 hq15 (dk DX5_copyFrom 51 rfl) ?_
        refine lv_topi (fun xq16 exq16 => ?_)
        have hF := lt_at exq16 hF
        obtain ⟨hq18, hF⟩ := ckB_ex hF
        refine r_iast C hR ob17 hq18 (dk DX5_copyFrom 52 rfl) (fun H locs hR => ?_)
        obtain ⟨mq17, emq17, hF⟩ := lt_ex hF
        have hR := Rp_at emq17 hR
        obtain ⟨xq19, exq19, hF⟩ := lt_ex hF
        refine lv_iinc (v := xq19) (lv' := [(2, .int xq19), (0, .ref (G.2.1 + 16)), (1, .ref (G.2.1 + o1))]) hx hb (dk DX5_copyFrom 53 rfl) hl (k := 2) rfl (by rw [exq19]; rfl) (by decide) rfl (fun ls hl => ?_)
        refine lv_goto (tgt := 82) hx hb (dk DX5_copyFrom 54 rfl) (by decide) ?_
        exact ihq14 xq19 mq17 _ _ ls (lv_sub hl [1, 2, 0] rfl) hR hF
  exact L82 1000000 (0 : Int32) mq10 _ _ ls (lv_sub hl [1, 2, 0] rfl) hR hF
set_option maxHeartbeats 4000000 in
set_option maxRecDepth 100000 in
theorem C_Pa_giveBack (l : Launch) (hl0 : l.stackTraces = false) (G : GG) (m0 : Mem) (v : Bool) (m' : Mem) (hF : F_Pa_giveBack m0 = some (v, m')) : Ct l G mr0 N0 yX8_giveBack cX8_giveBack 3 (some .boolean) 2 [.ref (G.2.1 + 20), .ref (G.2.1 + 16)] m0 (some (.int (b2i v))) m' := by
  refine Ct_of hl0 (by decide) (Nat.le_of_ble_eq_true rfl) ?_
  intro p e s mid args below meth c ls C hrt hl hR
  have hx := C.1.1
  have hb := C.1.2.1
  have hl : lv_has ls 3 [(0, .ref (G.2.1 + 20)), (1, .ref (G.2.1 + 16))] := hl
  unfold F_Pa_giveBack at hF
  refine lv_aload_n hx hb (dk DX8_giveBack 0 rfl) rfl (lv_at hl 0 rfl) ?_
  refine lv_aload_n hx hb (dk DX8_giveBack 1 rfl) rfl (lv_at hl 0 rfl) ?_
  refine gX8_13 C hR ob20 (dk DX8_giveBack 2 rfl) ?_
  refine lv_bipush (v := (12 : Int32)) hx hb (dk DX8_giveBack 3 rfl) (by decide) ?_
  refine lv_iadd hx hb (dk DX8_giveBack 4 rfl) ?_
  refine lv_iconst (v := (1 : Int32)) hx hb (dk DX8_giveBack 5 rfl) (by decide) ?_
  refine lv_isub hx hb (dk DX8_giveBack 6 rfl) ?_
  refine lv_bipush (v := (12 : Int32)) hx hb (dk DX8_giveBack 7 rfl) (by decide) ?_
  refine lv_irem hx hb (dk DX8_giveBack 8 rfl) (by decide) ?_
  refine lv_topi (fun xq1 exq1 => ?_)
  have hF := lt_at exq1 hF
  obtain ⟨qq4, mq2, hzq3, hF⟩ := bnd_ex hF
  refine r_callVr (As := [.int xq1]) (rest := []) C hR (C_Pa_roomAt l hl0 G xq1 m0 _ _ hzq3) (by decide) (by decide) ob20 rfl wX8_23 rfl rfl (Nat.le_of_ble_eq_true rfl) hl.1 ⟨Nat.zero_le _, Nat.zero_le _⟩ (dk DX8_giveBack 9 rfl) (fun H locs hR => ?_)
  rcases oMat_ex hF with ⟨eoq5, hF⟩ | ⟨oq5, eoq5, hMoq5, hF⟩
  · rw [eoq5]
    refine lv_astore_nN (lv' := [(2, .null), (0, .ref (G.2.1 + 20)), (1, .ref (G.2.1 + 16))]) hx hb (dk DX8_giveBack 10 rfl) rfl hl (by decide) rfl (fun ls hl => ?_)
    refine lv_aload_n hx hb (dk DX8_giveBack 11 rfl) rfl (lv_at hl 1 rfl) ?_
    refine gX8_7 C hR ob20 (dk DX8_giveBack 12 rfl) ?_
    refine lv_if_le (tgt := 28) hx hb (dk DX8_giveBack 13 rfl) (by decide) (fun c21 => ?_) (fun c21 => ?_)
    · have hF := if_t c21 hF
      refine lv_iconst (v := (0 : Int32)) hx hb (dk DX8_giveBack 16 rfl) (by decide) ?_
      cases hF
      exact r_zret C hrt hR (dk DX8_giveBack 17 rfl)
    · have hF := if_f c21 hF
      refine lv_aload_nN hx hb (dk DX8_giveBack 14 rfl) rfl (lv_at hl 0 rfl) ?_
      refine lv_ifnonnullN hx hb (dk DX8_giveBack 15 rfl) ?_
      refine lv_iconst (v := (0 : Int32)) hx hb (dk DX8_giveBack 16 rfl) (by decide) ?_
      cases hF
      exact r_zret C hrt hR (dk DX8_giveBack 17 rfl)
  · rw [eoq5]
    refine lv_astore_n (lv' := [(2, .ref (G.2.1 + oq5)), (0, .ref (G.2.1 + 20)), (1, .ref (G.2.1 + 16))]) hx hb (dk DX8_giveBack 10 rfl) rfl hl (by decide) rfl (fun ls hl => ?_)
    refine lv_aload_n hx hb (dk DX8_giveBack 11 rfl) rfl (lv_at hl 1 rfl) ?_
    refine gX8_7 C hR ob20 (dk DX8_giveBack 12 rfl) ?_
    refine lv_if_le (tgt := 28) hx hb (dk DX8_giveBack 13 rfl) (by decide) (fun c21 => ?_) (fun c21 => ?_)
    · have hF := if_t c21 hF
      refine lv_iconst (v := (0 : Int32)) hx hb (dk DX8_giveBack 16 rfl) (by decide) ?_
      cases hF
      exact r_zret C hrt hR (dk DX8_giveBack 17 rfl)
    · have hF := if_f c21 hF
      refine lv_aload_n hx hb (dk DX8_giveBack 14 rfl) rfl (lv_at hl 0 rfl) ?_
      refine lv_ifnonnull (tgt := 30) hx hb (dk DX8_giveBack 15 rfl) (by decide) ?_
      refine lv_aload_n hx hb (dk DX8_giveBack 18 rfl) rfl (lv_at hl 2 rfl) ?_
      refine lv_aload_n hx hb (dk DX8_giveBack 19 rfl) rfl (lv_at hl 0 rfl) ?_
      obtain ⟨uq8, mq6, hzq7, hF⟩ := bnd_ex hF
      refine r_callVv (As := [.ref (G.2.1 + oq5)]) (rest := []) C hR (C_Ma_copyFrom_5 l hl0 G oq5 mq2 hMoq5 _ _ hzq7) (by decide) (by decide) ob16 rfl wX8_27 rfl rfl (Nat.le_of_ble_eq_true rfl) hl.1 ⟨Nat.zero_le _, Nat.zero_le _⟩ (dk DX8_giveBack 20 rfl) (fun H locs hR => ?_)
      refine lv_aload_n hx hb (dk DX8_giveBack 21 rfl) rfl (lv_at hl 1 rfl) ?_
      refine lv_aload_n hx hb (dk DX8_giveBack 22 rfl) rfl (lv_at hl 1 rfl) ?_
      refine gX8_13 C hR ob20 (dk DX8_giveBack 23 rfl) ?_
      refine lv_bipush (v := (12 : Int32)) hx hb (dk DX8_giveBack 24 rfl) (by decide) ?_
      refine lv_iadd hx hb (dk DX8_giveBack 25 rfl) ?_
      refine lv_iconst (v := (1 : Int32)) hx hb (dk DX8_giveBack 26 rfl) (by decide) ?_
      refine lv_isub hx hb (dk DX8_giveBack 27 rfl) ?_
      refine lv_bipush (v := (12 : Int32)) hx hb (dk DX8_giveBack 28 rfl) (by decide) ?_
      refine lv_irem hx hb (dk DX8_giveBack 29 rfl) (by decide) ?_
      refine lv_topi (fun xq9 exq9 => ?_)
      have hF := lt_at exq9 hF
      refine pX8_13 (x := xq9) C hR ob20 (dk DX8_giveBack 30 rfl) (fun H locs hR => ?_)
      obtain ⟨mq10, emq10, hF⟩ := lt_ex hF
      have hR := Rp_at emq10 hR
      refine lv_aload_n hx hb (dk DX8_giveBack 31 rfl) rfl (lv_at hl 1 rfl) ?_
      refine lv_dup hx hb (dk DX8_giveBack 32 rfl) rfl ?_
      refine gX8_7 C hR ob20 (dk DX8_giveBack 33 rfl) ?_
      refine lv_iconst (v := (1 : Int32)) hx hb (dk DX8_giveBack 34 rfl) (by decide) ?_
      refine lv_isub hx hb (dk DX8_giveBack 35 rfl) ?_
      refine pX8_7 (x := (gI mq10 20 0) - (1 : Int32)) C hR ob20 (dk DX8_giveBack 36 rfl) (fun H locs hR => ?_)
      obtain ⟨mq11, emq11, hF⟩ := lt_ex hF
      have hR := Rp_at emq11 hR
      refine lv_iconst (v := (1 : Int32)) hx hb (dk DX8_giveBack 37 rfl) (by decide) ?_
      cases hF
      exact r_zret C hrt hR (dk DX8_giveBack 38 rfl)
set_option maxHeartbeats 4000000 in
set_option maxRecDepth 100000 in
theorem C_T_undo (l : Launch) (hl0 : l.stackTraces = false) (G : GG) (m0 : Mem) (v : Bool) (m' : Mem) (hF : F_T_undo m0 = some (v, m')) : Ct l G mr0 N0 yX10_undo cX10_undo 1 (some .boolean) 3 [.ref (G.2.1 + 0)] m0 (some (.int (b2i v))) m' := by
  refine Ct_of hl0 (by decide) (Nat.le_of_ble_eq_true rfl) ?_
  intro p e s mid args below meth c ls C hrt hl hR
  have hx := C.1.1
  have hb := C.1.2.1
  have hl : lv_has ls 1 [(0, .ref (G.2.1 + 0))] := hl
  unfold F_T_undo at hF
  refine lv_aload_n hx hb (dk DX10_undo 0 rfl) rfl (lv_at hl 0 rfl) ?_
  refine gX10_47 C hR ob0 rf0_7 (dk DX10_undo 1 rfl) ?_
  refine lv_aload_n hx hb (dk DX10_undo 2 rfl) rfl (lv_at hl 0 rfl) ?_
  refine gX10_37 C hR ob0 rf0_5 (dk DX10_undo 3 rfl) ?_
  obtain ⟨zq3, mq1, hzq2, hF⟩ := bnd_ex hF
  refine r_callVi (As := [.ref (G.2.1 + 16)]) (rest := []) C hR (C_Pa_giveBack l hl0 G m0 _ _ hzq2) (by decide) (by decide) ob20 rfl wX10_279 rfl rfl (Nat.le_of_ble_eq_true rfl) hl.1 ⟨Nat.zero_le _, Nat.zero_le _⟩ (dk DX10_undo 4 rfl) (fun H locs hR => ?_)
  cases hF
  exact r_zret C hrt hR (dk DX10_undo 5 rfl)
set_option maxHeartbeats 4000000 in
set_option maxRecDepth 100000 in
theorem C_T_betterToBat (l : Launch) (hl0 : l.stackTraces = false) (G : GG) (a1 : Int32) (m0 : Mem) (v : Int32) (m' : Mem) (hF : F_T_betterToBat a1 m0 = some (v, m')) : Ct l G mr0 N0 yX10_betterToBat cX10_betterToBat 2 (some .int) 288 [.ref (G.2.1 + 0), .int a1] m0 (some (.int v)) m' := by
  refine Ct_of hl0 (by decide) (Nat.le_of_ble_eq_true rfl) ?_
  intro p e s mid args below meth c ls C hrt hl hR
  have hx := C.1.1
  have hb := C.1.2.1
  have hl : lv_has ls 2 [(0, .ref (G.2.1 + 0)), (1, .int a1)] := hl
  unfold F_T_betterToBat at hF
  refine lv_aload_n hx hb (dk DX10_betterToBat 0 rfl) rfl (lv_at hl 0 rfl) ?_
  refine lv_iload_n hx hb (dk DX10_betterToBat 1 rfl) rfl (lv_at hl 1 rfl) ?_
  refine lv_iload_n hx hb (dk DX10_betterToBat 2 rfl) rfl (lv_at hl 1 rfl) ?_
  obtain ⟨yq3, mq1, hzq2, hF⟩ := bnd_ex hF
  refine r_callVl (As := [.int a1, .int a1]) (rest := []) C hR (C_T_tossValue l hl0 G a1 a1 m0 _ _ hzq2) (by decide) (by decide) ob0 rfl wX10_344 rfl rfl (Nat.le_of_ble_eq_true rfl) hl.1 ⟨Nat.zero_le _, Nat.zero_le _⟩ (dk DX10_betterToBat 3 rfl) (fun H locs hR => ?_)
  refine lv_aload_n hx hb (dk DX10_betterToBat 4 rfl) rfl (lv_at hl 0 rfl) ?_
  refine lv_iload_n hx hb (dk DX10_betterToBat 5 rfl) rfl (lv_at hl 1 rfl) ?_
  refine lv_iconst (v := (1 : Int32)) hx hb (dk DX10_betterToBat 6 rfl) (by decide) ?_
  refine lv_iload_n hx hb (dk DX10_betterToBat 7 rfl) rfl (lv_at hl 1 rfl) ?_
  refine lv_isub hx hb (dk DX10_betterToBat 8 rfl) ?_
  obtain ⟨yq6, mq4, hzq5, hF⟩ := bnd_ex hF
  refine r_callVl (As := [.int a1, .int ((1 : Int32) - a1)]) (rest := [.long yq3]) C hR (C_T_tossValue l hl0 G a1 ((1 : Int32) - a1) mq1 _ _ hzq5) (by decide) (by decide) ob0 rfl wX10_344 rfl rfl (Nat.le_of_ble_eq_true rfl) hl.1 ⟨Nat.zero_le _, Nat.zero_le _⟩ (dk DX10_betterToBat 9 rfl) (fun H locs hR => ?_)
  refine r_lcI C hR (gd q758 rfl) (by decide) (Nat.le_of_ble_eq_true rfl) hl.1 ⟨Nat.zero_le _, Nat.zero_le _⟩ (dk DX10_betterToBat 10 rfl) (fun H locs hR => ?_)
  cases hF
  exact r_iret C hrt hR (dk DX10_betterToBat 11 rfl)
set_option maxHeartbeats 4000000 in
set_option maxRecDepth 100000 in
theorem C_T_well (l : Launch) (hl0 : l.stackTraces = false) (G : GG) (m0 : Mem) (v : Int32) (m' : Mem) (hF : F_T_well m0 = some (v, m')) : Ct l G mr0 N0 yX10_well cX10_well 8 (some .int) 289 [.ref (G.2.1 + 0)] m0 (some (.int v)) m' := by
  refine Ct_of hl0 (by decide) (Nat.le_of_ble_eq_true rfl) ?_
  intro p e s mid args below meth c ls C hrt hl hR
  have hx := C.1.1
  have hb := C.1.2.1
  have hl : lv_has ls 8 [(0, .ref (G.2.1 + 0))] := hl
  unfold F_T_well at hF
  refine lv_aload_n hx hb (dk DX10_well 0 rfl) rfl (lv_at hl 0 rfl) ?_
  refine lv_iconst (v := (0 : Int32)) hx hb (dk DX10_well 1 rfl) (by decide) ?_
  obtain ⟨xq3, mq1, hzq2, hF⟩ := bnd_ex hF
  refine r_callVi (As := [.int (0 : Int32)]) (rest := []) C hR (C_T_betterToBat l hl0 G (0 : Int32) m0 _ _ hzq2) (by decide) (by decide) ob0 rfl wX10_355 rfl rfl (Nat.le_of_ble_eq_true rfl) hl.1 ⟨Nat.zero_le _, Nat.zero_le _⟩ (dk DX10_well 2 rfl) (fun H locs hR => ?_)
  refine lv_istore_n (lv' := [(1, .int xq3), (0, .ref (G.2.1 + 0))]) hx hb (dk DX10_well 3 rfl) rfl hl (by decide) rfl (fun ls hl => ?_)
  refine lv_aload_n hx hb (dk DX10_well 4 rfl) rfl (lv_at hl 1 rfl) ?_
  refine lv_iconst (v := (1 : Int32)) hx hb (dk DX10_well 5 rfl) (by decide) ?_
  obtain ⟨xq6, mq4, hzq5, hF⟩ := bnd_ex hF
  refine r_callVi (As := [.int (1 : Int32)]) (rest := []) C hR (C_T_betterToBat l hl0 G (1 : Int32) mq1 _ _ hzq5) (by decide) (by decide) ob0 rfl wX10_355 rfl rfl (Nat.le_of_ble_eq_true rfl) hl.1 ⟨Nat.zero_le _, Nat.zero_le _⟩ (dk DX10_well 6 rfl) (fun H locs hR => ?_)
  refine lv_istore_n (lv' := [(2, .int xq6), (1, .int xq3), (0, .ref (G.2.1 + 0))]) hx hb (dk DX10_well 7 rfl) rfl hl (by decide) rfl (fun ls hl => ?_)
  refine lv_iconst (v := (0 : Int32)) hx hb (dk DX10_well 8 rfl) (by decide) ?_
  refine lv_istore_n (lv' := [(3, .int (0 : Int32)), (2, .int xq6), (1, .int xq3), (0, .ref (G.2.1 + 0))]) hx hb (dk DX10_well 9 rfl) rfl hl (by decide) rfl (fun ls hl => ?_)
  refine lv_iconst (v := (0 : Int32)) hx hb (dk DX10_well 10 rfl) (by decide) ?_
  refine lv_istore (lv' := [(4, .int (0 : Int32)), (3, .int (0 : Int32)), (2, .int xq6), (1, .int xq3), (0, .ref (G.2.1 + 0))]) hx hb (dk DX10_well 11 rfl) hl (by decide) rfl (fun ls hl => ?_)
  have L17 : ∀ (nf : Nat) (xq8 : Int32) (xq9 : Int32) (mq7 : Mem) (H : Heap) (locs : List Loc) (ls : Array Slot), lv_has ls 8 [(0, .ref (G.2.1 + 0)), (1, .int xq3), (2, .int xq6), (3, .int xq8), (4, .int xq9)] → Rp G mr0 N0 mq7 s H locs → F_T_well_L17 xq3 xq6 nf xq8 xq9 mq7 = some (v, m') → W p l e (rmD 289) s mid args below meth c H locs 0 0 (MQ below (QR G mr0 N0 (some (.int v)) m') args s 0 0 (fun q => G.2.1 ≤ q)) (F0 mid 17 ls []) := by
    intro nf
    induction nf with
    | zero =>
      intro xq8 xq9 mq7 H locs ls hl hR hF
      rw [F_T_well_L17] at hF
      cases hF
    | succ nf ihq11 =>
      intro xq8 xq9 mq7 H locs ls hl hR hF
      rw [F_T_well_L17] at hF
      refine lv_iload hx hb (dk DX10_well 12 rfl) (lv_at hl 4 rfl) ?_
      refine lv_aload_n hx hb (dk DX10_well 13 rfl) rfl (lv_at hl 0 rfl) ?_
      refine gX10_31 C hR ob0 rf0_4 (dk DX10_well 14 rfl) ?_
      refine gX10_96 C hR ob3 rf3_12 (dk DX10_well 15 rfl) ?_
      refine gX10_100 C hR ob12 (dk DX10_well 16 rfl) ?_
      refine lv_icmp_ge (tgt := 113) hx hb (dk DX10_well 17 rfl) (by decide) (fun c29 => ?_) (fun c29 => ?_)
      · have hF := if_t c29 hF
        refine lv_iload_n hx hb (dk DX10_well 55 rfl) rfl (lv_at hl 3 rfl) ?_
        cases hF
        exact r_iret C hrt hR (dk DX10_well 56 rfl)
      · have hF := if_f c29 hF
        refine lv_aload_n hx hb (dk DX10_well 18 rfl) rfl (lv_at hl 0 rfl) ?_
        refine gX10_31 C hR ob0 rf0_4 (dk DX10_well 19 rfl) ?_
        refine gX10_96 C hR ob3 rf3_12 (dk DX10_well 20 rfl) ?_
        refine lv_iload hx hb (dk DX10_well 21 rfl) (lv_at hl 4 rfl) ?_
        refine lv_iconst (v := (0 : Int32)) hx hb (dk DX10_well 22 rfl) (by decide) ?_
        obtain ⟨xq14, mq12, hzq13, hF⟩ := bnd_ex hF
        refine r_callVi (As := [.int xq9, .int (0 : Int32)]) (rest := []) C hR (C_Bk_cell l hl0 G xq9 (0 : Int32) mq7 _ _ hzq13) (by decide) (by decide) ob12 rfl wX10_358 rfl rfl (Nat.le_of_ble_eq_true rfl) hl.1 ⟨Nat.zero_le _, Nat.zero_le _⟩ (dk DX10_well 23 rfl) (fun H locs hR => ?_)
        refine lv_istore (lv' := [(5, .int xq14), (0, .ref (G.2.1 + 0)), (1, .int xq3), (2, .int xq6), (3, .int xq8), (4, .int xq9)]) hx hb (dk DX10_well 24 rfl) hl (by decide) rfl (fun ls hl => ?_)
        refine lv_iload hx hb (dk DX10_well 25 rfl) (lv_at hl 0 rfl) ?_
        obtain ⟨k57_16, ek57_16, hF⟩ := lt_ex hF
        have J57 : ∀ (xq16 : Int32) (mq15 : Mem) (H : Heap) (locs : List Loc) (ls : Array Slot), lv_has ls 8 [(0, .ref (G.2.1 + 0)), (1, .int xq3), (2, .int xq6), (3, .int xq8), (4, .int xq9), (5, .int xq14)] → Rp G mr0 N0 mq15 s H locs → k57_16 xq16 mq15 = some (v, m') → W p l e (rmD 289) s mid args below meth c H locs 0 0 (MQ below (QR G mr0 N0 (some (.int v)) m') args s 0 0 (fun q => G.2.1 ≤ q)) (F0 mid 57 ls [.int xq16]) := by
          intro xq16 mq15 H locs ls hl hR hF
          rw [ek57_16] at hF
          refine lv_istore (lv' := [(6, .int xq16), (0, .ref (G.2.1 + 0)), (1, .int xq3), (2, .int xq6), (3, .int xq8), (4, .int xq9), (5, .int xq14)]) hx hb (dk DX10_well 30 rfl) hl (by decide) rfl (fun ls hl => ?_)
          refine lv_aload_n hx hb (dk DX10_well 31 rfl) rfl (lv_at hl 1 rfl) ?_
          refine gX10_31 C hR ob0 rf0_4 (dk DX10_well 32 rfl) ?_
          refine gX10_96 C hR ob3 rf3_12 (dk DX10_well 33 rfl) ?_
          refine lv_iload hx hb (dk DX10_well 34 rfl) (lv_at hl 5 rfl) ?_
          refine lv_iconst (v := (1 : Int32)) hx hb (dk DX10_well 35 rfl) (by decide) ?_
          obtain ⟨xq19, mq17, hzq18, hF⟩ := bnd_ex hF
          refine r_callVi (As := [.int xq9, .int (1 : Int32)]) (rest := []) C hR (C_Bk_cell l hl0 G xq9 (1 : Int32) mq15 _ _ hzq18) (by decide) (by decide) ob12 rfl wX10_358 rfl rfl (Nat.le_of_ble_eq_true rfl) hl.1 ⟨Nat.zero_le _, Nat.zero_le _⟩ (dk DX10_well 36 rfl) (fun H locs hR => ?_)
          refine lv_iload hx hb (dk DX10_well 37 rfl) (lv_at hl 6 rfl) ?_
          obtain ⟨k82_21, ek82_21, hF⟩ := lt_ex hF
          have J82 : ∀ (zq21 : Bool) (mq20 : Mem) (H : Heap) (locs : List Loc) (ls : Array Slot), lv_has ls 8 [(0, .ref (G.2.1 + 0)), (1, .int xq3), (2, .int xq6), (3, .int xq8), (4, .int xq9), (6, .int xq16)] → Rp G mr0 N0 mq20 s H locs → k82_21 zq21 mq20 = some (v, m') → W p l e (rmD 289) s mid args below meth c H locs 0 0 (MQ below (QR G mr0 N0 (some (.int v)) m') args s 0 0 (fun q => G.2.1 ≤ q)) (F0 mid 82 ls [.int (b2i zq21)]) := by
            intro zq21 mq20 H locs ls hl hR hF
            rw [ek82_21] at hF
            refine lv_istore (lv' := [(7, .int (b2i zq21)), (0, .ref (G.2.1 + 0)), (1, .int xq3), (2, .int xq6), (3, .int xq8), (4, .int xq9), (6, .int xq16)]) hx hb (dk DX10_well 42 rfl) hl (by decide) rfl (fun ls hl => ?_)
            refine lv_iload hx hb (dk DX10_well 43 rfl) (lv_at hl 6 rfl) ?_
            obtain ⟨k107_23, ek107_23, hF⟩ := lt_ex hF
            have J107 : ∀ (xq23 : Int32) (mq22 : Mem) (H : Heap) (locs : List Loc) (ls : Array Slot), lv_has ls 8 [(0, .ref (G.2.1 + 0)), (1, .int xq3), (2, .int xq6), (3, .int xq23), (4, .int xq9)] → Rp G mr0 N0 mq22 s H locs → k107_23 xq23 mq22 = some (v, m') → W p l e (rmD 289) s mid args below meth c H locs 0 0 (MQ below (QR G mr0 N0 (some (.int v)) m') args s 0 0 (fun q => G.2.1 ≤ q)) (F0 mid 107 ls []) := by
              intro xq23 mq22 H locs ls hl hR hF
              rw [ek107_23] at hF
              obtain ⟨xq24, exq24, hF⟩ := lt_ex hF
              refine lv_iinc (v := xq24) (lv' := [(4, .int xq24), (0, .ref (G.2.1 + 0)), (1, .int xq3), (2, .int xq6), (3, .int xq23)]) hx hb (dk DX10_well 53 rfl) hl (k := 4) rfl (by rw [exq24]; rfl) (by decide) rfl (fun ls hl => ?_)
              refine lv_goto (tgt := 17) hx hb (dk DX10_well 54 rfl) (by decide) ?_
              exact ihq11 xq23 xq24 mq22 _ _ ls (lv_sub hl [1, 2, 3, 4, 0] rfl) hR hF
            obtain ⟨k104_25, ek104_25, hF⟩ := lt_ex hF
            have J104 : ∀ (mq25 : Mem) (H : Heap) (locs : List Loc) (ls : Array Slot), lv_has ls 8 [(0, .ref (G.2.1 + 0)), (1, .int xq3), (2, .int xq6), (3, .int xq8), (4, .int xq9)] → Rp G mr0 N0 mq25 s H locs → k104_25  mq25 = some (v, m') → W p l e (rmD 289) s mid args below meth c H locs 0 0 (MQ below (QR G mr0 N0 (some (.int v)) m') args s 0 0 (fun q => G.2.1 ≤ q)) (F0 mid 104 ls []) := by
              intro  mq25 H locs ls hl hR hF
              rw [ek104_25] at hF
              obtain ⟨xq26, exq26, hF⟩ := lt_ex hF
              refine lv_iinc (v := xq26) (lv' := [(3, .int xq26), (0, .ref (G.2.1 + 0)), (1, .int xq3), (2, .int xq6), (4, .int xq9)]) hx hb (dk DX10_well 52 rfl) hl (k := 3) rfl (by rw [exq26]; rfl) (by decide) rfl (fun ls hl => ?_)
              exact J107 xq26 mq25 _ _ ls (lv_sub hl [1, 2, 3, 0, 4] rfl) hR hF
            refine lv_if_eq (tgt := 104) hx hb (dk DX10_well 44 rfl) (by decide) (fun c86 => ?_) (fun c86 => ?_)
            · have hF := if_t c86 hF
              exact J104 mq20 _ _ ls (lv_sub hl [1, 2, 3, 4, 5] rfl) hR hF
            · have hF := if_f c86 hF
              refine lv_iload hx hb (dk DX10_well 45 rfl) (lv_at hl 6 rfl) ?_
              obtain ⟨k99_28, ek99_28, hF⟩ := lt_ex hF
              have J99 : ∀ (zq28 : Bool) (mq27 : Mem) (H : Heap) (locs : List Loc) (ls : Array Slot), lv_has ls 8 [(0, .ref (G.2.1 + 0)), (1, .int xq3), (2, .int xq6), (3, .int xq8), (4, .int xq9), (7, .int (b2i zq21))] → Rp G mr0 N0 mq27 s H locs → k99_28 zq28 mq27 = some (v, m') → W p l e (rmD 289) s mid args below meth c H locs 0 0 (MQ below (QR G mr0 N0 (some (.int v)) m') args s 0 0 (fun q => G.2.1 ≤ q)) (F0 mid 99 ls [.int (b2i zq28)]) := by
                intro zq28 mq27 H locs ls hl hR hF
                rw [ek99_28] at hF
                refine lv_iload hx hb (dk DX10_well 50 rfl) (lv_at hl 5 rfl) ?_
                refine lv_icmp_ne (tgt := 107) hx hb (dk DX10_well 51 rfl) (by decide) (fun c101 => ?_) (fun c101 => ?_)
                · have hF := if_f c101 hF
                  exact J107 xq8 mq27 _ _ ls (lv_sub hl [0, 1, 2, 3, 4] rfl) hR hF
                · have hF := if_t c101 hF
                  exact J104 mq27 _ _ ls (lv_sub hl [0, 1, 2, 3, 4] rfl) hR hF
              refine lv_if_le (tgt := 98) hx hb (dk DX10_well 46 rfl) (by decide) (fun c91 => ?_) (fun c91 => ?_)
              · have hF := if_t c91 hF
                refine lv_iconst (v := (0 : Int32)) hx hb (dk DX10_well 49 rfl) (by decide) ?_
                exact J99 false mq20 _ _ ls (lv_sub hl [1, 2, 3, 4, 5, 0] rfl) hR hF
              · have hF := if_f c91 hF
                refine lv_iconst (v := (1 : Int32)) hx hb (dk DX10_well 47 rfl) (by decide) ?_
                refine lv_goto (tgt := 99) hx hb (dk DX10_well 48 rfl) (by decide) ?_
                exact J99 true mq20 _ _ ls (lv_sub hl [1, 2, 3, 4, 5, 0] rfl) hR hF
          refine lv_icmp_ne (tgt := 81) hx hb (dk DX10_well 38 rfl) (by decide) (fun c74 => ?_) (fun c74 => ?_)
          · have hF := if_f c74 hF
            refine lv_iconst (v := (0 : Int32)) hx hb (dk DX10_well 41 rfl) (by decide) ?_
            exact J82 false mq17 _ _ ls (lv_sub hl [1, 2, 3, 4, 5, 0] rfl) hR hF
          · have hF := if_t c74 hF
            refine lv_iconst (v := (1 : Int32)) hx hb (dk DX10_well 39 rfl) (by decide) ?_
            refine lv_goto (tgt := 82) hx hb (dk DX10_well 40 rfl) (by decide) ?_
            exact J82 true mq17 _ _ ls (lv_sub hl [1, 2, 3, 4, 5, 0] rfl) hR hF
        refine lv_if_ne (tgt := 56) hx hb (dk DX10_well 26 rfl) (by decide) (fun c49 => ?_) (fun c49 => ?_)
        · have hF := if_f c49 hF
          refine lv_iload_n hx hb (dk DX10_well 29 rfl) rfl (lv_at hl 3 rfl) ?_
          exact J57 xq6 mq12 _ _ ls (lv_sub hl [1, 2, 3, 4, 5, 0] rfl) hR hF
        · have hF := if_t c49 hF
          refine lv_iload_n hx hb (dk DX10_well 27 rfl) rfl (lv_at hl 2 rfl) ?_
          refine lv_goto (tgt := 57) hx hb (dk DX10_well 28 rfl) (by decide) ?_
          exact J57 xq3 mq12 _ _ ls (lv_sub hl [1, 2, 3, 4, 5, 0] rfl) hR hF
  exact L17 1000000 (0 : Int32) (0 : Int32) mq4 _ _ ls (lv_sub hl [4, 3, 2, 1, 0] rfl) hR hF
set_option maxHeartbeats 4000000 in
set_option maxRecDepth 100000 in
theorem C_T_when (l : Launch) (hl0 : l.stackTraces = false) (G : GG) (a1 : Int32) (a2 : Int32) (m0 : Mem) (v : Nat ⊕ Int32) (m' : Mem) (hF : F_T_when a1 a2 m0 = some (v, m')) : CtX l G mr0 N0 yX10_when cX10_when 4 (some .int) 293 [.ref (G.2.1 + 0), .int a1, .int a2] m0 (ouI v) m' := by
  refine CtX_of hl0 (by decide) (Nat.le_of_ble_eq_true rfl) ?_
  intro p e s mid args below meth c ls C hrt hex hl hR
  have hx := C.1.1
  have hb := C.1.2.1
  have hl : lv_has ls 4 [(0, .ref (G.2.1 + 0)), (1, .int a1), (2, .int a2)] := hl
  unfold F_T_when at hF
  refine lv_aload_n hx hb (dk DX10_when 0 rfl) rfl (lv_at hl 0 rfl) ?_
  refine lv_iload_n hx hb (dk DX10_when 1 rfl) rfl (lv_at hl 1 rfl) ?_
  refine lv_iconst (v := (2 : Int32)) hx hb (dk DX10_when 2 rfl) (by decide) ?_
  refine lv_iconst (v := (0 : Int32)) hx hb (dk DX10_when 3 rfl) (by decide) ?_
  refine lv_iload_n hx hb (dk DX10_when 4 rfl) rfl (lv_at hl 2 rfl) ?_
  rcases bndX_ex hF with ⟨ke, mq1, hzq2, hF⟩ | ⟨uq3, mq1, hzq2, hF⟩
  · have hM := C_T_mustBeState l hl0 G a1 (2 : Int32) (0 : Int32) a2 m0 (Sum.inl ke) mq1 hzq2
    rw [show ouV (Sum.inl ke) = (Sum.inl ke : Ou) from rfl] at hM
    cases hF
    exact x_passV (d := 293) (k := ke) (As := [.int a1, .int (2 : Int32), .int (0 : Int32), .int a2]) (rest := []) C hex hR hM (by decide) (by decide) ob0 rfl wX10_361 rfl rfl (Nat.le_of_ble_eq_true rfl) hl.1 (dk DX10_when 5 rfl)
  · have hM := C_T_mustBeState l hl0 G a1 (2 : Int32) (0 : Int32) a2 m0 (Sum.inr uq3) mq1 hzq2
    rw [show ouV (Sum.inr uq3) = (Sum.inr none : Ou) from rfl] at hM
    refine x_callVv (As := [.int a1, .int (2 : Int32), .int (0 : Int32), .int a2]) (rest := []) C hR hM (by decide) (by decide) ob0 rfl wX10_361 rfl rfl (Nat.le_of_ble_eq_true rfl) hl.1 ⟨Nat.zero_le _, Nat.zero_le _⟩ (dk DX10_when 5 rfl) (fun H locs hR => ?_)
    refine lv_aload_n hx hb (dk DX10_when 6 rfl) rfl (lv_at hl 0 rfl) ?_
    refine gX10_23 C hR ob0 rf0_3 (dk DX10_when 7 rfl) ?_
    refine lv_iconst (v := (0 : Int32)) hx hb (dk DX10_when 8 rfl) (by decide) ?_
    refine lv_aload_n hx hb (dk DX10_when 9 rfl) rfl (lv_at hl 0 rfl) ?_
    refine gX10_31 C hR ob0 rf0_4 (dk DX10_when 10 rfl) ?_
    refine gX10_200 C hR ob3 (dk DX10_when 11 rfl) ?_
    refine lv_iconst (v := (0 : Int32)) hx hb (dk DX10_when 12 rfl) (by decide) ?_
    obtain ⟨uq6, mq4, hzq5, hF⟩ := bnd_ex hF
    refine r_callVv (As := [.int (0 : Int32), .int (gI mq1 3 5), .int (b2i false)]) (rest := []) C hR (C_Od_ready l hl0 G (0 : Int32) (gI mq1 3 5) false mq1 _ _ hzq5) (by decide) (by decide) ob2 rfl wX10_327 rfl rfl (Nat.le_of_ble_eq_true rfl) hl.1 ⟨Nat.zero_le _, Nat.zero_le _⟩ (dk DX10_when 13 rfl) (fun H locs hR => ?_)
    refine lv_bipush (v := (-81 : Int32)) hx hb (dk DX10_when 14 rfl) (by decide) ?_
    refine lv_istore_n (lv' := [(3, .int (-81 : Int32)), (0, .ref (G.2.1 + 0)), (1, .int a1), (2, .int a2)]) hx hb (dk DX10_when 15 rfl) rfl hl (by decide) rfl (fun ls hl => ?_)
    have L27 : ∀ (nf : Nat) (xq8 : Int32) (mq7 : Mem) (H : Heap) (locs : List Loc) (ls : Array Slot), lv_has ls 4 [(0, .ref (G.2.1 + 0)), (1, .int a1), (2, .int a2), (3, .int xq8)] → Rp G mr0 N0 mq7 s H locs → F_T_when_L27 a1 a2 nf xq8 mq7 = some (v, m') → W p l e (rmX 293 (ouI v)) s mid args below meth c H locs 0 0 (ZX below G mr0 N0 (ouI v) m' args s) (F0 mid 27 ls []) := by
      intro nf
      induction nf with
      | zero =>
        intro xq8 mq7 H locs ls hl hR hF
        rw [F_T_when_L27] at hF
        cases hF
      | succ nf ihq10 =>
        intro xq8 mq7 H locs ls hl hR hF
        rw [F_T_when_L27] at hF
        refine lv_iload_n hx hb (dk DX10_when 16 rfl) rfl (lv_at hl 3 rfl) ?_
        refine lv_bipush (v := (81 : Int32)) hx hb (dk DX10_when 17 rfl) (by decide) ?_
        refine lv_icmp_gt (tgt := 59) hx hb (dk DX10_when 18 rfl) (by decide) (fun c30 => ?_) (fun c30 => ?_)
        · have hF := if_t c30 hF
          refine lv_bipush (v := (-99 : Int32)) hx hb (dk DX10_when 33 rfl) (by decide) ?_
          cases hF
          exact x_iret C hrt hR (dk DX10_when 34 rfl)
        · have hF := if_f c30 hF
          refine lv_aload_n hx hb (dk DX10_when 19 rfl) rfl (lv_at hl 0 rfl) ?_
          refine gX10_23 C hR ob0 rf0_3 (dk DX10_when 20 rfl) ?_
          refine lv_iload_n hx hb (dk DX10_when 21 rfl) rfl (lv_at hl 1 rfl) ?_
          refine lv_iconst (v := (2 : Int32)) hx hb (dk DX10_when 22 rfl) (by decide) ?_
          refine lv_iconst (v := (0 : Int32)) hx hb (dk DX10_when 23 rfl) (by decide) ?_
          obtain ⟨xq13, mq11, hzq12, hF⟩ := bnd_ex hF
          refine r_callSi (As := [.int (2 : Int32), .int (b2i false)]) (rest := [.int a1, .ref (G.2.1 + 2)]) C hR (C_Od_kindOf l hl0 G (2 : Int32) false mq7 _ _ hzq12) (by decide) (by decide) wX10_365 rfl rfl (Nat.le_of_ble_eq_true rfl) hl.1 ⟨Nat.zero_le _, Nat.zero_le _⟩ (dk DX10_when 24 rfl) (fun H locs hR => ?_)
          refine lv_iload_n hx hb (dk DX10_when 25 rfl) rfl (lv_at hl 3 rfl) ?_
          refine lv_iload_n hx hb (dk DX10_when 26 rfl) rfl (lv_at hl 2 rfl) ?_
          obtain ⟨zq16, mq14, hzq15, hF⟩ := bnd_ex hF
          refine r_callVi (As := [.int a1, .int xq13, .int xq8, .int a2]) (rest := []) C hR (C_Od_choosesTold l hl0 G a1 xq13 xq8 a2 mq11 _ _ hzq15) (by decide) (by decide) ob2 rfl wX10_373 rfl rfl (Nat.le_of_ble_eq_true rfl) hl.1 ⟨Nat.zero_le _, Nat.zero_le _⟩ (dk DX10_when 27 rfl) (fun H locs hR => ?_)
          refine z_ifeq (tgt := 53) hx hb (dk DX10_when 28 rfl) (by decide) (fun c48 => ?_) (fun c48 => ?_)
          · have hF := if_f c48 hF
            obtain ⟨xq17, exq17, hF⟩ := lt_ex hF
            refine lv_iinc (v := xq17) (lv' := [(3, .int xq17), (0, .ref (G.2.1 + 0)), (1, .int a1), (2, .int a2)]) hx hb (dk DX10_when 31 rfl) hl (k := 3) rfl (by rw [exq17]; rfl) (by decide) rfl (fun ls hl => ?_)
            refine lv_goto (tgt := 27) hx hb (dk DX10_when 32 rfl) (by decide) ?_
            exact ihq10 xq17 mq14 _ _ ls (lv_sub hl [1, 2, 3, 0] rfl) hR hF
          · have hF := if_t c48 hF
            refine lv_iload_n hx hb (dk DX10_when 29 rfl) rfl (lv_at hl 3 rfl) ?_
            cases hF
            exact x_iret C hrt hR (dk DX10_when 30 rfl)
    exact L27 1000000 (-81 : Int32) mq4 _ _ ls (lv_sub hl [1, 2, 3, 0] rfl) hR hF
set_option maxHeartbeats 4000000 in
set_option maxRecDepth 100000 in
theorem C_T_wins (l : Launch) (hl0 : l.stackTraces = false) (G : GG) (a1 : Int32) (a2 : Int32) (a3 : Bool) (a4 : Int32) (a5 : Int32) (a6 : Int32) (m0 : Mem) (v : Nat ⊕ Int64) (m' : Mem) (hF : F_T_wins a1 a2 a3 a4 a5 a6 m0 = some (v, m')) : CtX l G mr0 N0 yX10_wins cX10_wins 7 (some .long) 288 [.ref (G.2.1 + 0), .int a1, .int a2, .int (b2i a3), .int a4, .int a5, .int a6] m0 (ouL v) m' := by
  refine CtX_of hl0 (by decide) (Nat.le_of_ble_eq_true rfl) ?_
  intro p e s mid args below meth c ls C hrt hex hl hR
  have hx := C.1.1
  have hb := C.1.2.1
  have hl : lv_has ls 7 [(0, .ref (G.2.1 + 0)), (1, .int a1), (2, .int a2), (3, .int (b2i a3)), (4, .int a4), (5, .int a5), (6, .int a6)] := hl
  unfold F_T_wins at hF
  refine lv_aload_n hx hb (dk DX10_wins 0 rfl) rfl (lv_at hl 0 rfl) ?_
  refine lv_iload_n hx hb (dk DX10_wins 1 rfl) rfl (lv_at hl 1 rfl) ?_
  refine lv_iload_n hx hb (dk DX10_wins 2 rfl) rfl (lv_at hl 2 rfl) ?_
  refine lv_iload hx hb (dk DX10_wins 3 rfl) (lv_at hl 4 rfl) ?_
  refine lv_iload hx hb (dk DX10_wins 4 rfl) (lv_at hl 5 rfl) ?_
  rcases bndX_ex hF with ⟨ke, mq1, hzq2, hF⟩ | ⟨uq3, mq1, hzq2, hF⟩
  · have hM := C_T_mustBeState l hl0 G a1 a2 a4 a5 m0 (Sum.inl ke) mq1 hzq2
    rw [show ouV (Sum.inl ke) = (Sum.inl ke : Ou) from rfl] at hM
    cases hF
    exact x_passV (d := 288) (k := ke) (As := [.int a1, .int a2, .int a4, .int a5]) (rest := []) C hex hR hM (by decide) (by decide) ob0 rfl wX10_361 rfl rfl (Nat.le_of_ble_eq_true rfl) hl.1 (dk DX10_wins 5 rfl)
  · have hM := C_T_mustBeState l hl0 G a1 a2 a4 a5 m0 (Sum.inr uq3) mq1 hzq2
    rw [show ouV (Sum.inr uq3) = (Sum.inr none : Ou) from rfl] at hM
    refine x_callVv (As := [.int a1, .int a2, .int a4, .int a5]) (rest := []) C hR hM (by decide) (by decide) ob0 rfl wX10_361 rfl rfl (Nat.le_of_ble_eq_true rfl) hl.1 ⟨Nat.zero_le _, Nat.zero_le _⟩ (dk DX10_wins 5 rfl) (fun H locs hR => ?_)
    refine lv_iload hx hb (dk DX10_wins 6 rfl) (lv_at hl 6 rfl) ?_
    obtain ⟨k21_4, ek21_4, hF⟩ := lt_ex hF
    have J21 : ∀ (mq4 : Mem) (H : Heap) (locs : List Loc) (ls : Array Slot), lv_has ls 7 [] → Rp G mr0 N0 mq4 s H locs → k21_4  mq4 = some (v, m') → W p l e (rmX 288 (ouL v)) s mid args below meth c H locs 0 0 (ZX below G mr0 N0 (ouL v) m' args s) (F0 mid 21 ls []) := by
      intro  mq4 H locs ls hl hR hF
      rw [ek21_4] at hF
      cases hF
      exact r_throw (d := 288) (k := 4) C hex hR tX10_186 strm_X10_184 (by decide) (Nat.le_of_ble_eq_true rfl) hl.1 (dk DX10_wins 11 rfl) (dk DX10_wins 12 rfl) (dk DX10_wins 13 rfl) (dk DX10_wins 14 rfl) (dk DX10_wins 15 rfl)
    refine lv_if_lt (tgt := 21) hx hb (dk DX10_wins 7 rfl) (by decide) (fun c12 => ?_) (fun c12 => ?_)
    · have hF := if_t c12 hF
      exact J21 mq1 _ _ ls (lv_sub hl [] rfl) hR hF
    · have hF := if_f c12 hF
      refine lv_iload hx hb (dk DX10_wins 8 rfl) (lv_at hl 6 rfl) ?_
      refine lv_iconst (v := (2 : Int32)) hx hb (dk DX10_wins 9 rfl) (by decide) ?_
      refine lv_icmp_le (tgt := 31) hx hb (dk DX10_wins 10 rfl) (by decide) (fun c18 => ?_) (fun c18 => ?_)
      · have hF := if_t c18 hF
        refine lv_aload_n hx hb (dk DX10_wins 16 rfl) rfl (lv_at hl 0 rfl) ?_
        refine gX10_23 C hR ob0 rf0_3 (dk DX10_wins 17 rfl) ?_
        refine lv_iconst (v := (0 : Int32)) hx hb (dk DX10_wins 18 rfl) (by decide) ?_
        refine lv_aload_n hx hb (dk DX10_wins 19 rfl) rfl (lv_at hl 0 rfl) ?_
        refine gX10_31 C hR ob0 rf0_4 (dk DX10_wins 20 rfl) ?_
        refine gX10_200 C hR ob3 (dk DX10_wins 21 rfl) ?_
        refine lv_iconst (v := (0 : Int32)) hx hb (dk DX10_wins 22 rfl) (by decide) ?_
        obtain ⟨uq7, mq5, hzq6, hF⟩ := bnd_ex hF
        refine r_callVv (As := [.int (0 : Int32), .int (gI mq1 3 5), .int (b2i false)]) (rest := []) C hR (C_Od_ready l hl0 G (0 : Int32) (gI mq1 3 5) false mq1 _ _ hzq6) (by decide) (by decide) ob2 rfl wX10_327 rfl rfl (Nat.le_of_ble_eq_true rfl) hl.1 ⟨Nat.zero_le _, Nat.zero_le _⟩ (dk DX10_wins 23 rfl) (fun H locs hR => ?_)
        refine lv_aload_n hx hb (dk DX10_wins 24 rfl) rfl (lv_at hl 0 rfl) ?_
        refine lv_iload_n hx hb (dk DX10_wins 25 rfl) rfl (lv_at hl 1 rfl) ?_
        refine lv_iload_n hx hb (dk DX10_wins 26 rfl) rfl (lv_at hl 2 rfl) ?_
        refine lv_iload_n hx hb (dk DX10_wins 27 rfl) rfl (lv_at hl 3 rfl) ?_
        obtain ⟨xq10, mq8, hzq9, hF⟩ := bnd_ex hF
        refine r_callSi (As := [.int a2, .int (b2i a3)]) (rest := [.int a1, .ref (G.2.1 + 0)]) C hR (C_Od_kindOf l hl0 G a2 a3 mq5 _ _ hzq9) (by decide) (by decide) wX10_365 rfl rfl (Nat.le_of_ble_eq_true rfl) hl.1 ⟨Nat.zero_le _, Nat.zero_le _⟩ (dk DX10_wins 28 rfl) (fun H locs hR => ?_)
        refine lv_iload hx hb (dk DX10_wins 29 rfl) (lv_at hl 4 rfl) ?_
        refine lv_iload hx hb (dk DX10_wins 30 rfl) (lv_at hl 5 rfl) ?_
        refine lv_iload hx hb (dk DX10_wins 31 rfl) (lv_at hl 6 rfl) ?_
        obtain ⟨yq13, mq11, hzq12, hF⟩ := bnd_ex hF
        refine r_callVl (As := [.int a1, .int xq10, .int a4, .int a5, .int a6]) (rest := []) C hR (C_T_winsOf l hl0 G a1 xq10 a4 a5 a6 mq8 _ _ hzq12) (by decide) (by decide) ob0 rfl wX10_369 rfl rfl (Nat.le_of_ble_eq_true rfl) hl.1 ⟨Nat.zero_le _, Nat.zero_le _⟩ (dk DX10_wins 32 rfl) (fun H locs hR => ?_)
        cases hF
        exact x_lret C hrt hR (dk DX10_wins 33 rfl)
      · have hF := if_f c18 hF
        exact J21 mq1 _ _ ls (lv_sub hl [] rfl) hR hF
set_option maxHeartbeats 4000000 in
set_option maxRecDepth 100000 in
theorem C_T_worth (l : Launch) (hl0 : l.stackTraces = false) (G : GG) (a1 : Int32) (a2 : Int32) (m0 : Mem) (v : Nat ⊕ Int64) (m' : Mem) (hF : F_T_worth a1 a2 m0 = some (v, m')) : CtX l G mr0 N0 yX10_worth cX10_worth 3 (some .long) 289 [.ref (G.2.1 + 0), .int a1, .int a2] m0 (ouL v) m' := by
  refine CtX_of hl0 (by decide) (Nat.le_of_ble_eq_true rfl) ?_
  intro p e s mid args below meth c ls C hrt hex hl hR
  have hx := C.1.1
  have hb := C.1.2.1
  have hl : lv_has ls 3 [(0, .ref (G.2.1 + 0)), (1, .int a1), (2, .int a2)] := hl
  unfold F_T_worth at hF
  refine lv_aload_n hx hb (dk DX10_worth 0 rfl) rfl (lv_at hl 0 rfl) ?_
  refine lv_iload_n hx hb (dk DX10_worth 1 rfl) rfl (lv_at hl 1 rfl) ?_
  refine lv_iconst (v := (2 : Int32)) hx hb (dk DX10_worth 2 rfl) (by decide) ?_
  rcases bndX_ex hF with ⟨ke, mq1, hzq2, hF⟩ | ⟨uq3, mq1, hzq2, hF⟩
  · have hM := C_T_mustBeBelow l hl0 G a1 (2 : Int32) m0 (Sum.inl ke) mq1 hzq2
    rw [show ouV (Sum.inl ke) = (Sum.inl ke : Ou) from rfl] at hM
    cases hF
    exact x_passV (d := 289) (k := ke) (As := [.int a1, .int (2 : Int32)]) (rest := []) C hex hR hM (by decide) (by decide) ob0 rfl wX10_149 rfl rfl (Nat.le_of_ble_eq_true rfl) hl.1 (dk DX10_worth 3 rfl)
  · have hM := C_T_mustBeBelow l hl0 G a1 (2 : Int32) m0 (Sum.inr uq3) mq1 hzq2
    rw [show ouV (Sum.inr uq3) = (Sum.inr none : Ou) from rfl] at hM
    refine x_callVv (As := [.int a1, .int (2 : Int32)]) (rest := []) C hR hM (by decide) (by decide) ob0 rfl wX10_149 rfl rfl (Nat.le_of_ble_eq_true rfl) hl.1 ⟨Nat.zero_le _, Nat.zero_le _⟩ (dk DX10_worth 3 rfl) (fun H locs hR => ?_)
    refine lv_iload_n hx hb (dk DX10_worth 4 rfl) rfl (lv_at hl 2 rfl) ?_
    by_cases d0 : a2 = (0 : Int32)
    · have hF := if_t d0 hF
      refine lv_tableIn (tgt := 36) hx hb (dk DX10_worth 5 rfl) (by rw [d0]; decide) (by rw [d0]; decide) (by rw [d0]; rfl) (by decide) ?_
      refine lv_aload_n hx hb (dk DX10_worth 6 rfl) rfl (lv_at hl 0 rfl) ?_
      refine lv_iload_n hx hb (dk DX10_worth 7 rfl) rfl (lv_at hl 1 rfl) ?_
      refine lv_iload_n hx hb (dk DX10_worth 8 rfl) rfl (lv_at hl 1 rfl) ?_
      obtain ⟨yq6, mq4, hzq5, hF⟩ := bnd_ex hF
      refine r_callVl (As := [.int a1, .int a1]) (rest := []) C hR (C_T_tossValue l hl0 G a1 a1 mq1 _ _ hzq5) (by decide) (by decide) ob0 rfl wX10_344 rfl rfl (Nat.le_of_ble_eq_true rfl) hl.1 ⟨Nat.zero_le _, Nat.zero_le _⟩ (dk DX10_worth 9 rfl) (fun H locs hR => ?_)
      cases hF
      exact x_lret C hrt hR (dk DX10_worth 10 rfl)
    · have hF := if_f d0 hF
      by_cases d1 : a2 = (1 : Int32)
      · have hF := if_t d1 hF
        refine lv_tableIn (tgt := 43) hx hb (dk DX10_worth 5 rfl) (by rw [d1]; decide) (by rw [d1]; decide) (by rw [d1]; rfl) (by decide) ?_
        refine lv_aload_n hx hb (dk DX10_worth 11 rfl) rfl (lv_at hl 0 rfl) ?_
        refine lv_iload_n hx hb (dk DX10_worth 12 rfl) rfl (lv_at hl 1 rfl) ?_
        refine lv_iconst (v := (1 : Int32)) hx hb (dk DX10_worth 13 rfl) (by decide) ?_
        refine lv_iload_n hx hb (dk DX10_worth 14 rfl) rfl (lv_at hl 1 rfl) ?_
        refine lv_isub hx hb (dk DX10_worth 15 rfl) ?_
        obtain ⟨yq9, mq7, hzq8, hF⟩ := bnd_ex hF
        refine r_callVl (As := [.int a1, .int ((1 : Int32) - a1)]) (rest := []) C hR (C_T_tossValue l hl0 G a1 ((1 : Int32) - a1) mq1 _ _ hzq8) (by decide) (by decide) ob0 rfl wX10_344 rfl rfl (Nat.le_of_ble_eq_true rfl) hl.1 ⟨Nat.zero_le _, Nat.zero_le _⟩ (dk DX10_worth 16 rfl) (fun H locs hR => ?_)
        cases hF
        exact x_lret C hrt hR (dk DX10_worth 17 rfl)
      · have hF := if_f d1 hF
        by_cases d2 : a2 = (2 : Int32)
        · have hF := if_t d2 hF
          refine lv_tableIn (tgt := 52) hx hb (dk DX10_worth 5 rfl) (by rw [d2]; decide) (by rw [d2]; decide) (by rw [d2]; rfl) (by decide) ?_
          refine lv_aload_n hx hb (dk DX10_worth 18 rfl) rfl (lv_at hl 0 rfl) ?_
          refine lv_iload_n hx hb (dk DX10_worth 19 rfl) rfl (lv_at hl 1 rfl) ?_
          refine lv_iconst (v := (0 : Int32)) hx hb (dk DX10_worth 20 rfl) (by decide) ?_
          obtain ⟨yq12, mq10, hzq11, hF⟩ := bnd_ex hF
          refine r_callVl (As := [.int a1, .int (0 : Int32)]) (rest := []) C hR (C_T_tossValue l hl0 G a1 (0 : Int32) mq1 _ _ hzq11) (by decide) (by decide) ob0 rfl wX10_344 rfl rfl (Nat.le_of_ble_eq_true rfl) hl.1 ⟨Nat.zero_le _, Nat.zero_le _⟩ (dk DX10_worth 21 rfl) (fun H locs hR => ?_)
          refine lv_aload_n hx hb (dk DX10_worth 22 rfl) rfl (lv_at hl 0 rfl) ?_
          refine lv_iload_n hx hb (dk DX10_worth 23 rfl) rfl (lv_at hl 1 rfl) ?_
          refine lv_iconst (v := (1 : Int32)) hx hb (dk DX10_worth 24 rfl) (by decide) ?_
          obtain ⟨yq15, mq13, hzq14, hF⟩ := bnd_ex hF
          refine r_callVl (As := [.int a1, .int (1 : Int32)]) (rest := [.long yq12]) C hR (C_T_tossValue l hl0 G a1 (1 : Int32) mq10 _ _ hzq14) (by decide) (by decide) ob0 rfl wX10_344 rfl rfl (Nat.le_of_ble_eq_true rfl) hl.1 ⟨Nat.zero_le _, Nat.zero_le _⟩ (dk DX10_worth 25 rfl) (fun H locs hR => ?_)
          refine lv_lsub hx hb (dk DX10_worth 26 rfl) ?_
          refine r_abL C (gd q1376 rfl) (by decide) (Nat.le_of_ble_eq_true rfl) hl.1 ⟨Nat.zero_le _, Nat.zero_le _⟩ (dk DX10_worth 27 rfl) ?_
          cases hF
          exact x_lret C hrt hR (dk DX10_worth 28 rfl)
        · have hF := if_f d2 hF
          by_cases d3 : a2 = (3 : Int32)
          · have hF := if_t d3 hF
            refine lv_tableIn (tgt := 69) hx hb (dk DX10_worth 5 rfl) (by rw [d3]; decide) (by rw [d3]; decide) (by rw [d3]; rfl) (by decide) ?_
            refine lv_aload_n hx hb (dk DX10_worth 29 rfl) rfl (lv_at hl 0 rfl) ?_
            refine lv_iload_n hx hb (dk DX10_worth 30 rfl) rfl (lv_at hl 1 rfl) ?_
            obtain ⟨yq18, mq16, hzq17, hF⟩ := bnd_ex hF
            refine r_callVl (As := [.int a1]) (rest := []) C hR (C_T_leftValue l hl0 G a1 mq1 _ _ hzq17) (by decide) (by decide) ob0 rfl wX10_352 rfl rfl (Nat.le_of_ble_eq_true rfl) hl.1 ⟨Nat.zero_le _, Nat.zero_le _⟩ (dk DX10_worth 31 rfl) (fun H locs hR => ?_)
            cases hF
            exact x_lret C hrt hR (dk DX10_worth 32 rfl)
          · have hF := if_f d3 hF
            have n0 := i32_ne d0 (z := 0) rfl
            have n1 := i32_ne d1 (z := 1) rfl
            have n2 := i32_ne d2 (z := 2) rfl
            have n3 := i32_ne d3 (z := 3) rfl
            refine lv_tableOut (tgt := 75) hx hb (dk DX10_worth 5 rfl) (by omega) (by decide) ?_
            cases hF
            exact r_throw (d := 289) (k := 4) C hex hR tX10_186 strm_X10_184 (by decide) (Nat.le_of_ble_eq_true rfl) hl.1 (dk DX10_worth 33 rfl) (dk DX10_worth 34 rfl) (dk DX10_worth 35 rfl) (dk DX10_worth 36 rfl) (dk DX10_worth 37 rfl)
set_option maxHeartbeats 4000000 in
set_option maxRecDepth 100000 in
theorem C_M_in (l : Launch) (hl0 : l.stackTraces = false) (G : GG) (a0 : Int32) (a1 : Int32) (a2 : Int32) (m0 : Mem) (v : Bool) (m' : Mem) (hF : F_M_in a0 a1 a2 m0 = some (v, m')) : Ct l G mr0 N0 yX11_in cX11_in 3 (some .boolean) 1 [.int a0, .int a1, .int a2] m0 (some (.int (b2i v))) m' := by
  refine Ct_of hl0 (by decide) (Nat.le_of_ble_eq_true rfl) ?_
  intro p e s mid args below meth c ls C hrt hl hR
  have hx := C.1.1
  have hb := C.1.2.1
  have hl : lv_has ls 3 [(0, .int a0), (1, .int a1), (2, .int a2)] := hl
  unfold F_M_in at hF
  refine lv_iload_n hx hb (dk DX11_in 0 rfl) rfl (lv_at hl 0 rfl) ?_
  refine lv_iload_n hx hb (dk DX11_in 1 rfl) rfl (lv_at hl 1 rfl) ?_
  refine lv_icmp_lt (tgt := 14) hx hb (dk DX11_in 2 rfl) (by decide) (fun c2 => ?_) (fun c2 => ?_)
  · have hF := if_t c2 hF
    refine lv_iconst (v := (0 : Int32)) hx hb (dk DX11_in 8 rfl) (by decide) ?_
    cases hF
    exact r_zret C hrt hR (dk DX11_in 9 rfl)
  · have hF := if_f c2 hF
    refine lv_iload_n hx hb (dk DX11_in 3 rfl) rfl (lv_at hl 0 rfl) ?_
    refine lv_iload_n hx hb (dk DX11_in 4 rfl) rfl (lv_at hl 2 rfl) ?_
    refine lv_icmp_gt (tgt := 14) hx hb (dk DX11_in 5 rfl) (by decide) (fun c7 => ?_) (fun c7 => ?_)
    · have hF := if_t c7 hF
      refine lv_iconst (v := (0 : Int32)) hx hb (dk DX11_in 8 rfl) (by decide) ?_
      cases hF
      exact r_zret C hrt hR (dk DX11_in 9 rfl)
    · have hF := if_f c7 hF
      refine lv_iconst (v := (1 : Int32)) hx hb (dk DX11_in 6 rfl) (by decide) ?_
      refine lv_goto (tgt := 15) hx hb (dk DX11_in 7 rfl) (by decide) ?_
      cases hF
      exact r_zret C hrt hR (dk DX11_in 9 rfl)
set_option maxHeartbeats 4000000 in
set_option maxRecDepth 100000 in
theorem C_M_noSlot (l : Launch) (hl0 : l.stackTraces = false) (G : GG) (a0 : Int32) (m0 : Mem) (v : Bool) (m' : Mem) (hF : F_M_noSlot a0 m0 = some (v, m')) : Ct l G mr0 N0 yX11_noSlot cX11_noSlot 1 (some .boolean) 2 [.int a0] m0 (some (.int (b2i v))) m' := by
  refine Ct_of hl0 (by decide) (Nat.le_of_ble_eq_true rfl) ?_
  intro p e s mid args below meth c ls C hrt hl hR
  have hx := C.1.1
  have hb := C.1.2.1
  have hl : lv_has ls 1 [(0, .int a0)] := hl
  unfold F_M_noSlot at hF
  refine lv_iload_n hx hb (dk DX11_noSlot 0 rfl) rfl (lv_at hl 0 rfl) ?_
  refine lv_iconst (v := (0 : Int32)) hx hb (dk DX11_noSlot 1 rfl) (by decide) ?_
  refine lv_iconst (v := (3 : Int32)) hx hb (dk DX11_noSlot 2 rfl) (by decide) ?_
  obtain ⟨zq3, mq1, hzq2, hF⟩ := bnd_ex hF
  refine r_callSi (As := [.int a0, .int (0 : Int32), .int (3 : Int32)]) (rest := []) C hR (C_M_in l hl0 G a0 (0 : Int32) (3 : Int32) m0 _ _ hzq2) (by decide) (by decide) wX11_67 rfl rfl (Nat.le_of_ble_eq_true rfl) hl.1 ⟨Nat.zero_le _, Nat.zero_le _⟩ (dk DX11_noSlot 3 rfl) (fun H locs hR => ?_)
  refine z_ifne (tgt := 13) hx hb (dk DX11_noSlot 4 rfl) (by decide) (fun c6 => ?_) (fun c6 => ?_)
  · have hF := if_t c6 hF
    refine lv_iconst (v := (0 : Int32)) hx hb (dk DX11_noSlot 7 rfl) (by decide) ?_
    cases hF
    exact r_zret C hrt hR (dk DX11_noSlot 8 rfl)
  · have hF := if_f c6 hF
    refine lv_iconst (v := (1 : Int32)) hx hb (dk DX11_noSlot 5 rfl) (by decide) ?_
    refine lv_goto (tgt := 14) hx hb (dk DX11_noSlot 6 rfl) (by decide) ?_
    cases hF
    exact r_zret C hrt hR (dk DX11_noSlot 8 rfl)
set_option maxHeartbeats 4000000 in
set_option maxRecDepth 100000 in
theorem C_M_throwsIf (l : Launch) (hl0 : l.stackTraces = false) (G : GG) (a1 : Bool) (a2 : Int32) (m0 : Mem) (v : Bool) (m' : Mem) (hF : F_M_throwsIf a1 a2 m0 = some (v, m')) : Ct l G mr0 N0 yX11_throwsIf cX11_throwsIf 3 (some .boolean) 1 [.ref (G.2.1 + 78), .int (b2i a1), .int a2] m0 (some (.int (b2i v))) m' := by
  refine Ct_of hl0 (by decide) (Nat.le_of_ble_eq_true rfl) ?_
  intro p e s mid args below meth c ls C hrt hl hR
  have hx := C.1.1
  have hb := C.1.2.1
  have hl : lv_has ls 3 [(0, .ref (G.2.1 + 78)), (1, .int (b2i a1)), (2, .int a2)] := hl
  unfold F_M_throwsIf at hF
  refine lv_iload_n hx hb (dk DX11_throwsIf 0 rfl) rfl (lv_at hl 1 rfl) ?_
  refine z_ifeq (tgt := 9) hx hb (dk DX11_throwsIf 1 rfl) (by decide) (fun c1 => ?_) (fun c1 => ?_)
  · have hF := if_f c1 hF
    refine lv_iload_n hx hb (dk DX11_throwsIf 5 rfl) rfl (lv_at hl 1 rfl) ?_
    cases hF
    exact r_zret C hrt hR (dk DX11_throwsIf 6 rfl)
  · have hF := if_t c1 hF
    refine lv_aload_n hx hb (dk DX11_throwsIf 2 rfl) rfl (lv_at hl 0 rfl) ?_
    refine lv_iload_n hx hb (dk DX11_throwsIf 3 rfl) rfl (lv_at hl 2 rfl) ?_
    refine pX11_3 (x := a2) C hR ob78 (dk DX11_throwsIf 4 rfl) (fun H locs hR => ?_)
    obtain ⟨mq1, emq1, hF⟩ := lt_ex hF
    have hR := Rp_at emq1 hR
    refine lv_iload_n hx hb (dk DX11_throwsIf 5 rfl) rfl (lv_at hl 1 rfl) ?_
    cases hF
    exact r_zret C hrt hR (dk DX11_throwsIf 6 rfl)
