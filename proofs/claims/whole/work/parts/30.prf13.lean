set_option maxHeartbeats 4000000 in
set_option maxRecDepth 100000 in
theorem C_M_habit (l : Launch) (hl0 : l.stackTraces = false) (G : GG) (a1 : Bool) (m0 : Mem) (v : Bool) (m' : Mem) (hF : F_M_habit a1 m0 = some (v, m')) : Ct l G mr0 N0 yX11_habit cX11_habit 2 (some .boolean) 4 [.ref (G.2.1 + 78), .int (b2i a1)] m0 (some (.int (b2i v))) m' := by
  refine Ct_of hl0 (by decide) (Nat.le_of_ble_eq_true rfl) ?_
  intro p e s mid args below meth c ls C hrt hl hR
  have hx := C.1.1
  have hb := C.1.2.1
  have hl : lv_has ls 2 [(0, .ref (G.2.1 + 78)), (1, .int (b2i a1))] := hl
  unfold F_M_habit at hF
  refine lv_aload_n hx hb (dk DX11_habit 0 rfl) rfl (lv_at hl 0 rfl) ?_
  refine lv_iconst (v := (0 : Int32)) hx hb (dk DX11_habit 1 rfl) (by decide) ?_
  refine pX11_3 (x := (0 : Int32)) C hR ob78 (dk DX11_habit 2 rfl) (fun H locs hR => ?_)
  obtain ⟨mq1, emq1, hF⟩ := lt_ex hF
  have hR := Rp_at emq1 hR
  refine lv_iload_n hx hb (dk DX11_habit 3 rfl) rfl (lv_at hl 1 rfl) ?_
  refine z_ifeq (tgt := 36) hx hb (dk DX11_habit 4 rfl) (by decide) (fun c6 => ?_) (fun c6 => ?_)
  · have hF := if_f c6 hF
    refine lv_aload_n hx hb (dk DX11_habit 22 rfl) rfl (lv_at hl 0 rfl) ?_
    refine lv_iconst (v := (0 : Int32)) hx hb (dk DX11_habit 23 rfl) (by decide) ?_
    obtain ⟨xq4, mq2, hzq3, hF⟩ := bnd_ex hF
    refine r_callVi (As := [.int (0 : Int32)]) (rest := []) C hR (C_M_bookOf l hl0 G (0 : Int32) mq1 _ _ hzq3) (by decide) (by decide) ob78 rfl wX11_473 rfl rfl (Nat.le_of_ble_eq_true rfl) hl.1 ⟨Nat.zero_le _, Nat.zero_le _⟩ (dk DX11_habit 24 rfl) (fun H locs hR => ?_)
    refine lv_if_le (tgt := 67) hx hb (dk DX11_habit 25 rfl) (by decide) (fun c41 => ?_) (fun c41 => ?_)
    · have hF := if_t c41 hF
      refine lv_iconst (v := (0 : Int32)) hx hb (dk DX11_habit 39 rfl) (by decide) ?_
      cases hF
      exact r_zret C hrt hR (dk DX11_habit 40 rfl)
    · have hF := if_f c41 hF
      refine lv_bipush (v := (10 : Int32)) hx hb (dk DX11_habit 26 rfl) (by decide) ?_
      refine lv_aload_n hx hb (dk DX11_habit 27 rfl) rfl (lv_at hl 0 rfl) ?_
      refine lv_iconst (v := (1 : Int32)) hx hb (dk DX11_habit 28 rfl) (by decide) ?_
      obtain ⟨xq7, mq5, hzq6, hF⟩ := bnd_ex hF
      refine r_callVi (As := [.int (1 : Int32)]) (rest := [.int (10 : Int32)]) C hR (C_M_bookOf l hl0 G (1 : Int32) mq2 _ _ hzq6) (by decide) (by decide) ob78 rfl wX11_473 rfl rfl (Nat.le_of_ble_eq_true rfl) hl.1 ⟨Nat.zero_le _, Nat.zero_le _⟩ (dk DX11_habit 29 rfl) (fun H locs hR => ?_)
      refine lv_imul hx hb (dk DX11_habit 30 rfl) ?_
      refine lv_bipush (v := (9 : Int32)) hx hb (dk DX11_habit 31 rfl) (by decide) ?_
      refine lv_aload_n hx hb (dk DX11_habit 32 rfl) rfl (lv_at hl 0 rfl) ?_
      refine lv_iconst (v := (0 : Int32)) hx hb (dk DX11_habit 33 rfl) (by decide) ?_
      obtain ⟨xq10, mq8, hzq9, hF⟩ := bnd_ex hF
      refine r_callVi (As := [.int (0 : Int32)]) (rest := [.int (9 : Int32), .int ((10 : Int32) * xq7)]) C hR (C_M_bookOf l hl0 G (0 : Int32) mq5 _ _ hzq9) (by decide) (by decide) ob78 rfl wX11_473 rfl rfl (Nat.le_of_ble_eq_true rfl) hl.1 ⟨Nat.zero_le _, Nat.zero_le _⟩ (dk DX11_habit 34 rfl) (fun H locs hR => ?_)
      refine lv_imul hx hb (dk DX11_habit 35 rfl) ?_
      refine lv_icmp_lt (tgt := 67) hx hb (dk DX11_habit 36 rfl) (by decide) (fun c60 => ?_) (fun c60 => ?_)
      · have hF := if_t c60 hF
        refine lv_iconst (v := (0 : Int32)) hx hb (dk DX11_habit 39 rfl) (by decide) ?_
        cases hF
        exact r_zret C hrt hR (dk DX11_habit 40 rfl)
      · have hF := if_f c60 hF
        refine lv_iconst (v := (1 : Int32)) hx hb (dk DX11_habit 37 rfl) (by decide) ?_
        refine lv_goto (tgt := 68) hx hb (dk DX11_habit 38 rfl) (by decide) ?_
        cases hF
        exact r_zret C hrt hR (dk DX11_habit 40 rfl)
  · have hF := if_t c6 hF
    refine lv_iconst (v := (2 : Int32)) hx hb (dk DX11_habit 5 rfl) (by decide) ?_
    refine lv_aload_n hx hb (dk DX11_habit 6 rfl) rfl (lv_at hl 0 rfl) ?_
    refine lv_iconst (v := (3 : Int32)) hx hb (dk DX11_habit 7 rfl) (by decide) ?_
    obtain ⟨xq13, mq11, hzq12, hF⟩ := bnd_ex hF
    refine r_callVi (As := [.int (3 : Int32)]) (rest := [.int (2 : Int32)]) C hR (C_M_bookOf l hl0 G (3 : Int32) mq1 _ _ hzq12) (by decide) (by decide) ob78 rfl wX11_473 rfl rfl (Nat.le_of_ble_eq_true rfl) hl.1 ⟨Nat.zero_le _, Nat.zero_le _⟩ (dk DX11_habit 8 rfl) (fun H locs hR => ?_)
    refine lv_imul hx hb (dk DX11_habit 9 rfl) ?_
    refine lv_aload_n hx hb (dk DX11_habit 10 rfl) rfl (lv_at hl 0 rfl) ?_
    refine lv_iconst (v := (0 : Int32)) hx hb (dk DX11_habit 11 rfl) (by decide) ?_
    obtain ⟨xq16, mq14, hzq15, hF⟩ := bnd_ex hF
    refine r_callVi (As := [.int (0 : Int32)]) (rest := [.int ((2 : Int32) * xq13)]) C hR (C_M_bookOf l hl0 G (0 : Int32) mq11 _ _ hzq15) (by decide) (by decide) ob78 rfl wX11_473 rfl rfl (Nat.le_of_ble_eq_true rfl) hl.1 ⟨Nat.zero_le _, Nat.zero_le _⟩ (dk DX11_habit 12 rfl) (fun H locs hR => ?_)
    refine lv_aload_n hx hb (dk DX11_habit 13 rfl) rfl (lv_at hl 0 rfl) ?_
    refine lv_iconst (v := (5 : Int32)) hx hb (dk DX11_habit 14 rfl) (by decide) ?_
    obtain ⟨xq19, mq17, hzq18, hF⟩ := bnd_ex hF
    refine r_callVi (As := [.int (5 : Int32)]) (rest := [.int xq16, .int ((2 : Int32) * xq13)]) C hR (C_M_bookOf l hl0 G (5 : Int32) mq14 _ _ hzq18) (by decide) (by decide) ob78 rfl wX11_473 rfl rfl (Nat.le_of_ble_eq_true rfl) hl.1 ⟨Nat.zero_le _, Nat.zero_le _⟩ (dk DX11_habit 15 rfl) (fun H locs hR => ?_)
    refine lv_isub hx hb (dk DX11_habit 16 rfl) ?_
    refine lv_icmp_ne (tgt := 34) hx hb (dk DX11_habit 17 rfl) (by decide) (fun c27 => ?_) (fun c27 => ?_)
    · have hF := if_f c27 hF
      refine lv_iconst (v := (0 : Int32)) hx hb (dk DX11_habit 20 rfl) (by decide) ?_
      cases hF
      exact r_zret C hrt hR (dk DX11_habit 21 rfl)
    · have hF := if_t c27 hF
      refine lv_iconst (v := (1 : Int32)) hx hb (dk DX11_habit 18 rfl) (by decide) ?_
      refine lv_goto (tgt := 35) hx hb (dk DX11_habit 19 rfl) (by decide) ?_
      cases hF
      exact r_zret C hrt hR (dk DX11_habit 21 rfl)
set_option maxHeartbeats 4000000 in
set_option maxRecDepth 100000 in
theorem C_M_hardest (l : Launch) (hl0 : l.stackTraces = false) (G : GG) (a1 : Int32) (a2 : Int32) (m0 : Mem) (v : Int32) (m' : Mem) (hF : F_M_hardest a1 a2 m0 = some (v, m')) : Ct l G mr0 N0 yX11_hardest cX11_hardest 5 (some .int) 4 [.ref (G.2.1 + 78), .int a1, .int a2] m0 (some (.int v)) m' := by
  refine Ct_of hl0 (by decide) (Nat.le_of_ble_eq_true rfl) ?_
  intro p e s mid args below meth c ls C hrt hl hR
  have hx := C.1.1
  have hb := C.1.2.1
  have hl : lv_has ls 5 [(0, .ref (G.2.1 + 78)), (1, .int a1), (2, .int a2)] := hl
  unfold F_M_hardest at hF
  refine lv_aload_n hx hb (dk DX11_hardest 0 rfl) rfl (lv_at hl 0 rfl) ?_
  refine lv_iconst (v := (0 : Int32)) hx hb (dk DX11_hardest 1 rfl) (by decide) ?_
  refine pX11_3 (x := (0 : Int32)) C hR ob78 (dk DX11_hardest 2 rfl) (fun H locs hR => ?_)
  obtain ⟨mq1, emq1, hF⟩ := lt_ex hF
  have hR := Rp_at emq1 hR
  refine lv_aload_n hx hb (dk DX11_hardest 3 rfl) rfl (lv_at hl 0 rfl) ?_
  refine lv_iload_n hx hb (dk DX11_hardest 4 rfl) rfl (lv_at hl 1 rfl) ?_
  obtain ⟨zq4, mq2, hzq3, hF⟩ := bnd_ex hF
  refine r_callSi (As := [.int a1]) (rest := [.ref (G.2.1 + 78)]) C hR (C_M_noInnings l hl0 G a1 mq1 _ _ hzq3) (by decide) (by decide) wX11_256 rfl rfl (Nat.le_of_ble_eq_true rfl) hl.1 ⟨Nat.zero_le _, Nat.zero_le _⟩ (dk DX11_hardest 5 rfl) (fun H locs hR => ?_)
  obtain ⟨k25_6, ek25_6, hF⟩ := lt_ex hF
  have J25 : ∀ (zq6 : Bool) (mq5 : Mem) (H : Heap) (locs : List Loc) (ls : Array Slot), lv_has ls 5 [(0, .ref (G.2.1 + 78)), (1, .int a1), (2, .int a2)] → Rp G mr0 N0 mq5 s H locs → k25_6 zq6 mq5 = some (v, m') → W p l e (rmD 4) s mid args below meth c H locs 0 0 (MQ below (QR G mr0 N0 (some (.int v)) m') args s 0 0 (fun q => G.2.1 ≤ q)) (F0 mid 25 ls [.int (b2i zq6), .ref (G.2.1 + 78)]) := by
    intro zq6 mq5 H locs ls hl hR hF
    rw [ek25_6] at hF
    refine lv_iconst (v := (1 : Int32)) hx hb (dk DX11_hardest 13 rfl) (by decide) ?_
    obtain ⟨zq9, mq7, hzq8, hF⟩ := bnd_ex hF
    refine r_callVi (As := [.int (b2i zq6), .int (1 : Int32)]) (rest := []) C hR (C_M_throwsIf l hl0 G zq6 (1 : Int32) mq5 _ _ hzq8) (by decide) (by decide) ob78 rfl wX11_227 rfl rfl (Nat.le_of_ble_eq_true rfl) hl.1 ⟨Nat.zero_le _, Nat.zero_le _⟩ (dk DX11_hardest 14 rfl) (fun H locs hR => ?_)
    refine z_ifeq (tgt := 34) hx hb (dk DX11_hardest 15 rfl) (by decide) (fun c29 => ?_) (fun c29 => ?_)
    · have hF := if_f c29 hF
      refine lv_iconst (v := (0 : Int32)) hx hb (dk DX11_hardest 18 rfl) (by decide) ?_
      refine lv_istore_n (lv' := [(3, .int (0 : Int32)), (0, .ref (G.2.1 + 78)), (1, .int a1), (2, .int a2)]) hx hb (dk DX11_hardest 19 rfl) rfl hl (by decide) rfl (fun ls hl => ?_)
      refine lv_iconst (v := (1 : Int32)) hx hb (dk DX11_hardest 20 rfl) (by decide) ?_
      refine lv_istore (lv' := [(4, .int (1 : Int32)), (3, .int (0 : Int32)), (0, .ref (G.2.1 + 78)), (1, .int a1), (2, .int a2)]) hx hb (dk DX11_hardest 21 rfl) hl (by decide) rfl (fun ls hl => ?_)
      have L39 : ∀ (nf : Nat) (xq11 : Int32) (xq12 : Int32) (mq10 : Mem) (H : Heap) (locs : List Loc) (ls : Array Slot), lv_has ls 5 [(0, .ref (G.2.1 + 78)), (1, .int a1), (2, .int a2), (3, .int xq11), (4, .int xq12)] → Rp G mr0 N0 mq10 s H locs → F_M_hardest_L39 a1 a2 nf xq11 xq12 mq10 = some (v, m') → W p l e (rmD 4) s mid args below meth c H locs 0 0 (MQ below (QR G mr0 N0 (some (.int v)) m') args s 0 0 (fun q => G.2.1 ≤ q)) (F0 mid 39 ls []) := by
        intro nf
        induction nf with
        | zero =>
          intro xq11 xq12 mq10 H locs ls hl hR hF
          rw [F_M_hardest_L39] at hF
          cases hF
        | succ nf ihq14 =>
          intro xq11 xq12 mq10 H locs ls hl hR hF
          rw [F_M_hardest_L39] at hF
          refine lv_iload hx hb (dk DX11_hardest 22 rfl) (lv_at hl 4 rfl) ?_
          refine lv_aload_n hx hb (dk DX11_hardest 23 rfl) rfl (lv_at hl 0 rfl) ?_
          obtain ⟨xq17, mq15, hzq16, hF⟩ := bnd_ex hF
          refine r_callVi (As := []) (rest := [.int xq12]) C hR (C_M_size l hl0 G mq10 _ _ hzq16) (by decide) (by decide) ob78 rfl wX11_63 rfl rfl (Nat.le_of_ble_eq_true rfl) hl.1 ⟨Nat.zero_le _, Nat.zero_le _⟩ (dk DX11_hardest 24 rfl) (fun H locs hR => ?_)
          refine lv_icmp_ge (tgt := 79) hx hb (dk DX11_hardest 25 rfl) (by decide) (fun c45 => ?_) (fun c45 => ?_)
          · have hF := if_t c45 hF
            refine lv_iload_n hx hb (dk DX11_hardest 43 rfl) rfl (lv_at hl 3 rfl) ?_
            cases hF
            exact r_iret C hrt hR (dk DX11_hardest 44 rfl)
          · have hF := if_f c45 hF
            refine lv_aload_n hx hb (dk DX11_hardest 26 rfl) rfl (lv_at hl 0 rfl) ?_
            refine lv_iload hx hb (dk DX11_hardest 27 rfl) (lv_at hl 4 rfl) ?_
            refine lv_iload_n hx hb (dk DX11_hardest 28 rfl) rfl (lv_at hl 1 rfl) ?_
            refine lv_iload_n hx hb (dk DX11_hardest 29 rfl) rfl (lv_at hl 2 rfl) ?_
            obtain ⟨xq20, mq18, hzq19, hF⟩ := bnd_ex hF
            refine r_callVi (As := [.int xq12, .int a1, .int a2]) (rest := []) C hR (C_M_levelOf l hl0 G xq12 a1 a2 mq15 _ _ hzq19) (by decide) (by decide) ob78 rfl wX11_259 rfl rfl (Nat.le_of_ble_eq_true rfl) hl.1 ⟨Nat.zero_le _, Nat.zero_le _⟩ (dk DX11_hardest 30 rfl) (fun H locs hR => ?_)
            refine lv_aload_n hx hb (dk DX11_hardest 31 rfl) rfl (lv_at hl 0 rfl) ?_
            refine lv_iload_n hx hb (dk DX11_hardest 32 rfl) rfl (lv_at hl 3 rfl) ?_
            refine lv_iload_n hx hb (dk DX11_hardest 33 rfl) rfl (lv_at hl 1 rfl) ?_
            refine lv_iload_n hx hb (dk DX11_hardest 34 rfl) rfl (lv_at hl 2 rfl) ?_
            obtain ⟨xq23, mq21, hzq22, hF⟩ := bnd_ex hF
            refine r_callVi (As := [.int xq11, .int a1, .int a2]) (rest := [.int xq20]) C hR (C_M_levelOf l hl0 G xq11 a1 a2 mq18 _ _ hzq22) (by decide) (by decide) ob78 rfl wX11_259 rfl rfl (Nat.le_of_ble_eq_true rfl) hl.1 ⟨Nat.zero_le _, Nat.zero_le _⟩ (dk DX11_hardest 35 rfl) (fun H locs hR => ?_)
            obtain ⟨k72_25, ek72_25, hF⟩ := lt_ex hF
            have J72 : ∀ (xq25 : Int32) (mq24 : Mem) (H : Heap) (locs : List Loc) (ls : Array Slot), lv_has ls 5 [(0, .ref (G.2.1 + 78)), (1, .int a1), (2, .int a2), (4, .int xq12)] → Rp G mr0 N0 mq24 s H locs → k72_25 xq25 mq24 = some (v, m') → W p l e (rmD 4) s mid args below meth c H locs 0 0 (MQ below (QR G mr0 N0 (some (.int v)) m') args s 0 0 (fun q => G.2.1 ≤ q)) (F0 mid 72 ls [.int xq25]) := by
              intro xq25 mq24 H locs ls hl hR hF
              rw [ek72_25] at hF
              refine lv_istore_n (lv' := [(3, .int xq25), (0, .ref (G.2.1 + 78)), (1, .int a1), (2, .int a2), (4, .int xq12)]) hx hb (dk DX11_hardest 40 rfl) rfl hl (by decide) rfl (fun ls hl => ?_)
              obtain ⟨xq26, exq26, hF⟩ := lt_ex hF
              refine lv_iinc (v := xq26) (lv' := [(4, .int xq26), (3, .int xq25), (0, .ref (G.2.1 + 78)), (1, .int a1), (2, .int a2)]) hx hb (dk DX11_hardest 41 rfl) hl (k := 4) rfl (by rw [exq26]; rfl) (by decide) rfl (fun ls hl => ?_)
              refine lv_goto (tgt := 39) hx hb (dk DX11_hardest 42 rfl) (by decide) ?_
              exact ihq14 xq25 xq26 mq24 _ _ ls (lv_sub hl [2, 3, 4, 1, 0] rfl) hR hF
            refine lv_icmp_le (tgt := 71) hx hb (dk DX11_hardest 36 rfl) (by decide) (fun c63 => ?_) (fun c63 => ?_)
            · have hF := if_t c63 hF
              refine lv_iload_n hx hb (dk DX11_hardest 39 rfl) rfl (lv_at hl 3 rfl) ?_
              exact J72 xq11 mq21 _ _ ls (lv_sub hl [0, 1, 2, 4] rfl) hR hF
            · have hF := if_f c63 hF
              refine lv_iload hx hb (dk DX11_hardest 37 rfl) (lv_at hl 4 rfl) ?_
              refine lv_goto (tgt := 72) hx hb (dk DX11_hardest 38 rfl) (by decide) ?_
              exact J72 xq12 mq21 _ _ ls (lv_sub hl [0, 1, 2, 4] rfl) hR hF
      exact L39 1000000 (0 : Int32) (1 : Int32) mq7 _ _ ls (lv_sub hl [2, 3, 4, 1, 0] rfl) hR hF
    · have hF := if_t c29 hF
      refine lv_iconst (v := (0 : Int32)) hx hb (dk DX11_hardest 16 rfl) (by decide) ?_
      cases hF
      exact r_iret C hrt hR (dk DX11_hardest 17 rfl)
  obtain ⟨k20_27, ek20_27, hF⟩ := lt_ex hF
  have J20 : ∀ (mq27 : Mem) (H : Heap) (locs : List Loc) (ls : Array Slot), lv_has ls 5 [(0, .ref (G.2.1 + 78)), (1, .int a1), (2, .int a2)] → Rp G mr0 N0 mq27 s H locs → k20_27  mq27 = some (v, m') → W p l e (rmD 4) s mid args below meth c H locs 0 0 (MQ below (QR G mr0 N0 (some (.int v)) m') args s 0 0 (fun q => G.2.1 ≤ q)) (F0 mid 20 ls [.ref (G.2.1 + 78)]) := by
    intro  mq27 H locs ls hl hR hF
    rw [ek20_27] at hF
    refine lv_iconst (v := (1 : Int32)) hx hb (dk DX11_hardest 10 rfl) (by decide) ?_
    refine lv_goto (tgt := 25) hx hb (dk DX11_hardest 11 rfl) (by decide) ?_
    exact J25 true mq27 _ _ ls (lv_sub hl [0, 1, 2] rfl) hR hF
  refine z_ifne (tgt := 20) hx hb (dk DX11_hardest 6 rfl) (by decide) (fun c10 => ?_) (fun c10 => ?_)
  · have hF := if_t c10 hF
    exact J20 mq2 _ _ ls (lv_sub hl [0, 1, 2] rfl) hR hF
  · have hF := if_f c10 hF
    refine lv_iload_n hx hb (dk DX11_hardest 7 rfl) rfl (lv_at hl 2 rfl) ?_
    obtain ⟨zq30, mq28, hzq29, hF⟩ := bnd_ex hF
    refine r_callSi (As := [.int a2]) (rest := [.ref (G.2.1 + 78)]) C hR (C_M_noSide l hl0 G a2 mq2 _ _ hzq29) (by decide) (by decide) wX11_243 rfl rfl (Nat.le_of_ble_eq_true rfl) hl.1 ⟨Nat.zero_le _, Nat.zero_le _⟩ (dk DX11_hardest 8 rfl) (fun H locs hR => ?_)
    refine z_ifeq (tgt := 24) hx hb (dk DX11_hardest 9 rfl) (by decide) (fun c17 => ?_) (fun c17 => ?_)
    · have hF := if_f c17 hF
      refine lv_iconst (v := (0 : Int32)) hx hb (dk DX11_hardest 12 rfl) (by decide) ?_
      exact J25 false mq28 _ _ ls (lv_sub hl [0, 1, 2] rfl) hR hF
    · have hF := if_t c17 hF
      exact J20 mq28 _ _ ls (lv_sub hl [0, 1, 2] rfl) hR hF
set_option maxHeartbeats 4000000 in
set_option maxRecDepth 100000 in
theorem C_M_here (l : Launch) (hl0 : l.stackTraces = false) (G : GG) (a1 : Int32) (m0 : Mem) (v : Int64) (m' : Mem) (hF : F_M_here a1 m0 = some (v, m')) : Ct l G mr0 N0 yX11_here cX11_here 2 (some .long) 11 [.ref (G.2.1 + 78), .int a1] m0 (some (.long v)) m' := by
  refine Ct_of hl0 (by decide) (Nat.le_of_ble_eq_true rfl) ?_
  intro p e s mid args below meth c ls C hrt hl hR
  have hx := C.1.1
  have hb := C.1.2.1
  have hl : lv_has ls 2 [(0, .ref (G.2.1 + 78)), (1, .int a1)] := hl
  unfold F_M_here at hF
  refine lv_aload_n hx hb (dk DX11_here 0 rfl) rfl (lv_at hl 0 rfl) ?_
  refine lv_iconst (v := (0 : Int32)) hx hb (dk DX11_here 1 rfl) (by decide) ?_
  refine pX11_3 (x := (0 : Int32)) C hR ob78 (dk DX11_here 2 rfl) (fun H locs hR => ?_)
  obtain ⟨mq1, emq1, hF⟩ := lt_ex hF
  have hR := Rp_at emq1 hR
  refine lv_aload_n hx hb (dk DX11_here 3 rfl) rfl (lv_at hl 0 rfl) ?_
  refine lv_aload_n hx hb (dk DX11_here 4 rfl) rfl (lv_at hl 0 rfl) ?_
  obtain ⟨xq4, mq2, hzq3, hF⟩ := bnd_ex hF
  refine r_callVi (As := []) (rest := [.ref (G.2.1 + 78)]) C hR (C_M_firstSide l hl0 G mq1 _ _ hzq3) (by decide) (by decide) ob78 rfl wX11_265 rfl rfl (Nat.le_of_ble_eq_true rfl) hl.1 ⟨Nat.zero_le _, Nat.zero_le _⟩ (dk DX11_here 5 rfl) (fun H locs hR => ?_)
  obtain ⟨k18_6, ek18_6, hF⟩ := lt_ex hF
  have J18 : ∀ (zq6 : Bool) (mq5 : Mem) (H : Heap) (locs : List Loc) (ls : Array Slot), lv_has ls 2 [(0, .ref (G.2.1 + 78)), (1, .int a1)] → Rp G mr0 N0 mq5 s H locs → k18_6 zq6 mq5 = some (v, m') → W p l e (rmD 11) s mid args below meth c H locs 0 0 (MQ below (QR G mr0 N0 (some (.long v)) m') args s 0 0 (fun q => G.2.1 ≤ q)) (F0 mid 18 ls [.int (b2i zq6), .ref (G.2.1 + 78)]) := by
    intro zq6 mq5 H locs ls hl hR hF
    rw [ek18_6] at hF
    refine lv_iconst (v := (1 : Int32)) hx hb (dk DX11_here 10 rfl) (by decide) ?_
    obtain ⟨zq9, mq7, hzq8, hF⟩ := bnd_ex hF
    refine r_callVi (As := [.int (b2i zq6), .int (1 : Int32)]) (rest := []) C hR (C_M_throwsIf l hl0 G zq6 (1 : Int32) mq5 _ _ hzq8) (by decide) (by decide) ob78 rfl wX11_227 rfl rfl (Nat.le_of_ble_eq_true rfl) hl.1 ⟨Nat.zero_le _, Nat.zero_le _⟩ (dk DX11_here 11 rfl) (fun H locs hR => ?_)
    refine z_ifne (tgt := 47) hx hb (dk DX11_here 12 rfl) (by decide) (fun c22 => ?_) (fun c22 => ?_)
    · have hF := if_t c22 hF
      refine lv_lconst (v := (0 : Int64)) hx hb (dk DX11_here 25 rfl) (by decide) ?_
      cases hF
      exact r_lret C hrt hR (dk DX11_here 26 rfl)
    · have hF := if_f c22 hF
      refine lv_aload_n hx hb (dk DX11_here 13 rfl) rfl (lv_at hl 0 rfl) ?_
      refine lv_iload_n hx hb (dk DX11_here 14 rfl) rfl (lv_at hl 1 rfl) ?_
      refine lv_iconst (v := (0 : Int32)) hx hb (dk DX11_here 15 rfl) (by decide) ?_
      refine lv_iconst (v := (3 : Int32)) hx hb (dk DX11_here 16 rfl) (by decide) ?_
      obtain ⟨zq12, mq10, hzq11, hF⟩ := bnd_ex hF
      refine r_callSi (As := [.int a1, .int (0 : Int32), .int (3 : Int32)]) (rest := [.ref (G.2.1 + 78)]) C hR (C_M_in l hl0 G a1 (0 : Int32) (3 : Int32) mq7 _ _ hzq11) (by decide) (by decide) wX11_67 rfl rfl (Nat.le_of_ble_eq_true rfl) hl.1 ⟨Nat.zero_le _, Nat.zero_le _⟩ (dk DX11_here 17 rfl) (fun H locs hR => ?_)
      obtain ⟨k40_14, ek40_14, hF⟩ := lt_ex hF
      have J40 : ∀ (zq14 : Bool) (mq13 : Mem) (H : Heap) (locs : List Loc) (ls : Array Slot), lv_has ls 2 [(0, .ref (G.2.1 + 78)), (1, .int a1)] → Rp G mr0 N0 mq13 s H locs → k40_14 zq14 mq13 = some (v, m') → W p l e (rmD 11) s mid args below meth c H locs 0 0 (MQ below (QR G mr0 N0 (some (.long v)) m') args s 0 0 (fun q => G.2.1 ≤ q)) (F0 mid 40 ls [.int (b2i zq14), .ref (G.2.1 + 78)]) := by
        intro zq14 mq13 H locs ls hl hR hF
        rw [ek40_14] at hF
        refine lv_iconst (v := (2 : Int32)) hx hb (dk DX11_here 22 rfl) (by decide) ?_
        obtain ⟨zq17, mq15, hzq16, hF⟩ := bnd_ex hF
        refine r_callVi (As := [.int (b2i zq14), .int (2 : Int32)]) (rest := []) C hR (C_M_throwsIf l hl0 G zq14 (2 : Int32) mq13 _ _ hzq16) (by decide) (by decide) ob78 rfl wX11_227 rfl rfl (Nat.le_of_ble_eq_true rfl) hl.1 ⟨Nat.zero_le _, Nat.zero_le _⟩ (dk DX11_here 23 rfl) (fun H locs hR => ?_)
        refine z_ifeq (tgt := 49) hx hb (dk DX11_here 24 rfl) (by decide) (fun c44 => ?_) (fun c44 => ?_)
        · have hF := if_f c44 hF
          refine lv_aload_n hx hb (dk DX11_here 27 rfl) rfl (lv_at hl 0 rfl) ?_
          obtain ⟨uq20, mq18, hzq19, hF⟩ := bnd_ex hF
          refine r_callVv (As := []) (rest := []) C hR (C_M_countsNow l hl0 G mq15 _ _ hzq19) (by decide) (by decide) ob78 rfl wX11_424 rfl rfl (Nat.le_of_ble_eq_true rfl) hl.1 ⟨Nat.zero_le _, Nat.zero_le _⟩ (dk DX11_here 28 rfl) (fun H locs hR => ?_)
          refine lv_aload_n hx hb (dk DX11_here 29 rfl) rfl (lv_at hl 0 rfl) ?_
          refine lv_iload_n hx hb (dk DX11_here 30 rfl) rfl (lv_at hl 1 rfl) ?_
          refine lv_aload_n hx hb (dk DX11_here 31 rfl) rfl (lv_at hl 0 rfl) ?_
          obtain ⟨xq23, mq21, hzq22, hF⟩ := bnd_ex hF
          refine r_callVi (As := []) (rest := [.int a1, .ref (G.2.1 + 78)]) C hR (C_M_played l hl0 G mq18 _ _ hzq22) (by decide) (by decide) ob78 rfl wX11_288 rfl rfl (Nat.le_of_ble_eq_true rfl) hl.1 ⟨Nat.zero_le _, Nat.zero_le _⟩ (dk DX11_here 32 rfl) (fun H locs hR => ?_)
          refine lv_aload_n hx hb (dk DX11_here 33 rfl) rfl (lv_at hl 0 rfl) ?_
          obtain ⟨zq26, mq24, hzq25, hF⟩ := bnd_ex hF
          refine r_callVi (As := []) (rest := [.int xq23, .int a1, .ref (G.2.1 + 78)]) C hR (C_M_isOver l hl0 G mq21 _ _ hzq25) (by decide) (by decide) ob78 rfl wX11_275 rfl rfl (Nat.le_of_ble_eq_true rfl) hl.1 ⟨Nat.zero_le _, Nat.zero_le _⟩ (dk DX11_here 34 rfl) (fun H locs hR => ?_)
          obtain ⟨k74_28, ek74_28, hF⟩ := lt_ex hF
          have J74 : ∀ (xq28 : Int32) (mq27 : Mem) (H : Heap) (locs : List Loc) (ls : Array Slot), lv_has ls 2 [] → Rp G mr0 N0 mq27 s H locs → k74_28 xq28 mq27 = some (v, m') → W p l e (rmD 11) s mid args below meth c H locs 0 0 (MQ below (QR G mr0 N0 (some (.long v)) m') args s 0 0 (fun q => G.2.1 ≤ q)) (F0 mid 74 ls [.int xq28, .int xq23, .int a1, .ref (G.2.1 + 78)]) := by
            intro xq28 mq27 H locs ls hl hR hF
            rw [ek74_28] at hF
            obtain ⟨yq31, mq29, hzq30, hF⟩ := bnd_ex hF
            refine r_callVl (As := [.int a1, .int xq23, .int xq28]) (rest := []) C hR (C_M_waysOf l hl0 G a1 xq23 xq28 mq27 _ _ hzq30) (by decide) (by decide) ob78 rfl wX11_427 rfl rfl (Nat.le_of_ble_eq_true rfl) hl.1 ⟨Nat.zero_le _, Nat.zero_le _⟩ (dk DX11_here 40 rfl) (fun H locs hR => ?_)
            cases hF
            exact r_lret C hrt hR (dk DX11_here 41 rfl)
          refine z_ifeq (tgt := 70) hx hb (dk DX11_here 35 rfl) (by decide) (fun c63 => ?_) (fun c63 => ?_)
          · have hF := if_f c63 hF
            refine lv_aload_n hx hb (dk DX11_here 38 rfl) rfl (lv_at hl 0 rfl) ?_
            obtain ⟨xq34, mq32, hzq33, hF⟩ := bnd_ex hF
            refine r_callVi (As := []) (rest := [.int xq23, .int a1, .ref (G.2.1 + 78)]) C hR (C_M_batter l hl0 G mq24 _ _ hzq33) (by decide) (by decide) ob78 rfl wX11_285 rfl rfl (Nat.le_of_ble_eq_true rfl) hl.1 ⟨Nat.zero_le _, Nat.zero_le _⟩ (dk DX11_here 39 rfl) (fun H locs hR => ?_)
            exact J74 xq34 mq32 _ _ ls (lv_sub hl [] rfl) hR hF
          · have hF := if_t c63 hF
            refine lv_iconst (v := (0 : Int32)) hx hb (dk DX11_here 36 rfl) (by decide) ?_
            refine lv_goto (tgt := 74) hx hb (dk DX11_here 37 rfl) (by decide) ?_
            exact J74 (0 : Int32) mq24 _ _ ls (lv_sub hl [] rfl) hR hF
        · have hF := if_t c44 hF
          refine lv_lconst (v := (0 : Int64)) hx hb (dk DX11_here 25 rfl) (by decide) ?_
          cases hF
          exact r_lret C hrt hR (dk DX11_here 26 rfl)
      refine z_ifne (tgt := 39) hx hb (dk DX11_here 18 rfl) (by decide) (fun c32 => ?_) (fun c32 => ?_)
      · have hF := if_t c32 hF
        refine lv_iconst (v := (0 : Int32)) hx hb (dk DX11_here 21 rfl) (by decide) ?_
        exact J40 false mq10 _ _ ls (lv_sub hl [0, 1] rfl) hR hF
      · have hF := if_f c32 hF
        refine lv_iconst (v := (1 : Int32)) hx hb (dk DX11_here 19 rfl) (by decide) ?_
        refine lv_goto (tgt := 40) hx hb (dk DX11_here 20 rfl) (by decide) ?_
        exact J40 true mq10 _ _ ls (lv_sub hl [0, 1] rfl) hR hF
  refine lv_if_ge (tgt := 17) hx hb (dk DX11_here 6 rfl) (by decide) (fun c10 => ?_) (fun c10 => ?_)
  · have hF := if_t c10 hF
    refine lv_iconst (v := (0 : Int32)) hx hb (dk DX11_here 9 rfl) (by decide) ?_
    exact J18 false mq2 _ _ ls (lv_sub hl [0, 1] rfl) hR hF
  · have hF := if_f c10 hF
    refine lv_iconst (v := (1 : Int32)) hx hb (dk DX11_here 7 rfl) (by decide) ?_
    refine lv_goto (tgt := 18) hx hb (dk DX11_here 8 rfl) (by decide) ?_
    exact J18 true mq2 _ _ ls (lv_sub hl [0, 1] rfl) hR hF
set_option maxHeartbeats 4000000 in
set_option maxRecDepth 100000 in
theorem C_M_hold (l : Launch) (hl0 : l.stackTraces = false) (G : GG) (a1 : Int32) (m0 : Mem) (v : Int32) (m' : Mem) (hF : F_M_hold a1 m0 = some (v, m')) : Ct l G mr0 N0 yX11_hold cX11_hold 2 (some .int) 6 [.ref (G.2.1 + 78), .int a1] m0 (some (.int v)) m' := by
  refine Ct_of hl0 (by decide) (Nat.le_of_ble_eq_true rfl) ?_
  intro p e s mid args below meth c ls C hrt hl hR
  have hx := C.1.1
  have hb := C.1.2.1
  have hl : lv_has ls 2 [(0, .ref (G.2.1 + 78)), (1, .int a1)] := hl
  unfold F_M_hold at hF
  refine lv_aload_n hx hb (dk DX11_hold 0 rfl) rfl (lv_at hl 0 rfl) ?_
  refine lv_iconst (v := (0 : Int32)) hx hb (dk DX11_hold 1 rfl) (by decide) ?_
  refine pX11_3 (x := (0 : Int32)) C hR ob78 (dk DX11_hold 2 rfl) (fun H locs hR => ?_)
  obtain ⟨mq1, emq1, hF⟩ := lt_ex hF
  have hR := Rp_at emq1 hR
  refine lv_aload_n hx hb (dk DX11_hold 3 rfl) rfl (lv_at hl 0 rfl) ?_
  refine lv_iload_n hx hb (dk DX11_hold 4 rfl) rfl (lv_at hl 1 rfl) ?_
  obtain ⟨zq4, mq2, hzq3, hF⟩ := bnd_ex hF
  refine r_callSi (As := [.int a1]) (rest := [.ref (G.2.1 + 78)]) C hR (C_M_noSlot l hl0 G a1 mq1 _ _ hzq3) (by decide) (by decide) wX11_246 rfl rfl (Nat.le_of_ble_eq_true rfl) hl.1 ⟨Nat.zero_le _, Nat.zero_le _⟩ (dk DX11_hold 5 rfl) (fun H locs hR => ?_)
  refine lv_iconst (v := (1 : Int32)) hx hb (dk DX11_hold 6 rfl) (by decide) ?_
  obtain ⟨zq7, mq5, hzq6, hF⟩ := bnd_ex hF
  refine r_callVi (As := [.int (b2i zq4), .int (1 : Int32)]) (rest := []) C hR (C_M_throwsIf l hl0 G zq4 (1 : Int32) mq2 _ _ hzq6) (by decide) (by decide) ob78 rfl wX11_227 rfl rfl (Nat.le_of_ble_eq_true rfl) hl.1 ⟨Nat.zero_le _, Nat.zero_le _⟩ (dk DX11_hold 7 rfl) (fun H locs hR => ?_)
  refine z_ifne (tgt := 37) hx hb (dk DX11_hold 8 rfl) (by decide) (fun c14 => ?_) (fun c14 => ?_)
  · have hF := if_t c14 hF
    refine lv_iconst (v := (0 : Int32)) hx hb (dk DX11_hold 19 rfl) (by decide) ?_
    cases hF
    exact r_iret C hrt hR (dk DX11_hold 20 rfl)
  · have hF := if_f c14 hF
    refine lv_aload_n hx hb (dk DX11_hold 9 rfl) rfl (lv_at hl 0 rfl) ?_
    refine lv_aload_n hx hb (dk DX11_hold 10 rfl) rfl (lv_at hl 0 rfl) ?_
    obtain ⟨zq10, mq8, hzq9, hF⟩ := bnd_ex hF
    refine r_callVi (As := []) (rest := [.ref (G.2.1 + 78)]) C hR (C_M_canHold l hl0 G mq5 _ _ hzq9) (by decide) (by decide) ob78 rfl wX11_317 rfl rfl (Nat.le_of_ble_eq_true rfl) hl.1 ⟨Nat.zero_le _, Nat.zero_le _⟩ (dk DX11_hold 11 rfl) (fun H locs hR => ?_)
    obtain ⟨k30_12, ek30_12, hF⟩ := lt_ex hF
    have J30 : ∀ (zq12 : Bool) (mq11 : Mem) (H : Heap) (locs : List Loc) (ls : Array Slot), lv_has ls 2 [(0, .ref (G.2.1 + 78)), (1, .int a1)] → Rp G mr0 N0 mq11 s H locs → k30_12 zq12 mq11 = some (v, m') → W p l e (rmD 6) s mid args below meth c H locs 0 0 (MQ below (QR G mr0 N0 (some (.int v)) m') args s 0 0 (fun q => G.2.1 ≤ q)) (F0 mid 30 ls [.int (b2i zq12), .ref (G.2.1 + 78)]) := by
      intro zq12 mq11 H locs ls hl hR hF
      rw [ek30_12] at hF
      refine lv_iconst (v := (2 : Int32)) hx hb (dk DX11_hold 16 rfl) (by decide) ?_
      obtain ⟨zq15, mq13, hzq14, hF⟩ := bnd_ex hF
      refine r_callVi (As := [.int (b2i zq12), .int (2 : Int32)]) (rest := []) C hR (C_M_throwsIf l hl0 G zq12 (2 : Int32) mq11 _ _ hzq14) (by decide) (by decide) ob78 rfl wX11_227 rfl rfl (Nat.le_of_ble_eq_true rfl) hl.1 ⟨Nat.zero_le _, Nat.zero_le _⟩ (dk DX11_hold 17 rfl) (fun H locs hR => ?_)
      refine z_ifeq (tgt := 39) hx hb (dk DX11_hold 18 rfl) (by decide) (fun c34 => ?_) (fun c34 => ?_)
      · have hF := if_f c34 hF
        refine lv_aload_n hx hb (dk DX11_hold 21 rfl) rfl (lv_at hl 0 rfl) ?_
        obtain ⟨uq18, mq16, hzq17, hF⟩ := bnd_ex hF
        refine r_callVv (As := []) (rest := []) C hR (C_M_remembers l hl0 G mq13 _ _ hzq17) (by decide) (by decide) ob78 rfl wX11_294 rfl rfl (Nat.le_of_ble_eq_true rfl) hl.1 ⟨Nat.zero_le _, Nat.zero_le _⟩ (dk DX11_hold 22 rfl) (fun H locs hR => ?_)
        refine lv_aload_n hx hb (dk DX11_hold 23 rfl) rfl (lv_at hl 0 rfl) ?_
        refine lv_iload_n hx hb (dk DX11_hold 24 rfl) rfl (lv_at hl 1 rfl) ?_
        refine lv_iconst (v := (1 : Int32)) hx hb (dk DX11_hold 25 rfl) (by decide) ?_
        obtain ⟨xq21, mq19, hzq20, hF⟩ := bnd_ex hF
        refine r_callVi (As := [.int a1, .int (b2i true)]) (rest := []) C hR (C_M_plays l hl0 G a1 true mq16 _ _ hzq20) (by decide) (by decide) ob78 rfl wX11_313 rfl rfl (Nat.le_of_ble_eq_true rfl) hl.1 ⟨Nat.zero_le _, Nat.zero_le _⟩ (dk DX11_hold 26 rfl) (fun H locs hR => ?_)
        cases hF
        exact r_iret C hrt hR (dk DX11_hold 27 rfl)
      · have hF := if_t c34 hF
        refine lv_iconst (v := (0 : Int32)) hx hb (dk DX11_hold 19 rfl) (by decide) ?_
        cases hF
        exact r_iret C hrt hR (dk DX11_hold 20 rfl)
    refine z_ifne (tgt := 29) hx hb (dk DX11_hold 12 rfl) (by decide) (fun c22 => ?_) (fun c22 => ?_)
    · have hF := if_t c22 hF
      refine lv_iconst (v := (0 : Int32)) hx hb (dk DX11_hold 15 rfl) (by decide) ?_
      exact J30 false mq8 _ _ ls (lv_sub hl [0, 1] rfl) hR hF
    · have hF := if_f c22 hF
      refine lv_iconst (v := (1 : Int32)) hx hb (dk DX11_hold 13 rfl) (by decide) ?_
      refine lv_goto (tgt := 30) hx hb (dk DX11_hold 14 rfl) (by decide) ?_
      exact J30 true mq8 _ _ ls (lv_sub hl [0, 1] rfl) hR hF
set_option maxHeartbeats 4000000 in
set_option maxRecDepth 100000 in
theorem C_M_holds (l : Launch) (hl0 : l.stackTraces = false) (G : GG) (a1 : Int32) (a2 : Bool) (a3 : Int32) (a4 : Int32) (m0 : Mem) (v : Bool) (m' : Mem) (hF : F_M_holds a1 a2 a3 a4 m0 = some (v, m')) : Ct l G mr0 N0 yX11_holds cX11_holds 5 (some .boolean) 11 [.ref (G.2.1 + 78), .int a1, .int (b2i a2), .int a3, .int a4] m0 (some (.int (b2i v))) m' := by
  refine Ct_of hl0 (by decide) (Nat.le_of_ble_eq_true rfl) ?_
  intro p e s mid args below meth c ls C hrt hl hR
  have hx := C.1.1
  have hb := C.1.2.1
  have hl : lv_has ls 5 [(0, .ref (G.2.1 + 78)), (1, .int a1), (2, .int (b2i a2)), (3, .int a3), (4, .int a4)] := hl
  unfold F_M_holds at hF
  refine lv_aload_n hx hb (dk DX11_holds 0 rfl) rfl (lv_at hl 0 rfl) ?_
  refine lv_iconst (v := (0 : Int32)) hx hb (dk DX11_holds 1 rfl) (by decide) ?_
  refine pX11_3 (x := (0 : Int32)) C hR ob78 (dk DX11_holds 2 rfl) (fun H locs hR => ?_)
  obtain ⟨mq1, emq1, hF⟩ := lt_ex hF
  have hR := Rp_at emq1 hR
  refine lv_aload_n hx hb (dk DX11_holds 3 rfl) rfl (lv_at hl 0 rfl) ?_
  refine lv_aload_n hx hb (dk DX11_holds 4 rfl) rfl (lv_at hl 0 rfl) ?_
  refine lv_iload_n hx hb (dk DX11_holds 5 rfl) rfl (lv_at hl 1 rfl) ?_
  obtain ⟨zq4, mq2, hzq3, hF⟩ := bnd_ex hF
  refine r_callVi (As := [.int a1]) (rest := [.ref (G.2.1 + 78)]) C hR (C_M_noPlayed l hl0 G a1 mq1 _ _ hzq3) (by decide) (by decide) ob78 rfl wX11_452 rfl rfl (Nat.le_of_ble_eq_true rfl) hl.1 ⟨Nat.zero_le _, Nat.zero_le _⟩ (dk DX11_holds 6 rfl) (fun H locs hR => ?_)
  refine lv_iconst (v := (1 : Int32)) hx hb (dk DX11_holds 7 rfl) (by decide) ?_
  obtain ⟨zq7, mq5, hzq6, hF⟩ := bnd_ex hF
  refine r_callVi (As := [.int (b2i zq4), .int (1 : Int32)]) (rest := []) C hR (C_M_throwsIf l hl0 G zq4 (1 : Int32) mq2 _ _ hzq6) (by decide) (by decide) ob78 rfl wX11_227 rfl rfl (Nat.le_of_ble_eq_true rfl) hl.1 ⟨Nat.zero_le _, Nat.zero_le _⟩ (dk DX11_holds 8 rfl) (fun H locs hR => ?_)
  refine z_ifne (tgt := 41) hx hb (dk DX11_holds 9 rfl) (by decide) (fun c15 => ?_) (fun c15 => ?_)
  · have hF := if_t c15 hF
    refine lv_iconst (v := (0 : Int32)) hx hb (dk DX11_holds 22 rfl) (by decide) ?_
    cases hF
    exact r_zret C hrt hR (dk DX11_holds 23 rfl)
  · have hF := if_f c15 hF
    refine lv_aload_n hx hb (dk DX11_holds 10 rfl) rfl (lv_at hl 0 rfl) ?_
    refine lv_aload_n hx hb (dk DX11_holds 11 rfl) rfl (lv_at hl 0 rfl) ?_
    refine lv_iload_n hx hb (dk DX11_holds 12 rfl) rfl (lv_at hl 3 rfl) ?_
    refine lv_iload hx hb (dk DX11_holds 13 rfl) (lv_at hl 4 rfl) ?_
    obtain ⟨zq10, mq8, hzq9, hF⟩ := bnd_ex hF
    refine r_callVi (As := [.int a3, .int a4]) (rest := [.ref (G.2.1 + 78)]) C hR (C_M_noState l hl0 G a3 a4 mq5 _ _ hzq9) (by decide) (by decide) ob78 rfl wX11_455 rfl rfl (Nat.le_of_ble_eq_true rfl) hl.1 ⟨Nat.zero_le _, Nat.zero_le _⟩ (dk DX11_holds 14 rfl) (fun H locs hR => ?_)
    refine lv_iconst (v := (2 : Int32)) hx hb (dk DX11_holds 15 rfl) (by decide) ?_
    obtain ⟨zq13, mq11, hzq12, hF⟩ := bnd_ex hF
    refine r_callVi (As := [.int (b2i zq10), .int (2 : Int32)]) (rest := []) C hR (C_M_throwsIf l hl0 G zq10 (2 : Int32) mq8 _ _ hzq12) (by decide) (by decide) ob78 rfl wX11_227 rfl rfl (Nat.le_of_ble_eq_true rfl) hl.1 ⟨Nat.zero_le _, Nat.zero_le _⟩ (dk DX11_holds 16 rfl) (fun H locs hR => ?_)
    refine z_ifne (tgt := 41) hx hb (dk DX11_holds 17 rfl) (by decide) (fun c30 => ?_) (fun c30 => ?_)
    · have hF := if_t c30 hF
      refine lv_iconst (v := (0 : Int32)) hx hb (dk DX11_holds 22 rfl) (by decide) ?_
      cases hF
      exact r_zret C hrt hR (dk DX11_holds 23 rfl)
    · have hF := if_f c30 hF
      refine lv_iload_n hx hb (dk DX11_holds 18 rfl) rfl (lv_at hl 1 rfl) ?_
      refine lv_aload_n hx hb (dk DX11_holds 19 rfl) rfl (lv_at hl 0 rfl) ?_
      obtain ⟨xq16, mq14, hzq15, hF⟩ := bnd_ex hF
      refine r_callVi (As := []) (rest := [.int a1]) C hR (C_M_size l hl0 G mq11 _ _ hzq15) (by decide) (by decide) ob78 rfl wX11_63 rfl rfl (Nat.le_of_ble_eq_true rfl) hl.1 ⟨Nat.zero_le _, Nat.zero_le _⟩ (dk DX11_holds 20 rfl) (fun H locs hR => ?_)
      refine lv_icmp_ne (tgt := 43) hx hb (dk DX11_holds 21 rfl) (by decide) (fun c38 => ?_) (fun c38 => ?_)
      · have hF := if_f c38 hF
        refine lv_aload_n hx hb (dk DX11_holds 24 rfl) rfl (lv_at hl 0 rfl) ?_
        refine lv_iload_n hx hb (dk DX11_holds 25 rfl) rfl (lv_at hl 1 rfl) ?_
        refine lv_iload_n hx hb (dk DX11_holds 26 rfl) rfl (lv_at hl 3 rfl) ?_
        obtain ⟨uq19, mq17, hzq18, hF⟩ := bnd_ex hF
        refine r_callVv (As := [.int a1, .int a3]) (rest := []) C hR (C_M_countsFrom l hl0 G a1 a3 mq14 _ _ hzq18) (by decide) (by decide) ob78 rfl wX11_458 rfl rfl (Nat.le_of_ble_eq_true rfl) hl.1 ⟨Nat.zero_le _, Nat.zero_le _⟩ (dk DX11_holds 27 rfl) (fun H locs hR => ?_)
        refine lv_aload_n hx hb (dk DX11_holds 28 rfl) rfl (lv_at hl 0 rfl) ?_
        refine lv_iload_n hx hb (dk DX11_holds 29 rfl) rfl (lv_at hl 1 rfl) ?_
        refine lv_iconst (v := (3 : Int32)) hx hb (dk DX11_holds 30 rfl) (by decide) ?_
        refine lv_iload_n hx hb (dk DX11_holds 31 rfl) rfl (lv_at hl 2 rfl) ?_
        obtain ⟨xq22, mq20, hzq21, hF⟩ := bnd_ex hF
        refine r_callSi (As := [.int (3 : Int32), .int (b2i a2)]) (rest := [.int a1, .ref (G.2.1 + 78)]) C hR (C_M_kindOf l hl0 G (3 : Int32) a2 mq17 _ _ hzq21) (by decide) (by decide) wX11_406 rfl rfl (Nat.le_of_ble_eq_true rfl) hl.1 ⟨Nat.zero_le _, Nat.zero_le _⟩ (dk DX11_holds 32 rfl) (fun H locs hR => ?_)
        refine lv_iload hx hb (dk DX11_holds 33 rfl) (lv_at hl 4 rfl) ?_
        refine lv_iload_n hx hb (dk DX11_holds 34 rfl) rfl (lv_at hl 3 rfl) ?_
        obtain ⟨zq25, mq23, hzq24, hF⟩ := bnd_ex hF
        refine r_callVi (As := [.int a1, .int xq22, .int a4, .int a3]) (rest := []) C hR (C_M_isChosen l hl0 G a1 xq22 a4 a3 mq20 _ _ hzq24) (by decide) (by decide) ob78 rfl wX11_461 rfl rfl (Nat.le_of_ble_eq_true rfl) hl.1 ⟨Nat.zero_le _, Nat.zero_le _⟩ (dk DX11_holds 35 rfl) (fun H locs hR => ?_)
        cases hF
        exact r_zret C hrt hR (dk DX11_holds 36 rfl)
      · have hF := if_t c38 hF
        refine lv_iconst (v := (0 : Int32)) hx hb (dk DX11_holds 22 rfl) (by decide) ?_
        cases hF
        exact r_zret C hrt hR (dk DX11_holds 23 rfl)
set_option maxHeartbeats 4000000 in
set_option maxRecDepth 100000 in
theorem C_M_image (l : Launch) (hl0 : l.stackTraces = false) (G : GG) (m0 : Mem) (v : Unit) (m' : Mem) (hF : F_M_image m0 = some (v, m')) : Ct l G mr0 N0 yX11_image cX11_image 2 none 1 [.ref (G.2.1 + 78)] m0 none m' := by
  refine Ct_of hl0 (by decide) (Nat.le_of_ble_eq_true rfl) ?_
  intro p e s mid args below meth c ls C hrt hl hR
  have hx := C.1.1
  have hb := C.1.2.1
  have hl : lv_has ls 2 [(0, .ref (G.2.1 + 78))] := hl
  unfold F_M_image at hF
  refine lv_aload_n hx hb (dk DX11_image 0 rfl) rfl (lv_at hl 0 rfl) ?_
  refine lv_iconst (v := (0 : Int32)) hx hb (dk DX11_image 1 rfl) (by decide) ?_
  refine pX11_3 (x := (0 : Int32)) C hR ob78 (dk DX11_image 2 rfl) (fun H locs hR => ?_)
  obtain ⟨mq1, emq1, hF⟩ := lt_ex hF
  have hR := Rp_at emq1 hR
  refine lv_iconst (v := (0 : Int32)) hx hb (dk DX11_image 3 rfl) (by decide) ?_
  refine lv_istore_n (lv' := [(1, .int (0 : Int32)), (0, .ref (G.2.1 + 78))]) hx hb (dk DX11_image 4 rfl) rfl hl (by decide) rfl (fun ls hl => ?_)
  obtain ⟨k32_2, ek32_2, hF⟩ := lt_ex hF
  have J32 : ∀ (mq2 : Mem) (H : Heap) (locs : List Loc) (ls : Array Slot), lv_has ls 2 [(0, .ref (G.2.1 + 78))] → Rp G mr0 N0 mq2 s H locs → k32_2  mq2 = some (v, m') → W p l e (rmD 1) s mid args below meth c H locs 0 0 (MQ below (QR G mr0 N0 none m') args s 0 0 (fun q => G.2.1 ≤ q)) (F0 mid 32 ls []) := by
    intro  mq2 H locs ls hl hR hF
    rw [ek32_2] at hF
    refine lv_aload_n hx hb (dk DX11_image 18 rfl) rfl (lv_at hl 0 rfl) ?_
    refine lv_iconst (v := (1 : Int32)) hx hb (dk DX11_image 19 rfl) (by decide) ?_
    refine pX11_56 (x := true) C hR ob78 (dk DX11_image 20 rfl) (fun H locs hR => ?_)
    obtain ⟨mq3, emq3, hF⟩ := lt_ex hF
    have hR := Rp_at emq3 hR
    cases hF
    exact r_vret C hrt hR (dk DX11_image 21 rfl)
  have L7 : ∀ (nf : Nat) (xq5 : Int32) (mq4 : Mem) (H : Heap) (locs : List Loc) (ls : Array Slot), lv_has ls 2 [(0, .ref (G.2.1 + 78)), (1, .int xq5)] → Rp G mr0 N0 mq4 s H locs → F_M_image_L7 k32_2 nf xq5 mq4 = some (v, m') → W p l e (rmD 1) s mid args below meth c H locs 0 0 (MQ below (QR G mr0 N0 none m') args s 0 0 (fun q => G.2.1 ≤ q)) (F0 mid 7 ls []) := by
    intro nf
    induction nf with
    | zero =>
      intro xq5 mq4 H locs ls hl hR hF
      rw [F_M_image_L7] at hF
      cases hF
    | succ nf ihq7 =>
      intro xq5 mq4 H locs ls hl hR hF
      rw [F_M_image_L7] at hF
      refine lv_iload_n hx hb (dk DX11_image 5 rfl) rfl (lv_at hl 1 rfl) ?_
      refine lv_sipush (v := (1135 : Int32)) hx hb (dk DX11_image 6 rfl) (by decide) ?_
      refine lv_icmp_ge (tgt := 32) hx hb (dk DX11_image 7 rfl) (by decide) (fun c11 => ?_) (fun c11 => ?_)
      · have hF := if_t c11 hF
        exact J32 mq4 _ _ ls (lv_sub hl [0] rfl) hR hF
      · have hF := if_f c11 hF
        refine lv_aload_n hx hb (dk DX11_image 8 rfl) rfl (lv_at hl 0 rfl) ?_
        refine gX11_17 C hR ob78 rf78_2 (dk DX11_image 9 rfl) ?_
        refine lv_iload_n hx hb (dk DX11_image 10 rfl) rfl (lv_at hl 1 rfl) ?_
        refine lv_aload_n hx hb (dk DX11_image 11 rfl) rfl (lv_at hl 0 rfl) ?_
        refine gX11_13 C hR ob78 rf78_1 (dk DX11_image 12 rfl) ?_
        refine lv_iload_n hx hb (dk DX11_image 13 rfl) rfl (lv_at hl 1 rfl) ?_
        obtain ⟨hq8, hF⟩ := ckB_ex hF
        refine r_iald C hR ob79 hq8 (dk DX11_image 14 rfl) ?_
        refine lv_topi (fun xq9 exq9 => ?_)
        have hF := lt_at exq9 hF
        obtain ⟨hq11, hF⟩ := ckB_ex hF
        refine r_iast C hR ob80 hq11 (dk DX11_image 15 rfl) (fun H locs hR => ?_)
        obtain ⟨mq10, emq10, hF⟩ := lt_ex hF
        have hR := Rp_at emq10 hR
        obtain ⟨xq12, exq12, hF⟩ := lt_ex hF
        refine lv_iinc (v := xq12) (lv' := [(1, .int xq12), (0, .ref (G.2.1 + 78))]) hx hb (dk DX11_image 16 rfl) hl (k := 1) rfl (by rw [exq12]; rfl) (by decide) rfl (fun ls hl => ?_)
        refine lv_goto (tgt := 7) hx hb (dk DX11_image 17 rfl) (by decide) ?_
        exact ihq7 xq12 mq10 _ _ ls (lv_sub hl [1, 0] rfl) hR hF
  exact L7 1000000 (0 : Int32) mq1 _ _ ls (lv_sub hl [1, 0] rfl) hR hF
set_option maxHeartbeats 4000000 in
set_option maxRecDepth 100000 in
theorem C_M_law (l : Launch) (hl0 : l.stackTraces = false) (G : GG) (m0 : Mem) (v : Int32) (m' : Mem) (hF : F_M_law m0 = some (v, m')) : Ct l G mr0 N0 yX11_law cX11_law 3 (some .int) 43 [.ref (G.2.1 + 78)] m0 (some (.int v)) m' := by
  refine Ct_of hl0 (by decide) (Nat.le_of_ble_eq_true rfl) ?_
  intro p e s mid args below meth c ls C hrt hl hR
  have hx := C.1.1
  have hb := C.1.2.1
  have hl : lv_has ls 3 [(0, .ref (G.2.1 + 78))] := hl
  unfold F_M_law at hF
  refine lv_aload_n hx hb (dk DX11_law 0 rfl) rfl (lv_at hl 0 rfl) ?_
  refine lv_iconst (v := (0 : Int32)) hx hb (dk DX11_law 1 rfl) (by decide) ?_
  obtain ⟨xq3, mq1, hzq2, hF⟩ := bnd_ex hF
  refine r_callVi (As := [.int (b2i false)]) (rest := []) C hR (C_M_readAll l hl0 G false m0 _ _ hzq2) (by decide) (by decide) ob78 rfl wX11_223 rfl rfl (Nat.le_of_ble_eq_true rfl) hl.1 ⟨Nat.zero_le _, Nat.zero_le _⟩ (dk DX11_law 2 rfl) (fun H locs hR => ?_)
  refine lv_istore_n (lv' := [(1, .int xq3), (0, .ref (G.2.1 + 78))]) hx hb (dk DX11_law 3 rfl) rfl hl (by decide) rfl (fun ls hl => ?_)
  refine lv_aload_n hx hb (dk DX11_law 4 rfl) rfl (lv_at hl 1 rfl) ?_
  refine lv_iload_n hx hb (dk DX11_law 5 rfl) rfl (lv_at hl 0 rfl) ?_
  obtain ⟨k19_5, ek19_5, hF⟩ := lt_ex hF
  have J19 : ∀ (xq5 : Int32) (mq4 : Mem) (H : Heap) (locs : List Loc) (ls : Array Slot), lv_has ls 3 [(0, .ref (G.2.1 + 78)), (1, .int xq3)] → Rp G mr0 N0 mq4 s H locs → k19_5 xq5 mq4 = some (v, m') → W p l e (rmD 43) s mid args below meth c H locs 0 0 (MQ below (QR G mr0 N0 (some (.int v)) m') args s 0 0 (fun q => G.2.1 ≤ q)) (F0 mid 19 ls [.int xq5, .ref (G.2.1 + 78)]) := by
    intro xq5 mq4 H locs ls hl hR hF
    rw [ek19_5] at hF
    refine pX11_30 (x := xq5) C hR ob78 (dk DX11_law 11 rfl) (fun H locs hR => ?_)
    obtain ⟨mq6, emq6, hF⟩ := lt_ex hF
    have hR := Rp_at emq6 hR
    refine lv_aload_n hx hb (dk DX11_law 12 rfl) rfl (lv_at hl 0 rfl) ?_
    refine lv_iload_n hx hb (dk DX11_law 13 rfl) rfl (lv_at hl 1 rfl) ?_
    obtain ⟨k32_8, ek32_8, hF⟩ := lt_ex hF
    have J32 : ∀ (zq8 : Bool) (mq7 : Mem) (H : Heap) (locs : List Loc) (ls : Array Slot), lv_has ls 3 [(0, .ref (G.2.1 + 78)), (1, .int xq3)] → Rp G mr0 N0 mq7 s H locs → k32_8 zq8 mq7 = some (v, m') → W p l e (rmD 43) s mid args below meth c H locs 0 0 (MQ below (QR G mr0 N0 (some (.int v)) m') args s 0 0 (fun q => G.2.1 ≤ q)) (F0 mid 32 ls [.int (b2i zq8), .ref (G.2.1 + 78)]) := by
      intro zq8 mq7 H locs ls hl hR hF
      rw [ek32_8] at hF
      refine lv_iconst (v := (1 : Int32)) hx hb (dk DX11_law 18 rfl) (by decide) ?_
      obtain ⟨zq11, mq9, hzq10, hF⟩ := bnd_ex hF
      refine r_callVi (As := [.int (b2i zq8), .int (1 : Int32)]) (rest := []) C hR (C_M_throwsIf l hl0 G zq8 (1 : Int32) mq7 _ _ hzq10) (by decide) (by decide) ob78 rfl wX11_227 rfl rfl (Nat.le_of_ble_eq_true rfl) hl.1 ⟨Nat.zero_le _, Nat.zero_le _⟩ (dk DX11_law 19 rfl) (fun H locs hR => ?_)
      refine z_ifeq (tgt := 41) hx hb (dk DX11_law 20 rfl) (by decide) (fun c36 => ?_) (fun c36 => ?_)
      · have hF := if_f c36 hF
        refine lv_aload_n hx hb (dk DX11_law 23 rfl) rfl (lv_at hl 0 rfl) ?_
        refine gX11_13 C hR ob78 rf78_1 (dk DX11_law 24 rfl) ?_
        refine lv_sipush (v := (1135 : Int32)) hx hb (dk DX11_law 25 rfl) (by decide) ?_
        refine lv_iload_n hx hb (dk DX11_law 26 rfl) rfl (lv_at hl 1 rfl) ?_
        refine r_iast C hR ob79 rfl (dk DX11_law 27 rfl) (fun H locs hR => ?_)
        obtain ⟨mq12, emq12, hF⟩ := lt_ex hF
        have hR := Rp_at emq12 hR
        refine lv_iconst (v := (0 : Int32)) hx hb (dk DX11_law 28 rfl) (by decide) ?_
        refine lv_istore_n (lv' := [(2, .int (0 : Int32)), (0, .ref (G.2.1 + 78)), (1, .int xq3)]) hx hb (dk DX11_law 29 rfl) rfl hl (by decide) rfl (fun ls hl => ?_)
        obtain ⟨k85_13, ek85_13, hF⟩ := lt_ex hF
        have J85 : ∀ (mq13 : Mem) (H : Heap) (locs : List Loc) (ls : Array Slot), lv_has ls 3 [(0, .ref (G.2.1 + 78)), (1, .int xq3)] → Rp G mr0 N0 mq13 s H locs → k85_13  mq13 = some (v, m') → W p l e (rmD 43) s mid args below meth c H locs 0 0 (MQ below (QR G mr0 N0 (some (.int v)) m') args s 0 0 (fun q => G.2.1 ≤ q)) (F0 mid 85 ls []) := by
          intro  mq13 H locs ls hl hR hF
          rw [ek85_13] at hF
          refine lv_aload_n hx hb (dk DX11_law 47 rfl) rfl (lv_at hl 0 rfl) ?_
          refine gX11_13 C hR ob78 rf78_1 (dk DX11_law 48 rfl) ?_
          refine lv_iconst (v := (4 : Int32)) hx hb (dk DX11_law 49 rfl) (by decide) ?_
          refine lv_iconst (v := (1 : Int32)) hx hb (dk DX11_law 50 rfl) (by decide) ?_
          refine r_iast C hR ob79 rfl (dk DX11_law 51 rfl) (fun H locs hR => ?_)
          obtain ⟨mq14, emq14, hF⟩ := lt_ex hF
          have hR := Rp_at emq14 hR
          refine lv_aload_n hx hb (dk DX11_law 52 rfl) rfl (lv_at hl 0 rfl) ?_
          refine lv_iconst (v := (0 : Int32)) hx hb (dk DX11_law 53 rfl) (by decide) ?_
          refine pX11_60 (x := (0 : Int32)) C hR ob78 (dk DX11_law 54 rfl) (fun H locs hR => ?_)
          obtain ⟨mq15, emq15, hF⟩ := lt_ex hF
          have hR := Rp_at emq15 hR
          refine lv_iload_n hx hb (dk DX11_law 55 rfl) rfl (lv_at hl 1 rfl) ?_
          cases hF
          exact r_iret C hrt hR (dk DX11_law 56 rfl)
        have L52 : ∀ (nf : Nat) (xq17 : Int32) (mq16 : Mem) (H : Heap) (locs : List Loc) (ls : Array Slot), lv_has ls 3 [(0, .ref (G.2.1 + 78)), (1, .int xq3), (2, .int xq17)] → Rp G mr0 N0 mq16 s H locs → F_M_law_L52 k85_13 nf xq17 mq16 = some (v, m') → W p l e (rmD 43) s mid args below meth c H locs 0 0 (MQ below (QR G mr0 N0 (some (.int v)) m') args s 0 0 (fun q => G.2.1 ≤ q)) (F0 mid 52 ls []) := by
          intro nf
          induction nf with
          | zero =>
            intro xq17 mq16 H locs ls hl hR hF
            rw [F_M_law_L52] at hF
            cases hF
          | succ nf ihq19 =>
            intro xq17 mq16 H locs ls hl hR hF
            rw [F_M_law_L52] at hF
            refine lv_iload_n hx hb (dk DX11_law 30 rfl) rfl (lv_at hl 2 rfl) ?_
            refine lv_sipush (v := (837 : Int32)) hx hb (dk DX11_law 31 rfl) (by decide) ?_
            refine lv_icmp_ge (tgt := 85) hx hb (dk DX11_law 32 rfl) (by decide) (fun c56 => ?_) (fun c56 => ?_)
            · have hF := if_t c56 hF
              exact J85 mq16 _ _ ls (lv_sub hl [0, 1] rfl) hR hF
            · have hF := if_f c56 hF
              refine lv_aload_n hx hb (dk DX11_law 33 rfl) rfl (lv_at hl 0 rfl) ?_
              refine gX11_13 C hR ob78 rf78_1 (dk DX11_law 34 rfl) ?_
              refine lv_sipush (v := (298 : Int32)) hx hb (dk DX11_law 35 rfl) (by decide) ?_
              refine lv_iload_n hx hb (dk DX11_law 36 rfl) rfl (lv_at hl 2 rfl) ?_
              refine lv_iadd hx hb (dk DX11_law 37 rfl) ?_
              refine lv_aload_n hx hb (dk DX11_law 38 rfl) rfl (lv_at hl 0 rfl) ?_
              refine gX11_13 C hR ob78 rf78_1 (dk DX11_law 39 rfl) ?_
              refine lv_sipush (v := (1135 : Int32)) hx hb (dk DX11_law 40 rfl) (by decide) ?_
              refine lv_iload_n hx hb (dk DX11_law 41 rfl) rfl (lv_at hl 2 rfl) ?_
              refine lv_iadd hx hb (dk DX11_law 42 rfl) ?_
              obtain ⟨hq20, hF⟩ := ckB_ex hF
              refine r_iald C hR ob79 hq20 (dk DX11_law 43 rfl) ?_
              refine lv_topi (fun xq21 exq21 => ?_)
              have hF := lt_at exq21 hF
              obtain ⟨hq23, hF⟩ := ckB_ex hF
              refine r_iast C hR ob79 hq23 (dk DX11_law 44 rfl) (fun H locs hR => ?_)
              obtain ⟨mq22, emq22, hF⟩ := lt_ex hF
              have hR := Rp_at emq22 hR
              obtain ⟨xq24, exq24, hF⟩ := lt_ex hF
              refine lv_iinc (v := xq24) (lv' := [(2, .int xq24), (0, .ref (G.2.1 + 78)), (1, .int xq3)]) hx hb (dk DX11_law 45 rfl) hl (k := 2) rfl (by rw [exq24]; rfl) (by decide) rfl (fun ls hl => ?_)
              refine lv_goto (tgt := 52) hx hb (dk DX11_law 46 rfl) (by decide) ?_
              exact ihq19 xq24 mq22 _ _ ls (lv_sub hl [1, 2, 0] rfl) hR hF
        exact L52 1000000 (0 : Int32) mq12 _ _ ls (lv_sub hl [1, 2, 0] rfl) hR hF
      · have hF := if_t c36 hF
        refine lv_iconst (v := (0 : Int32)) hx hb (dk DX11_law 21 rfl) (by decide) ?_
        cases hF
        exact r_iret C hrt hR (dk DX11_law 22 rfl)
    refine lv_if_ge (tgt := 31) hx hb (dk DX11_law 14 rfl) (by decide) (fun c24 => ?_) (fun c24 => ?_)
    · have hF := if_t c24 hF
      refine lv_iconst (v := (0 : Int32)) hx hb (dk DX11_law 17 rfl) (by decide) ?_
      exact J32 false mq6 _ _ ls (lv_sub hl [0, 1] rfl) hR hF
    · have hF := if_f c24 hF
      refine lv_iconst (v := (1 : Int32)) hx hb (dk DX11_law 15 rfl) (by decide) ?_
      refine lv_goto (tgt := 32) hx hb (dk DX11_law 16 rfl) (by decide) ?_
      exact J32 true mq6 _ _ ls (lv_sub hl [0, 1] rfl) hR hF
  refine lv_if_ge (tgt := 18) hx hb (dk DX11_law 6 rfl) (by decide) (fun c8 => ?_) (fun c8 => ?_)
  · have hF := if_t c8 hF
    refine lv_iconst (v := (-1 : Int32)) hx hb (dk DX11_law 10 rfl) (by decide) ?_
    exact J19 (-1 : Int32) mq1 _ _ ls (lv_sub hl [1, 0] rfl) hR hF
  · have hF := if_f c8 hF
    refine lv_aload_n hx hb (dk DX11_law 7 rfl) rfl (lv_at hl 1 rfl) ?_
    refine gX11_84 C hR ob78 (dk DX11_law 8 rfl) ?_
    refine lv_goto (tgt := 19) hx hb (dk DX11_law 9 rfl) (by decide) ?_
    exact J19 (gI mq1 78 11) mq1 _ _ ls (lv_sub hl [1, 0] rfl) hR hF
set_option maxHeartbeats 4000000 in
set_option maxRecDepth 100000 in
theorem C_M_noSession (l : Launch) (hl0 : l.stackTraces = false) (G : GG) (a1 : Int32) (m0 : Mem) (v : Bool) (m' : Mem) (hF : F_M_noSession a1 m0 = some (v, m')) : Ct l G mr0 N0 yX11_noSession cX11_noSession 2 (some .boolean) 2 [.ref (G.2.1 + 78), .int a1] m0 (some (.int (b2i v))) m' := by
  refine Ct_of hl0 (by decide) (Nat.le_of_ble_eq_true rfl) ?_
  intro p e s mid args below meth c ls C hrt hl hR
  have hx := C.1.1
  have hb := C.1.2.1
  have hl : lv_has ls 2 [(0, .ref (G.2.1 + 78)), (1, .int a1)] := hl
  unfold F_M_noSession at hF
  refine lv_iload_n hx hb (dk DX11_noSession 0 rfl) rfl (lv_at hl 1 rfl) ?_
  refine lv_iconst (v := (0 : Int32)) hx hb (dk DX11_noSession 1 rfl) (by decide) ?_
  refine lv_aload_n hx hb (dk DX11_noSession 2 rfl) rfl (lv_at hl 0 rfl) ?_
  obtain ⟨xq3, mq1, hzq2, hF⟩ := bnd_ex hF
  refine r_callVi (As := []) (rest := [.int (0 : Int32), .int a1]) C hR (C_M_size l hl0 G m0 _ _ hzq2) (by decide) (by decide) ob78 rfl wX11_63 rfl rfl (Nat.le_of_ble_eq_true rfl) hl.1 ⟨Nat.zero_le _, Nat.zero_le _⟩ (dk DX11_noSession 3 rfl) (fun H locs hR => ?_)
  refine lv_iconst (v := (1 : Int32)) hx hb (dk DX11_noSession 4 rfl) (by decide) ?_
  refine lv_isub hx hb (dk DX11_noSession 5 rfl) ?_
  obtain ⟨zq6, mq4, hzq5, hF⟩ := bnd_ex hF
  refine r_callSi (As := [.int a1, .int (0 : Int32), .int (xq3 - (1 : Int32))]) (rest := []) C hR (C_M_in l hl0 G a1 (0 : Int32) (xq3 - (1 : Int32)) mq1 _ _ hzq5) (by decide) (by decide) wX11_67 rfl rfl (Nat.le_of_ble_eq_true rfl) hl.1 ⟨Nat.zero_le _, Nat.zero_le _⟩ (dk DX11_noSession 6 rfl) (fun H locs hR => ?_)
  refine z_ifne (tgt := 18) hx hb (dk DX11_noSession 7 rfl) (by decide) (fun c11 => ?_) (fun c11 => ?_)
  · have hF := if_t c11 hF
    refine lv_iconst (v := (0 : Int32)) hx hb (dk DX11_noSession 10 rfl) (by decide) ?_
    cases hF
    exact r_zret C hrt hR (dk DX11_noSession 11 rfl)
  · have hF := if_f c11 hF
    refine lv_iconst (v := (1 : Int32)) hx hb (dk DX11_noSession 8 rfl) (by decide) ?_
    refine lv_goto (tgt := 19) hx hb (dk DX11_noSession 9 rfl) (by decide) ?_
    cases hF
    exact r_zret C hrt hR (dk DX11_noSession 11 rfl)
set_option maxHeartbeats 4000000 in
set_option maxRecDepth 100000 in
theorem C_M_level (l : Launch) (hl0 : l.stackTraces = false) (G : GG) (a1 : Int32) (a2 : Int32) (a3 : Int32) (m0 : Mem) (v : Int32) (m' : Mem) (hF : F_M_level a1 a2 a3 m0 = some (v, m')) : Ct l G mr0 N0 yX11_level cX11_level 4 (some .int) 4 [.ref (G.2.1 + 78), .int a1, .int a2, .int a3] m0 (some (.int v)) m' := by
  refine Ct_of hl0 (by decide) (Nat.le_of_ble_eq_true rfl) ?_
  intro p e s mid args below meth c ls C hrt hl hR
  have hx := C.1.1
  have hb := C.1.2.1
  have hl : lv_has ls 4 [(0, .ref (G.2.1 + 78)), (1, .int a1), (2, .int a2), (3, .int a3)] := hl
  unfold F_M_level at hF
  refine lv_aload_n hx hb (dk DX11_level 0 rfl) rfl (lv_at hl 0 rfl) ?_
  refine lv_iconst (v := (0 : Int32)) hx hb (dk DX11_level 1 rfl) (by decide) ?_
  refine pX11_3 (x := (0 : Int32)) C hR ob78 (dk DX11_level 2 rfl) (fun H locs hR => ?_)
  obtain ⟨mq1, emq1, hF⟩ := lt_ex hF
  have hR := Rp_at emq1 hR
  refine lv_aload_n hx hb (dk DX11_level 3 rfl) rfl (lv_at hl 0 rfl) ?_
  refine lv_aload_n hx hb (dk DX11_level 4 rfl) rfl (lv_at hl 0 rfl) ?_
  refine lv_iload_n hx hb (dk DX11_level 5 rfl) rfl (lv_at hl 1 rfl) ?_
  obtain ⟨zq4, mq2, hzq3, hF⟩ := bnd_ex hF
  refine r_callVi (As := [.int a1]) (rest := [.ref (G.2.1 + 78)]) C hR (C_M_noSession l hl0 G a1 mq1 _ _ hzq3) (by decide) (by decide) ob78 rfl wX11_253 rfl rfl (Nat.le_of_ble_eq_true rfl) hl.1 ⟨Nat.zero_le _, Nat.zero_le _⟩ (dk DX11_level 6 rfl) (fun H locs hR => ?_)
  obtain ⟨k33_6, ek33_6, hF⟩ := lt_ex hF
  have J33 : ∀ (zq6 : Bool) (mq5 : Mem) (H : Heap) (locs : List Loc) (ls : Array Slot), lv_has ls 4 [(0, .ref (G.2.1 + 78)), (1, .int a1), (2, .int a2), (3, .int a3)] → Rp G mr0 N0 mq5 s H locs → k33_6 zq6 mq5 = some (v, m') → W p l e (rmD 4) s mid args below meth c H locs 0 0 (MQ below (QR G mr0 N0 (some (.int v)) m') args s 0 0 (fun q => G.2.1 ≤ q)) (F0 mid 33 ls [.int (b2i zq6), .ref (G.2.1 + 78)]) := by
    intro zq6 mq5 H locs ls hl hR hF
    rw [ek33_6] at hF
    refine lv_iconst (v := (1 : Int32)) hx hb (dk DX11_level 17 rfl) (by decide) ?_
    obtain ⟨zq9, mq7, hzq8, hF⟩ := bnd_ex hF
    refine r_callVi (As := [.int (b2i zq6), .int (1 : Int32)]) (rest := []) C hR (C_M_throwsIf l hl0 G zq6 (1 : Int32) mq5 _ _ hzq8) (by decide) (by decide) ob78 rfl wX11_227 rfl rfl (Nat.le_of_ble_eq_true rfl) hl.1 ⟨Nat.zero_le _, Nat.zero_le _⟩ (dk DX11_level 18 rfl) (fun H locs hR => ?_)
    refine z_ifeq (tgt := 44) hx hb (dk DX11_level 19 rfl) (by decide) (fun c37 => ?_) (fun c37 => ?_)
    · have hF := if_f c37 hF
      refine lv_aload_n hx hb (dk DX11_level 22 rfl) rfl (lv_at hl 0 rfl) ?_
      refine lv_iload_n hx hb (dk DX11_level 23 rfl) rfl (lv_at hl 1 rfl) ?_
      refine lv_iload_n hx hb (dk DX11_level 24 rfl) rfl (lv_at hl 2 rfl) ?_
      refine lv_iload_n hx hb (dk DX11_level 25 rfl) rfl (lv_at hl 3 rfl) ?_
      obtain ⟨xq12, mq10, hzq11, hF⟩ := bnd_ex hF
      refine r_callVi (As := [.int a1, .int a2, .int a3]) (rest := []) C hR (C_M_levelOf l hl0 G a1 a2 a3 mq7 _ _ hzq11) (by decide) (by decide) ob78 rfl wX11_259 rfl rfl (Nat.le_of_ble_eq_true rfl) hl.1 ⟨Nat.zero_le _, Nat.zero_le _⟩ (dk DX11_level 26 rfl) (fun H locs hR => ?_)
      cases hF
      exact r_iret C hrt hR (dk DX11_level 27 rfl)
    · have hF := if_t c37 hF
      refine lv_iconst (v := (0 : Int32)) hx hb (dk DX11_level 20 rfl) (by decide) ?_
      refine lv_goto (tgt := 51) hx hb (dk DX11_level 21 rfl) (by decide) ?_
      cases hF
      exact r_iret C hrt hR (dk DX11_level 27 rfl)
  obtain ⟨k28_13, ek28_13, hF⟩ := lt_ex hF
  have J28 : ∀ (mq13 : Mem) (H : Heap) (locs : List Loc) (ls : Array Slot), lv_has ls 4 [(0, .ref (G.2.1 + 78)), (1, .int a1), (2, .int a2), (3, .int a3)] → Rp G mr0 N0 mq13 s H locs → k28_13  mq13 = some (v, m') → W p l e (rmD 4) s mid args below meth c H locs 0 0 (MQ below (QR G mr0 N0 (some (.int v)) m') args s 0 0 (fun q => G.2.1 ≤ q)) (F0 mid 28 ls [.ref (G.2.1 + 78)]) := by
    intro  mq13 H locs ls hl hR hF
    rw [ek28_13] at hF
    refine lv_iconst (v := (1 : Int32)) hx hb (dk DX11_level 14 rfl) (by decide) ?_
    refine lv_goto (tgt := 33) hx hb (dk DX11_level 15 rfl) (by decide) ?_
    exact J33 true mq13 _ _ ls (lv_sub hl [0, 1, 2, 3] rfl) hR hF
  refine z_ifne (tgt := 28) hx hb (dk DX11_level 7 rfl) (by decide) (fun c11 => ?_) (fun c11 => ?_)
  · have hF := if_t c11 hF
    exact J28 mq2 _ _ ls (lv_sub hl [0, 1, 2, 3] rfl) hR hF
  · have hF := if_f c11 hF
    refine lv_iload_n hx hb (dk DX11_level 8 rfl) rfl (lv_at hl 2 rfl) ?_
    obtain ⟨zq16, mq14, hzq15, hF⟩ := bnd_ex hF
    refine r_callSi (As := [.int a2]) (rest := [.ref (G.2.1 + 78)]) C hR (C_M_noInnings l hl0 G a2 mq2 _ _ hzq15) (by decide) (by decide) wX11_256 rfl rfl (Nat.le_of_ble_eq_true rfl) hl.1 ⟨Nat.zero_le _, Nat.zero_le _⟩ (dk DX11_level 9 rfl) (fun H locs hR => ?_)
    refine z_ifne (tgt := 28) hx hb (dk DX11_level 10 rfl) (by decide) (fun c18 => ?_) (fun c18 => ?_)
    · have hF := if_t c18 hF
      exact J28 mq14 _ _ ls (lv_sub hl [0, 1, 2, 3] rfl) hR hF
    · have hF := if_f c18 hF
      refine lv_iload_n hx hb (dk DX11_level 11 rfl) rfl (lv_at hl 3 rfl) ?_
      obtain ⟨zq19, mq17, hzq18, hF⟩ := bnd_ex hF
      refine r_callSi (As := [.int a3]) (rest := [.ref (G.2.1 + 78)]) C hR (C_M_noSide l hl0 G a3 mq14 _ _ hzq18) (by decide) (by decide) wX11_243 rfl rfl (Nat.le_of_ble_eq_true rfl) hl.1 ⟨Nat.zero_le _, Nat.zero_le _⟩ (dk DX11_level 12 rfl) (fun H locs hR => ?_)
      refine z_ifeq (tgt := 32) hx hb (dk DX11_level 13 rfl) (by decide) (fun c25 => ?_) (fun c25 => ?_)
      · have hF := if_f c25 hF
        refine lv_iconst (v := (0 : Int32)) hx hb (dk DX11_level 16 rfl) (by decide) ?_
        exact J33 false mq17 _ _ ls (lv_sub hl [0, 1, 2, 3] rfl) hR hF
      · have hF := if_t c25 hF
        exact J28 mq17 _ _ ls (lv_sub hl [0, 1, 2, 3] rfl) hR hF
set_option maxHeartbeats 4000000 in
set_option maxRecDepth 100000 in
theorem C_M_line (l : Launch) (hl0 : l.stackTraces = false) (G : GG) (a1 : Int32) (a2 : Int32) (a3 : Bool) (a4 : Int32) (a5 : Int32) (m0 : Mem) (v : Int32) (m' : Mem) (hF : F_M_line a1 a2 a3 a4 a5 m0 = some (v, m')) : Ct l G mr0 N0 yX11_line cX11_line 7 (some .int) 10 [.ref (G.2.1 + 78), .int a1, .int a2, .int (b2i a3), .int a4, .int a5] m0 (some (.int v)) m' := by
  refine Ct_of hl0 (by decide) (Nat.le_of_ble_eq_true rfl) ?_
  intro p e s mid args below meth c ls C hrt hl hR
  have hx := C.1.1
  have hb := C.1.2.1
  have hl : lv_has ls 7 [(0, .ref (G.2.1 + 78)), (1, .int a1), (2, .int a2), (3, .int (b2i a3)), (4, .int a4), (5, .int a5)] := hl
  unfold F_M_line at hF
  refine lv_aload_n hx hb (dk DX11_line 0 rfl) rfl (lv_at hl 0 rfl) ?_
  refine lv_iconst (v := (0 : Int32)) hx hb (dk DX11_line 1 rfl) (by decide) ?_
  refine pX11_3 (x := (0 : Int32)) C hR ob78 (dk DX11_line 2 rfl) (fun H locs hR => ?_)
  obtain ⟨mq1, emq1, hF⟩ := lt_ex hF
  have hR := Rp_at emq1 hR
  refine lv_aload_n hx hb (dk DX11_line 3 rfl) rfl (lv_at hl 0 rfl) ?_
  refine lv_aload_n hx hb (dk DX11_line 4 rfl) rfl (lv_at hl 0 rfl) ?_
  refine lv_iload_n hx hb (dk DX11_line 5 rfl) rfl (lv_at hl 1 rfl) ?_
  obtain ⟨zq4, mq2, hzq3, hF⟩ := bnd_ex hF
  refine r_callVi (As := [.int a1]) (rest := [.ref (G.2.1 + 78)]) C hR (C_M_noPlayed l hl0 G a1 mq1 _ _ hzq3) (by decide) (by decide) ob78 rfl wX11_452 rfl rfl (Nat.le_of_ble_eq_true rfl) hl.1 ⟨Nat.zero_le _, Nat.zero_le _⟩ (dk DX11_line 6 rfl) (fun H locs hR => ?_)
  obtain ⟨k26_6, ek26_6, hF⟩ := lt_ex hF
  have J26 : ∀ (zq6 : Bool) (mq5 : Mem) (H : Heap) (locs : List Loc) (ls : Array Slot), lv_has ls 7 [(0, .ref (G.2.1 + 78)), (1, .int a1), (2, .int a2), (3, .int (b2i a3)), (4, .int a4), (5, .int a5)] → Rp G mr0 N0 mq5 s H locs → k26_6 zq6 mq5 = some (v, m') → W p l e (rmD 10) s mid args below meth c H locs 0 0 (MQ below (QR G mr0 N0 (some (.int v)) m') args s 0 0 (fun q => G.2.1 ≤ q)) (F0 mid 26 ls [.int (b2i zq6), .ref (G.2.1 + 78)]) := by
    intro zq6 mq5 H locs ls hl hR hF
    rw [ek26_6] at hF
    refine lv_iconst (v := (1 : Int32)) hx hb (dk DX11_line 14 rfl) (by decide) ?_
    obtain ⟨zq9, mq7, hzq8, hF⟩ := bnd_ex hF
    refine r_callVi (As := [.int (b2i zq6), .int (1 : Int32)]) (rest := []) C hR (C_M_throwsIf l hl0 G zq6 (1 : Int32) mq5 _ _ hzq8) (by decide) (by decide) ob78 rfl wX11_227 rfl rfl (Nat.le_of_ble_eq_true rfl) hl.1 ⟨Nat.zero_le _, Nat.zero_le _⟩ (dk DX11_line 15 rfl) (fun H locs hR => ?_)
    refine z_ifne (tgt := 49) hx hb (dk DX11_line 16 rfl) (by decide) (fun c30 => ?_) (fun c30 => ?_)
    · have hF := if_t c30 hF
      refine lv_iconst (v := (0 : Int32)) hx hb (dk DX11_line 25 rfl) (by decide) ?_
      cases hF
      exact r_iret C hrt hR (dk DX11_line 26 rfl)
    · have hF := if_f c30 hF
      refine lv_aload_n hx hb (dk DX11_line 17 rfl) rfl (lv_at hl 0 rfl) ?_
      refine lv_aload_n hx hb (dk DX11_line 18 rfl) rfl (lv_at hl 0 rfl) ?_
      refine lv_iload hx hb (dk DX11_line 19 rfl) (lv_at hl 4 rfl) ?_
      refine lv_iload hx hb (dk DX11_line 20 rfl) (lv_at hl 5 rfl) ?_
      obtain ⟨zq12, mq10, hzq11, hF⟩ := bnd_ex hF
      refine r_callVi (As := [.int a4, .int a5]) (rest := [.ref (G.2.1 + 78)]) C hR (C_M_noState l hl0 G a4 a5 mq7 _ _ hzq11) (by decide) (by decide) ob78 rfl wX11_455 rfl rfl (Nat.le_of_ble_eq_true rfl) hl.1 ⟨Nat.zero_le _, Nat.zero_le _⟩ (dk DX11_line 21 rfl) (fun H locs hR => ?_)
      refine lv_iconst (v := (2 : Int32)) hx hb (dk DX11_line 22 rfl) (by decide) ?_
      obtain ⟨zq15, mq13, hzq14, hF⟩ := bnd_ex hF
      refine r_callVi (As := [.int (b2i zq12), .int (2 : Int32)]) (rest := []) C hR (C_M_throwsIf l hl0 G zq12 (2 : Int32) mq10 _ _ hzq14) (by decide) (by decide) ob78 rfl wX11_227 rfl rfl (Nat.le_of_ble_eq_true rfl) hl.1 ⟨Nat.zero_le _, Nat.zero_le _⟩ (dk DX11_line 23 rfl) (fun H locs hR => ?_)
      refine z_ifeq (tgt := 51) hx hb (dk DX11_line 24 rfl) (by decide) (fun c46 => ?_) (fun c46 => ?_)
      · have hF := if_f c46 hF
        refine lv_iload_n hx hb (dk DX11_line 27 rfl) rfl (lv_at hl 2 rfl) ?_
        refine lv_iconst (v := (3 : Int32)) hx hb (dk DX11_line 28 rfl) (by decide) ?_
        refine lv_icmp_eq (tgt := 64) hx hb (dk DX11_line 29 rfl) (by decide) (fun c53 => ?_) (fun c53 => ?_)
        · have hF := if_t c53 hF
          refine lv_iconst (v := (-1 : Int32)) hx hb (dk DX11_line 34 rfl) (by decide) ?_
          cases hF
          exact r_iret C hrt hR (dk DX11_line 35 rfl)
        · have hF := if_f c53 hF
          refine lv_iload_n hx hb (dk DX11_line 30 rfl) rfl (lv_at hl 1 rfl) ?_
          refine lv_aload_n hx hb (dk DX11_line 31 rfl) rfl (lv_at hl 0 rfl) ?_
          obtain ⟨xq18, mq16, hzq17, hF⟩ := bnd_ex hF
          refine r_callVi (As := []) (rest := [.int a1]) C hR (C_M_size l hl0 G mq13 _ _ hzq17) (by decide) (by decide) ob78 rfl wX11_63 rfl rfl (Nat.le_of_ble_eq_true rfl) hl.1 ⟨Nat.zero_le _, Nat.zero_le _⟩ (dk DX11_line 32 rfl) (fun H locs hR => ?_)
          refine lv_icmp_ne (tgt := 66) hx hb (dk DX11_line 33 rfl) (by decide) (fun c61 => ?_) (fun c61 => ?_)
          · have hF := if_f c61 hF
            refine lv_iconst (v := (0 : Int32)) hx hb (dk DX11_line 36 rfl) (by decide) ?_
            refine lv_istore (lv' := [(6, .int (0 : Int32)), (0, .ref (G.2.1 + 78)), (1, .int a1), (2, .int a2), (3, .int (b2i a3)), (4, .int a4), (5, .int a5)]) hx hb (dk DX11_line 37 rfl) hl (by decide) rfl (fun ls hl => ?_)
            obtain ⟨k115_20, ek115_20, hF⟩ := lt_ex hF
            have J115 : ∀ (xq20 : Int32) (mq19 : Mem) (H : Heap) (locs : List Loc) (ls : Array Slot), lv_has ls 7 [(6, .int xq20)] → Rp G mr0 N0 mq19 s H locs → k115_20 xq20 mq19 = some (v, m') → W p l e (rmD 10) s mid args below meth c H locs 0 0 (MQ below (QR G mr0 N0 (some (.int v)) m') args s 0 0 (fun q => G.2.1 ≤ q)) (F0 mid 115 ls []) := by
              intro xq20 mq19 H locs ls hl hR hF
              rw [ek115_20] at hF
              refine lv_iload hx hb (dk DX11_line 62 rfl) (lv_at hl 0 rfl) ?_
              refine lv_if_ne (tgt := 124) hx hb (dk DX11_line 63 rfl) (by decide) (fun c117 => ?_) (fun c117 => ?_)
              · have hF := if_f c117 hF
                refine lv_iload hx hb (dk DX11_line 66 rfl) (lv_at hl 0 rfl) ?_
                cases hF
                exact r_iret C hrt hR (dk DX11_line 67 rfl)
              · have hF := if_t c117 hF
                refine lv_iconst (v := (-1 : Int32)) hx hb (dk DX11_line 64 rfl) (by decide) ?_
                refine lv_goto (tgt := 126) hx hb (dk DX11_line 65 rfl) (by decide) ?_
                cases hF
                exact r_iret C hrt hR (dk DX11_line 67 rfl)
            have L69 : ∀ (nf : Nat) (xq22 : Int32) (mq21 : Mem) (H : Heap) (locs : List Loc) (ls : Array Slot), lv_has ls 7 [(0, .ref (G.2.1 + 78)), (1, .int a1), (2, .int a2), (3, .int (b2i a3)), (4, .int a4), (5, .int a5), (6, .int xq22)] → Rp G mr0 N0 mq21 s H locs → F_M_line_L69 a1 a2 a3 a4 a5 k115_20 nf xq22 mq21 = some (v, m') → W p l e (rmD 10) s mid args below meth c H locs 0 0 (MQ below (QR G mr0 N0 (some (.int v)) m') args s 0 0 (fun q => G.2.1 ≤ q)) (F0 mid 69 ls []) := by
              intro nf
              induction nf with
              | zero =>
                intro xq22 mq21 H locs ls hl hR hF
                rw [F_M_line_L69] at hF
                cases hF
              | succ nf ihq24 =>
                intro xq22 mq21 H locs ls hl hR hF
                rw [F_M_line_L69] at hF
                refine lv_iload hx hb (dk DX11_line 38 rfl) (lv_at hl 6 rfl) ?_
                refine lv_bipush (v := (100 : Int32)) hx hb (dk DX11_line 39 rfl) (by decide) ?_
                refine lv_icmp_gt (tgt := 133) hx hb (dk DX11_line 40 rfl) (by decide) (fun c73 => ?_) (fun c73 => ?_)
                · have hF := if_t c73 hF
                  refine lv_iconst (v := (-1 : Int32)) hx hb (dk DX11_line 70 rfl) (by decide) ?_
                  cases hF
                  exact r_iret C hrt hR (dk DX11_line 71 rfl)
                · have hF := if_f c73 hF
                  refine lv_aload_n hx hb (dk DX11_line 41 rfl) rfl (lv_at hl 0 rfl) ?_
                  refine lv_iload hx hb (dk DX11_line 42 rfl) (lv_at hl 6 rfl) ?_
                  refine pX11_334 (x := xq22) C hR ob78 (dk DX11_line 43 rfl) (fun H locs hR => ?_)
                  obtain ⟨mq25, emq25, hF⟩ := lt_ex hF
                  have hR := Rp_at emq25 hR
                  refine lv_aload_n hx hb (dk DX11_line 44 rfl) rfl (lv_at hl 0 rfl) ?_
                  refine lv_iconst (v := (0 : Int32)) hx hb (dk DX11_line 45 rfl) (by decide) ?_
                  refine lv_iload_n hx hb (dk DX11_line 46 rfl) rfl (lv_at hl 1 rfl) ?_
                  refine lv_iload hx hb (dk DX11_line 47 rfl) (lv_at hl 4 rfl) ?_
                  refine r_abI C (gd q2066 rfl) (by decide) (Nat.le_of_ble_eq_true rfl) hl.1 ⟨Nat.zero_le _, Nat.zero_le _⟩ (dk DX11_line 48 rfl) ?_
                  obtain ⟨uq28, mq26, hzq27, hF⟩ := bnd_ex hF
                  refine r_callVv (As := [.int (0 : Int32), .int a1, .int (abI a4)]) (rest := []) C hR (C_M_layers l hl0 G (0 : Int32) a1 (abI a4) mq25 _ _ hzq27) (by decide) (by decide) ob78 rfl wX11_412 rfl rfl (Nat.le_of_ble_eq_true rfl) hl.1 ⟨Nat.zero_le _, Nat.zero_le _⟩ (dk DX11_line 49 rfl) (fun H locs hR => ?_)
                  refine lv_aload_n hx hb (dk DX11_line 50 rfl) rfl (lv_at hl 0 rfl) ?_
                  refine lv_iload_n hx hb (dk DX11_line 51 rfl) rfl (lv_at hl 1 rfl) ?_
                  obtain ⟨uq31, mq29, hzq30, hF⟩ := bnd_ex hF
                  refine r_callVv (As := [.int a1]) (rest := []) C hR (C_M_laysLevels l hl0 G a1 mq26 _ _ hzq30) (by decide) (by decide) ob78 rfl wX11_399 rfl rfl (Nat.le_of_ble_eq_true rfl) hl.1 ⟨Nat.zero_le _, Nat.zero_le _⟩ (dk DX11_line 52 rfl) (fun H locs hR => ?_)
                  refine lv_aload_n hx hb (dk DX11_line 53 rfl) rfl (lv_at hl 0 rfl) ?_
                  refine lv_iload_n hx hb (dk DX11_line 54 rfl) rfl (lv_at hl 1 rfl) ?_
                  refine lv_iload_n hx hb (dk DX11_line 55 rfl) rfl (lv_at hl 2 rfl) ?_
                  refine lv_iload_n hx hb (dk DX11_line 56 rfl) rfl (lv_at hl 3 rfl) ?_
                  obtain ⟨xq34, mq32, hzq33, hF⟩ := bnd_ex hF
                  refine r_callSi (As := [.int a2, .int (b2i a3)]) (rest := [.int a1, .ref (G.2.1 + 78)]) C hR (C_M_kindOf l hl0 G a2 a3 mq29 _ _ hzq33) (by decide) (by decide) wX11_406 rfl rfl (Nat.le_of_ble_eq_true rfl) hl.1 ⟨Nat.zero_le _, Nat.zero_le _⟩ (dk DX11_line 57 rfl) (fun H locs hR => ?_)
                  refine lv_iload hx hb (dk DX11_line 58 rfl) (lv_at hl 5 rfl) ?_
                  refine lv_iload hx hb (dk DX11_line 59 rfl) (lv_at hl 4 rfl) ?_
                  obtain ⟨zq37, mq35, hzq36, hF⟩ := bnd_ex hF
                  refine r_callVi (As := [.int a1, .int xq34, .int a5, .int a4]) (rest := []) C hR (C_M_isChosen l hl0 G a1 xq34 a5 a4 mq32 _ _ hzq36) (by decide) (by decide) ob78 rfl wX11_461 rfl rfl (Nat.le_of_ble_eq_true rfl) hl.1 ⟨Nat.zero_le _, Nat.zero_le _⟩ (dk DX11_line 60 rfl) (fun H locs hR => ?_)
                  refine z_ifne (tgt := 127) hx hb (dk DX11_line 61 rfl) (by decide) (fun c112 => ?_) (fun c112 => ?_)
                  · have hF := if_t c112 hF
                    obtain ⟨xq38, exq38, hF⟩ := lt_ex hF
                    refine lv_iinc (v := xq38) (lv' := [(6, .int xq38), (0, .ref (G.2.1 + 78)), (1, .int a1), (2, .int a2), (3, .int (b2i a3)), (4, .int a4), (5, .int a5)]) hx hb (dk DX11_line 68 rfl) hl (k := 6) rfl (by rw [exq38]; rfl) (by decide) rfl (fun ls hl => ?_)
                    refine lv_goto (tgt := 69) hx hb (dk DX11_line 69 rfl) (by decide) ?_
                    exact ihq24 xq38 mq35 _ _ ls (lv_sub hl [1, 2, 3, 4, 5, 6, 0] rfl) hR hF
                  · have hF := if_f c112 hF
                    exact J115 xq22 mq35 _ _ ls (lv_sub hl [6] rfl) hR hF
            exact L69 1000000 (0 : Int32) mq16 _ _ ls (lv_sub hl [1, 2, 3, 4, 5, 6, 0] rfl) hR hF
          · have hF := if_t c61 hF
            refine lv_iconst (v := (-1 : Int32)) hx hb (dk DX11_line 34 rfl) (by decide) ?_
            cases hF
            exact r_iret C hrt hR (dk DX11_line 35 rfl)
      · have hF := if_t c46 hF
        refine lv_iconst (v := (0 : Int32)) hx hb (dk DX11_line 25 rfl) (by decide) ?_
        cases hF
        exact r_iret C hrt hR (dk DX11_line 26 rfl)
  obtain ⟨k21_39, ek21_39, hF⟩ := lt_ex hF
  have J21 : ∀ (mq39 : Mem) (H : Heap) (locs : List Loc) (ls : Array Slot), lv_has ls 7 [(0, .ref (G.2.1 + 78)), (1, .int a1), (2, .int a2), (3, .int (b2i a3)), (4, .int a4), (5, .int a5)] → Rp G mr0 N0 mq39 s H locs → k21_39  mq39 = some (v, m') → W p l e (rmD 10) s mid args below meth c H locs 0 0 (MQ below (QR G mr0 N0 (some (.int v)) m') args s 0 0 (fun q => G.2.1 ≤ q)) (F0 mid 21 ls [.ref (G.2.1 + 78)]) := by
    intro  mq39 H locs ls hl hR hF
    rw [ek21_39] at hF
    refine lv_iconst (v := (1 : Int32)) hx hb (dk DX11_line 11 rfl) (by decide) ?_
    refine lv_goto (tgt := 26) hx hb (dk DX11_line 12 rfl) (by decide) ?_
    exact J26 true mq39 _ _ ls (lv_sub hl [0, 1, 2, 3, 4, 5] rfl) hR hF
  refine z_ifne (tgt := 21) hx hb (dk DX11_line 7 rfl) (by decide) (fun c11 => ?_) (fun c11 => ?_)
  · have hF := if_t c11 hF
    exact J21 mq2 _ _ ls (lv_sub hl [0, 1, 2, 3, 4, 5] rfl) hR hF
  · have hF := if_f c11 hF
    refine lv_iload_n hx hb (dk DX11_line 8 rfl) rfl (lv_at hl 2 rfl) ?_
    obtain ⟨zq42, mq40, hzq41, hF⟩ := bnd_ex hF
    refine r_callSi (As := [.int a2]) (rest := [.ref (G.2.1 + 78)]) C hR (C_M_noInnings l hl0 G a2 mq2 _ _ hzq41) (by decide) (by decide) wX11_256 rfl rfl (Nat.le_of_ble_eq_true rfl) hl.1 ⟨Nat.zero_le _, Nat.zero_le _⟩ (dk DX11_line 9 rfl) (fun H locs hR => ?_)
    refine z_ifeq (tgt := 25) hx hb (dk DX11_line 10 rfl) (by decide) (fun c18 => ?_) (fun c18 => ?_)
    · have hF := if_f c18 hF
      refine lv_iconst (v := (0 : Int32)) hx hb (dk DX11_line 13 rfl) (by decide) ?_
      exact J26 false mq40 _ _ ls (lv_sub hl [0, 1, 2, 3, 4, 5] rfl) hR hF
    · have hF := if_t c18 hF
      exact J21 mq40 _ _ ls (lv_sub hl [0, 1, 2, 3, 4, 5] rfl) hR hF
set_option maxHeartbeats 4000000 in
set_option maxRecDepth 100000 in
theorem C_M_log (l : Launch) (hl0 : l.stackTraces = false) (G : GG) (a1 : Int32) (a2 : Int32) (m0 : Mem) (v : Int32) (m' : Mem) (hF : F_M_log a1 a2 m0 = some (v, m')) : Ct l G mr0 N0 yX11_log cX11_log 3 (some .int) 2 [.ref (G.2.1 + 78), .int a1, .int a2] m0 (some (.int v)) m' := by
  refine Ct_of hl0 (by decide) (Nat.le_of_ble_eq_true rfl) ?_
  intro p e s mid args below meth c ls C hrt hl hR
  have hx := C.1.1
  have hb := C.1.2.1
  have hl : lv_has ls 3 [(0, .ref (G.2.1 + 78)), (1, .int a1), (2, .int a2)] := hl
  unfold F_M_log at hF
  refine lv_aload_n hx hb (dk DX11_log 0 rfl) rfl (lv_at hl 0 rfl) ?_
  refine lv_iconst (v := (0 : Int32)) hx hb (dk DX11_log 1 rfl) (by decide) ?_
  refine pX11_3 (x := (0 : Int32)) C hR ob78 (dk DX11_log 2 rfl) (fun H locs hR => ?_)
  obtain ⟨mq1, emq1, hF⟩ := lt_ex hF
  have hR := Rp_at emq1 hR
  refine lv_aload_n hx hb (dk DX11_log 3 rfl) rfl (lv_at hl 0 rfl) ?_
  refine lv_iload_n hx hb (dk DX11_log 4 rfl) rfl (lv_at hl 2 rfl) ?_
  refine lv_iconst (v := (0 : Int32)) hx hb (dk DX11_log 5 rfl) (by decide) ?_
  refine lv_bipush (v := (6 : Int32)) hx hb (dk DX11_log 6 rfl) (by decide) ?_
  obtain ⟨zq4, mq2, hzq3, hF⟩ := bnd_ex hF
  refine r_callSi (As := [.int a2, .int (0 : Int32), .int (6 : Int32)]) (rest := [.ref (G.2.1 + 78)]) C hR (C_M_in l hl0 G a2 (0 : Int32) (6 : Int32) mq1 _ _ hzq3) (by decide) (by decide) wX11_67 rfl rfl (Nat.le_of_ble_eq_true rfl) hl.1 ⟨Nat.zero_le _, Nat.zero_le _⟩ (dk DX11_log 7 rfl) (fun H locs hR => ?_)
  obtain ⟨k21_6, ek21_6, hF⟩ := lt_ex hF
  have J21 : ∀ (zq6 : Bool) (mq5 : Mem) (H : Heap) (locs : List Loc) (ls : Array Slot), lv_has ls 3 [(0, .ref (G.2.1 + 78)), (1, .int a1), (2, .int a2)] → Rp G mr0 N0 mq5 s H locs → k21_6 zq6 mq5 = some (v, m') → W p l e (rmD 2) s mid args below meth c H locs 0 0 (MQ below (QR G mr0 N0 (some (.int v)) m') args s 0 0 (fun q => G.2.1 ≤ q)) (F0 mid 21 ls [.int (b2i zq6), .ref (G.2.1 + 78)]) := by
    intro zq6 mq5 H locs ls hl hR hF
    rw [ek21_6] at hF
    refine lv_iconst (v := (1 : Int32)) hx hb (dk DX11_log 12 rfl) (by decide) ?_
    obtain ⟨zq9, mq7, hzq8, hF⟩ := bnd_ex hF
    refine r_callVi (As := [.int (b2i zq6), .int (1 : Int32)]) (rest := []) C hR (C_M_throwsIf l hl0 G zq6 (1 : Int32) mq5 _ _ hzq8) (by decide) (by decide) ob78 rfl wX11_227 rfl rfl (Nat.le_of_ble_eq_true rfl) hl.1 ⟨Nat.zero_le _, Nat.zero_le _⟩ (dk DX11_log 13 rfl) (fun H locs hR => ?_)
    refine z_ifeq (tgt := 30) hx hb (dk DX11_log 14 rfl) (by decide) (fun c25 => ?_) (fun c25 => ?_)
    · have hF := if_f c25 hF
      refine lv_iload_n hx hb (dk DX11_log 17 rfl) rfl (lv_at hl 1 rfl) ?_
      refine lv_iconst (v := (0 : Int32)) hx hb (dk DX11_log 18 rfl) (by decide) ?_
      refine lv_aload_n hx hb (dk DX11_log 19 rfl) rfl (lv_at hl 0 rfl) ?_
      obtain ⟨xq12, mq10, hzq11, hF⟩ := bnd_ex hF
      refine r_callVi (As := []) (rest := [.int (0 : Int32), .int a1]) C hR (C_M_played l hl0 G mq7 _ _ hzq11) (by decide) (by decide) ob78 rfl wX11_288 rfl rfl (Nat.le_of_ble_eq_true rfl) hl.1 ⟨Nat.zero_le _, Nat.zero_le _⟩ (dk DX11_log 20 rfl) (fun H locs hR => ?_)
      refine lv_iconst (v := (1 : Int32)) hx hb (dk DX11_log 21 rfl) (by decide) ?_
      refine lv_isub hx hb (dk DX11_log 22 rfl) ?_
      obtain ⟨zq15, mq13, hzq14, hF⟩ := bnd_ex hF
      refine r_callSi (As := [.int a1, .int (0 : Int32), .int (xq12 - (1 : Int32))]) (rest := []) C hR (C_M_in l hl0 G a1 (0 : Int32) (xq12 - (1 : Int32)) mq10 _ _ hzq14) (by decide) (by decide) wX11_67 rfl rfl (Nat.le_of_ble_eq_true rfl) hl.1 ⟨Nat.zero_le _, Nat.zero_le _⟩ (dk DX11_log 23 rfl) (fun H locs hR => ?_)
      refine z_ifeq (tgt := 53) hx hb (dk DX11_log 24 rfl) (by decide) (fun c41 => ?_) (fun c41 => ?_)
      · have hF := if_f c41 hF
        refine lv_bipush (v := (-99 : Int32)) hx hb (dk DX11_log 30 rfl) (by decide) ?_
        cases hF
        exact r_iret C hrt hR (dk DX11_log 31 rfl)
      · have hF := if_t c41 hF
        refine lv_aload_n hx hb (dk DX11_log 25 rfl) rfl (lv_at hl 0 rfl) ?_
        refine lv_iload_n hx hb (dk DX11_log 26 rfl) rfl (lv_at hl 1 rfl) ?_
        refine lv_iload_n hx hb (dk DX11_log 27 rfl) rfl (lv_at hl 2 rfl) ?_
        obtain ⟨xq18, mq16, hzq17, hF⟩ := bnd_ex hF
        refine r_callVi (As := [.int a1, .int a2]) (rest := []) C hR (C_M_ofLog l hl0 G a1 a2 mq13 _ _ hzq17) (by decide) (by decide) ob78 rfl wX11_486 rfl rfl (Nat.le_of_ble_eq_true rfl) hl.1 ⟨Nat.zero_le _, Nat.zero_le _⟩ (dk DX11_log 28 rfl) (fun H locs hR => ?_)
        refine lv_goto (tgt := 55) hx hb (dk DX11_log 29 rfl) (by decide) ?_
        cases hF
        exact r_iret C hrt hR (dk DX11_log 31 rfl)
    · have hF := if_t c25 hF
      refine lv_iconst (v := (0 : Int32)) hx hb (dk DX11_log 15 rfl) (by decide) ?_
      cases hF
      exact r_iret C hrt hR (dk DX11_log 16 rfl)
  refine z_ifne (tgt := 20) hx hb (dk DX11_log 8 rfl) (by decide) (fun c13 => ?_) (fun c13 => ?_)
  · have hF := if_t c13 hF
    refine lv_iconst (v := (0 : Int32)) hx hb (dk DX11_log 11 rfl) (by decide) ?_
    exact J21 false mq2 _ _ ls (lv_sub hl [0, 1, 2] rfl) hR hF
  · have hF := if_f c13 hF
    refine lv_iconst (v := (1 : Int32)) hx hb (dk DX11_log 9 rfl) (by decide) ?_
    refine lv_goto (tgt := 21) hx hb (dk DX11_log 10 rfl) (by decide) ?_
    exact J21 true mq2 _ _ ls (lv_sub hl [0, 1, 2] rfl) hR hF
set_option maxHeartbeats 4000000 in
set_option maxRecDepth 100000 in
theorem C_M_match (l : Launch) (hl0 : l.stackTraces = false) (G : GG) (a1 : Int32) (m0 : Mem) (v : Int32) (m' : Mem) (hF : F_M_match a1 m0 = some (v, m')) : Ct l G mr0 N0 yX11_match cX11_match 2 (some .int) 4 [.ref (G.2.1 + 78), .int a1] m0 (some (.int v)) m' := by
  refine Ct_of hl0 (by decide) (Nat.le_of_ble_eq_true rfl) ?_
  intro p e s mid args below meth c ls C hrt hl hR
  have hx := C.1.1
  have hb := C.1.2.1
  have hl : lv_has ls 2 [(0, .ref (G.2.1 + 78)), (1, .int a1)] := hl
  unfold F_M_match at hF
  refine lv_aload_n hx hb (dk DX11_match 0 rfl) rfl (lv_at hl 0 rfl) ?_
  refine lv_iconst (v := (0 : Int32)) hx hb (dk DX11_match 1 rfl) (by decide) ?_
  refine pX11_3 (x := (0 : Int32)) C hR ob78 (dk DX11_match 2 rfl) (fun H locs hR => ?_)
  obtain ⟨mq1, emq1, hF⟩ := lt_ex hF
  have hR := Rp_at emq1 hR
  refine lv_aload_n hx hb (dk DX11_match 3 rfl) rfl (lv_at hl 0 rfl) ?_
  refine lv_iload_n hx hb (dk DX11_match 4 rfl) rfl (lv_at hl 1 rfl) ?_
  refine lv_iconst (v := (0 : Int32)) hx hb (dk DX11_match 5 rfl) (by decide) ?_
  refine lv_bipush (v := (10 : Int32)) hx hb (dk DX11_match 6 rfl) (by decide) ?_
  obtain ⟨zq4, mq2, hzq3, hF⟩ := bnd_ex hF
  refine r_callSi (As := [.int a1, .int (0 : Int32), .int (10 : Int32)]) (rest := [.ref (G.2.1 + 78)]) C hR (C_M_in l hl0 G a1 (0 : Int32) (10 : Int32) mq1 _ _ hzq3) (by decide) (by decide) wX11_67 rfl rfl (Nat.le_of_ble_eq_true rfl) hl.1 ⟨Nat.zero_le _, Nat.zero_le _⟩ (dk DX11_match 7 rfl) (fun H locs hR => ?_)
  obtain ⟨k21_6, ek21_6, hF⟩ := lt_ex hF
  have J21 : ∀ (zq6 : Bool) (mq5 : Mem) (H : Heap) (locs : List Loc) (ls : Array Slot), lv_has ls 2 [(0, .ref (G.2.1 + 78)), (1, .int a1)] → Rp G mr0 N0 mq5 s H locs → k21_6 zq6 mq5 = some (v, m') → W p l e (rmD 4) s mid args below meth c H locs 0 0 (MQ below (QR G mr0 N0 (some (.int v)) m') args s 0 0 (fun q => G.2.1 ≤ q)) (F0 mid 21 ls [.int (b2i zq6), .ref (G.2.1 + 78)]) := by
    intro zq6 mq5 H locs ls hl hR hF
    rw [ek21_6] at hF
    refine lv_iconst (v := (1 : Int32)) hx hb (dk DX11_match 12 rfl) (by decide) ?_
    obtain ⟨zq9, mq7, hzq8, hF⟩ := bnd_ex hF
    refine r_callVi (As := [.int (b2i zq6), .int (1 : Int32)]) (rest := []) C hR (C_M_throwsIf l hl0 G zq6 (1 : Int32) mq5 _ _ hzq8) (by decide) (by decide) ob78 rfl wX11_227 rfl rfl (Nat.le_of_ble_eq_true rfl) hl.1 ⟨Nat.zero_le _, Nat.zero_le _⟩ (dk DX11_match 13 rfl) (fun H locs hR => ?_)
    refine z_ifeq (tgt := 30) hx hb (dk DX11_match 14 rfl) (by decide) (fun c25 => ?_) (fun c25 => ?_)
    · have hF := if_f c25 hF
      refine lv_iload_n hx hb (dk DX11_match 17 rfl) rfl (lv_at hl 1 rfl) ?_
      by_cases d0 : a1 = (0 : Int32)
      · have hF := if_t d0 hF
        refine lv_tableIn (tgt := 84) hx hb (dk DX11_match 18 rfl) (by rw [d0]; decide) (by rw [d0]; decide) (by rw [d0]; rfl) (by decide) ?_
        refine lv_aload_n hx hb (dk DX11_match 19 rfl) rfl (lv_at hl 0 rfl) ?_
        obtain ⟨xq12, mq10, hzq11, hF⟩ := bnd_ex hF
        refine r_callVi (As := []) (rest := []) C hR (C_M_firstSide l hl0 G mq7 _ _ hzq11) (by decide) (by decide) ob78 rfl wX11_265 rfl rfl (Nat.le_of_ble_eq_true rfl) hl.1 ⟨Nat.zero_le _, Nat.zero_le _⟩ (dk DX11_match 20 rfl) (fun H locs hR => ?_)
        cases hF
        exact r_iret C hrt hR (dk DX11_match 21 rfl)
      · have hF := if_f d0 hF
        by_cases d1 : a1 = (1 : Int32)
        · have hF := if_t d1 hF
          refine lv_tableIn (tgt := 89) hx hb (dk DX11_match 18 rfl) (by rw [d1]; decide) (by rw [d1]; decide) (by rw [d1]; rfl) (by decide) ?_
          refine lv_aload_n hx hb (dk DX11_match 22 rfl) rfl (lv_at hl 0 rfl) ?_
          refine gX11_13 C hR ob78 rf78_1 (dk DX11_match 23 rfl) ?_
          refine lv_bipush (v := (11 : Int32)) hx hb (dk DX11_match 24 rfl) (by decide) ?_
          refine r_iald C hR ob79 rfl (dk DX11_match 25 rfl) ?_
          cases hF
          exact r_iret C hrt hR (dk DX11_match 26 rfl)
        · have hF := if_f d1 hF
          by_cases d2 : a1 = (2 : Int32)
          · have hF := if_t d2 hF
            refine lv_tableIn (tgt := 97) hx hb (dk DX11_match 18 rfl) (by rw [d2]; decide) (by rw [d2]; decide) (by rw [d2]; rfl) (by decide) ?_
            refine lv_aload_n hx hb (dk DX11_match 27 rfl) rfl (lv_at hl 0 rfl) ?_
            refine gX11_13 C hR ob78 rf78_1 (dk DX11_match 28 rfl) ?_
            refine lv_bipush (v := (13 : Int32)) hx hb (dk DX11_match 29 rfl) (by decide) ?_
            refine r_iald C hR ob79 rfl (dk DX11_match 30 rfl) ?_
            cases hF
            exact r_iret C hrt hR (dk DX11_match 31 rfl)
          · have hF := if_f d2 hF
            by_cases d3 : a1 = (3 : Int32)
            · have hF := if_t d3 hF
              refine lv_tableIn (tgt := 105) hx hb (dk DX11_match 18 rfl) (by rw [d3]; decide) (by rw [d3]; decide) (by rw [d3]; rfl) (by decide) ?_
              refine lv_aload_n hx hb (dk DX11_match 32 rfl) rfl (lv_at hl 0 rfl) ?_
              refine gX11_13 C hR ob78 rf78_1 (dk DX11_match 33 rfl) ?_
              refine lv_bipush (v := (15 : Int32)) hx hb (dk DX11_match 34 rfl) (by decide) ?_
              refine r_iald C hR ob79 rfl (dk DX11_match 35 rfl) ?_
              cases hF
              exact r_iret C hrt hR (dk DX11_match 36 rfl)
            · have hF := if_f d3 hF
              by_cases d4 : a1 = (4 : Int32)
              · have hF := if_t d4 hF
                refine lv_tableIn (tgt := 113) hx hb (dk DX11_match 18 rfl) (by rw [d4]; decide) (by rw [d4]; decide) (by rw [d4]; rfl) (by decide) ?_
                refine lv_aload_n hx hb (dk DX11_match 37 rfl) rfl (lv_at hl 0 rfl) ?_
                refine gX11_13 C hR ob78 rf78_1 (dk DX11_match 38 rfl) ?_
                refine lv_bipush (v := (16 : Int32)) hx hb (dk DX11_match 39 rfl) (by decide) ?_
                refine r_iald C hR ob79 rfl (dk DX11_match 40 rfl) ?_
                cases hF
                exact r_iret C hrt hR (dk DX11_match 41 rfl)
              · have hF := if_f d4 hF
                by_cases d5 : a1 = (5 : Int32)
                · have hF := if_t d5 hF
                  refine lv_tableIn (tgt := 121) hx hb (dk DX11_match 18 rfl) (by rw [d5]; decide) (by rw [d5]; decide) (by rw [d5]; rfl) (by decide) ?_
                  refine lv_aload_n hx hb (dk DX11_match 42 rfl) rfl (lv_at hl 0 rfl) ?_
                  obtain ⟨zq15, mq13, hzq14, hF⟩ := bnd_ex hF
                  refine r_callVi (As := []) (rest := []) C hR (C_M_isOn l hl0 G mq7 _ _ hzq14) (by decide) (by decide) ob78 rfl wX11_278 rfl rfl (Nat.le_of_ble_eq_true rfl) hl.1 ⟨Nat.zero_le _, Nat.zero_le _⟩ (dk DX11_match 43 rfl) (fun H locs hR => ?_)
                  refine z_ifeq (tgt := 135) hx hb (dk DX11_match 44 rfl) (by decide) (fun c125 => ?_) (fun c125 => ?_)
                  · have hF := if_f c125 hF
                    refine lv_iconst (v := (-1 : Int32)) hx hb (dk DX11_match 48 rfl) (by decide) ?_
                    cases hF
                    exact r_iret C hrt hR (dk DX11_match 49 rfl)
                  · have hF := if_t c125 hF
                    refine lv_aload_n hx hb (dk DX11_match 45 rfl) rfl (lv_at hl 0 rfl) ?_
                    obtain ⟨xq18, mq16, hzq17, hF⟩ := bnd_ex hF
                    refine r_callVi (As := []) (rest := []) C hR (C_M_batter l hl0 G mq13 _ _ hzq17) (by decide) (by decide) ob78 rfl wX11_285 rfl rfl (Nat.le_of_ble_eq_true rfl) hl.1 ⟨Nat.zero_le _, Nat.zero_le _⟩ (dk DX11_match 46 rfl) (fun H locs hR => ?_)
                    refine lv_goto (tgt := 136) hx hb (dk DX11_match 47 rfl) (by decide) ?_
                    cases hF
                    exact r_iret C hrt hR (dk DX11_match 49 rfl)
                · have hF := if_f d5 hF
                  by_cases d6 : a1 = (6 : Int32)
                  · have hF := if_t d6 hF
                    refine lv_tableIn (tgt := 137) hx hb (dk DX11_match 18 rfl) (by rw [d6]; decide) (by rw [d6]; decide) (by rw [d6]; rfl) (by decide) ?_
                    refine lv_aload_n hx hb (dk DX11_match 50 rfl) rfl (lv_at hl 0 rfl) ?_
                    obtain ⟨xq21, mq19, hzq20, hF⟩ := bnd_ex hF
                    refine r_callVi (As := []) (rest := []) C hR (C_M_played l hl0 G mq7 _ _ hzq20) (by decide) (by decide) ob78 rfl wX11_288 rfl rfl (Nat.le_of_ble_eq_true rfl) hl.1 ⟨Nat.zero_le _, Nat.zero_le _⟩ (dk DX11_match 51 rfl) (fun H locs hR => ?_)
                    cases hF
                    exact r_iret C hrt hR (dk DX11_match 52 rfl)
                  · have hF := if_f d6 hF
                    by_cases d7 : a1 = (7 : Int32)
                    · have hF := if_t d7 hF
                      refine lv_tableIn (tgt := 142) hx hb (dk DX11_match 18 rfl) (by rw [d7]; decide) (by rw [d7]; decide) (by rw [d7]; rfl) (by decide) ?_
                      refine lv_aload_n hx hb (dk DX11_match 53 rfl) rfl (lv_at hl 0 rfl) ?_
                      refine gX11_13 C hR ob78 rf78_1 (dk DX11_match 54 rfl) ?_
                      refine lv_bipush (v := (12 : Int32)) hx hb (dk DX11_match 55 rfl) (by decide) ?_
                      refine r_iald C hR ob79 rfl (dk DX11_match 56 rfl) ?_
                      cases hF
                      exact r_iret C hrt hR (dk DX11_match 57 rfl)
                    · have hF := if_f d7 hF
                      by_cases d8 : a1 = (8 : Int32)
                      · have hF := if_t d8 hF
                        refine lv_tableIn (tgt := 150) hx hb (dk DX11_match 18 rfl) (by rw [d8]; decide) (by rw [d8]; decide) (by rw [d8]; rfl) (by decide) ?_
                        refine lv_aload_n hx hb (dk DX11_match 58 rfl) rfl (lv_at hl 0 rfl) ?_
                        refine gX11_13 C hR ob78 rf78_1 (dk DX11_match 59 rfl) ?_
                        refine lv_bipush (v := (18 : Int32)) hx hb (dk DX11_match 60 rfl) (by decide) ?_
                        refine r_iald C hR ob79 rfl (dk DX11_match 61 rfl) ?_
                        cases hF
                        exact r_iret C hrt hR (dk DX11_match 62 rfl)
                      · have hF := if_f d8 hF
                        by_cases d9 : a1 = (9 : Int32)
                        · have hF := if_t d9 hF
                          refine lv_tableIn (tgt := 158) hx hb (dk DX11_match 18 rfl) (by rw [d9]; decide) (by rw [d9]; decide) (by rw [d9]; rfl) (by decide) ?_
                          refine lv_aload_n hx hb (dk DX11_match 63 rfl) rfl (lv_at hl 0 rfl) ?_
                          obtain ⟨zq24, mq22, hzq23, hF⟩ := bnd_ex hF
                          refine r_callVi (As := []) (rest := []) C hR (C_M_canFollow l hl0 G mq7 _ _ hzq23) (by decide) (by decide) ob78 rfl wX11_291 rfl rfl (Nat.le_of_ble_eq_true rfl) hl.1 ⟨Nat.zero_le _, Nat.zero_le _⟩ (dk DX11_match 64 rfl) (fun H locs hR => ?_)
                          refine z_ifeq (tgt := 169) hx hb (dk DX11_match 65 rfl) (by decide) (fun c162 => ?_) (fun c162 => ?_)
                          · have hF := if_f c162 hF
                            refine lv_iconst (v := (0 : Int32)) hx hb (dk DX11_match 68 rfl) (by decide) ?_
                            cases hF
                            exact r_iret C hrt hR (dk DX11_match 69 rfl)
                          · have hF := if_t c162 hF
                            refine lv_iconst (v := (1 : Int32)) hx hb (dk DX11_match 66 rfl) (by decide) ?_
                            refine lv_goto (tgt := 170) hx hb (dk DX11_match 67 rfl) (by decide) ?_
                            cases hF
                            exact r_iret C hrt hR (dk DX11_match 69 rfl)
                        · have hF := if_f d9 hF
                          have n0 := i32_ne d0 (z := 0) rfl
                          have n1 := i32_ne d1 (z := 1) rfl
                          have n2 := i32_ne d2 (z := 2) rfl
                          have n3 := i32_ne d3 (z := 3) rfl
                          have n4 := i32_ne d4 (z := 4) rfl
                          have n5 := i32_ne d5 (z := 5) rfl
                          have n6 := i32_ne d6 (z := 6) rfl
                          have n7 := i32_ne d7 (z := 7) rfl
                          have n8 := i32_ne d8 (z := 8) rfl
                          have n9 := i32_ne d9 (z := 9) rfl
                          refine lv_tableOut (tgt := 171) hx hb (dk DX11_match 18 rfl) (by omega) (by decide) ?_
                          refine lv_aload_n hx hb (dk DX11_match 70 rfl) rfl (lv_at hl 0 rfl) ?_
                          refine gX11_13 C hR ob78 rf78_1 (dk DX11_match 71 rfl) ?_
                          refine lv_bipush (v := (14 : Int32)) hx hb (dk DX11_match 72 rfl) (by decide) ?_
                          refine r_iald C hR ob79 rfl (dk DX11_match 73 rfl) ?_
                          cases hF
                          exact r_iret C hrt hR (dk DX11_match 74 rfl)
    · have hF := if_t c25 hF
      refine lv_iconst (v := (0 : Int32)) hx hb (dk DX11_match 15 rfl) (by decide) ?_
      cases hF
      exact r_iret C hrt hR (dk DX11_match 16 rfl)
  refine z_ifne (tgt := 20) hx hb (dk DX11_match 8 rfl) (by decide) (fun c13 => ?_) (fun c13 => ?_)
  · have hF := if_t c13 hF
    refine lv_iconst (v := (0 : Int32)) hx hb (dk DX11_match 11 rfl) (by decide) ?_
    exact J21 false mq2 _ _ ls (lv_sub hl [0, 1] rfl) hR hF
  · have hF := if_f c13 hF
    refine lv_iconst (v := (1 : Int32)) hx hb (dk DX11_match 9 rfl) (by decide) ?_
    refine lv_goto (tgt := 21) hx hb (dk DX11_match 10 rfl) (by decide) ?_
    exact J21 true mq2 _ _ ls (lv_sub hl [0, 1] rfl) hR hF
set_option maxHeartbeats 4000000 in
set_option maxRecDepth 100000 in
theorem C_M_draw (l : Launch) (hl0 : l.stackTraces = false) (G : GG) (a1 : Int32) (m0 : Mem) (v : Int32) (m' : Mem) (hF : F_M_draw a1 m0 = some (v, m')) : Ct l G mr0 N0 yX11_draw cX11_draw 2 (some .int) 1 [.ref (G.2.1 + 78), .int a1] m0 (some (.int v)) m' := by
  refine Ct_of hl0 (by decide) (Nat.le_of_ble_eq_true rfl) ?_
  intro p e s mid args below meth c ls C hrt hl hR
  have hx := C.1.1
  have hb := C.1.2.1
  have hl : lv_has ls 2 [(0, .ref (G.2.1 + 78)), (1, .int a1)] := hl
  unfold F_M_draw at hF
  refine lv_aload_n hx hb (dk DX11_draw 0 rfl) rfl (lv_at hl 0 rfl) ?_
  refine gX11_13 C hR ob78 rf78_1 (dk DX11_draw 1 rfl) ?_
  refine lv_bipush (v := (9 : Int32)) hx hb (dk DX11_draw 2 rfl) (by decide) ?_
  refine lv_ldcw (v := (1103515245 : Int32)) hx hb C.1.2.2.2.1 (C.1.2.2.2.2 _ (gd q2012 rfl)) (dk DX11_draw 3 rfl) ?_
  refine lv_aload_n hx hb (dk DX11_draw 4 rfl) rfl (lv_at hl 0 rfl) ?_
  refine gX11_13 C hR ob78 rf78_1 (dk DX11_draw 5 rfl) ?_
  refine lv_bipush (v := (9 : Int32)) hx hb (dk DX11_draw 6 rfl) (by decide) ?_
  refine r_iald C hR ob79 rfl (dk DX11_draw 7 rfl) ?_
  refine lv_imul hx hb (dk DX11_draw 8 rfl) ?_
  refine lv_sipush (v := (12345 : Int32)) hx hb (dk DX11_draw 9 rfl) (by decide) ?_
  refine lv_iadd hx hb (dk DX11_draw 10 rfl) ?_
  refine lv_topi (fun xq1 exq1 => ?_)
  have hF := lt_at exq1 hF
  refine r_iast C hR ob79 rfl (dk DX11_draw 11 rfl) (fun H locs hR => ?_)
  obtain ⟨mq2, emq2, hF⟩ := lt_ex hF
  have hR := Rp_at emq2 hR
  refine lv_aload_n hx hb (dk DX11_draw 12 rfl) rfl (lv_at hl 0 rfl) ?_
  refine gX11_13 C hR ob78 rf78_1 (dk DX11_draw 13 rfl) ?_
  refine lv_bipush (v := (9 : Int32)) hx hb (dk DX11_draw 14 rfl) (by decide) ?_
  refine r_iald C hR ob79 rfl (dk DX11_draw 15 rfl) ?_
  refine lv_bipush (v := (16 : Int32)) hx hb (dk DX11_draw 16 rfl) (by decide) ?_
  refine lv_ishr hx hb (dk DX11_draw 17 rfl) ?_
  refine lv_sipush (v := (32767 : Int32)) hx hb (dk DX11_draw 18 rfl) (by decide) ?_
  refine lv_iand hx hb (dk DX11_draw 19 rfl) ?_
  refine lv_topi (fun xq3 exq3 => ?_)
  have hF := lt_at exq3 hF
  refine lv_iload_n hx hb (dk DX11_draw 20 rfl) rfl (lv_at hl 1 rfl) ?_
  obtain ⟨hq4, hF⟩ := ckB_ex hF
  refine lv_irem hx hb (dk DX11_draw 21 rfl) (by simpa using hq4) ?_
  cases hF
  exact r_iret C hrt hR (dk DX11_draw 22 rfl)
set_option maxHeartbeats 4000000 in
set_option maxRecDepth 100000 in
theorem C_M_play (l : Launch) (hl0 : l.stackTraces = false) (G : GG) (m0 : Mem) (v : Int32) (m' : Mem) (hF : F_M_play m0 = some (v, m')) : Ct l G mr0 N0 yX11_play cX11_play 2 (some .int) 6 [.ref (G.2.1 + 78)] m0 (some (.int v)) m' := by
  refine Ct_of hl0 (by decide) (Nat.le_of_ble_eq_true rfl) ?_
  intro p e s mid args below meth c ls C hrt hl hR
  have hx := C.1.1
  have hb := C.1.2.1
  have hl : lv_has ls 2 [(0, .ref (G.2.1 + 78))] := hl
  unfold F_M_play at hF
  refine lv_aload_n hx hb (dk DX11_play 0 rfl) rfl (lv_at hl 0 rfl) ?_
  refine lv_iconst (v := (0 : Int32)) hx hb (dk DX11_play 1 rfl) (by decide) ?_
  refine pX11_3 (x := (0 : Int32)) C hR ob78 (dk DX11_play 2 rfl) (fun H locs hR => ?_)
  obtain ⟨mq1, emq1, hF⟩ := lt_ex hF
  have hR := Rp_at emq1 hR
  refine lv_aload_n hx hb (dk DX11_play 3 rfl) rfl (lv_at hl 0 rfl) ?_
  refine lv_aload_n hx hb (dk DX11_play 4 rfl) rfl (lv_at hl 0 rfl) ?_
  obtain ⟨zq4, mq2, hzq3, hF⟩ := bnd_ex hF
  refine r_callVi (As := []) (rest := [.ref (G.2.1 + 78)]) C hR (C_M_isOn l hl0 G mq1 _ _ hzq3) (by decide) (by decide) ob78 rfl wX11_278 rfl rfl (Nat.le_of_ble_eq_true rfl) hl.1 ⟨Nat.zero_le _, Nat.zero_le _⟩ (dk DX11_play 5 rfl) (fun H locs hR => ?_)
  obtain ⟨k18_6, ek18_6, hF⟩ := lt_ex hF
  have J18 : ∀ (zq6 : Bool) (mq5 : Mem) (H : Heap) (locs : List Loc) (ls : Array Slot), lv_has ls 2 [(0, .ref (G.2.1 + 78))] → Rp G mr0 N0 mq5 s H locs → k18_6 zq6 mq5 = some (v, m') → W p l e (rmD 6) s mid args below meth c H locs 0 0 (MQ below (QR G mr0 N0 (some (.int v)) m') args s 0 0 (fun q => G.2.1 ≤ q)) (F0 mid 18 ls [.int (b2i zq6), .ref (G.2.1 + 78)]) := by
    intro zq6 mq5 H locs ls hl hR hF
    rw [ek18_6] at hF
    refine lv_iconst (v := (1 : Int32)) hx hb (dk DX11_play 10 rfl) (by decide) ?_
    obtain ⟨zq9, mq7, hzq8, hF⟩ := bnd_ex hF
    refine r_callVi (As := [.int (b2i zq6), .int (1 : Int32)]) (rest := []) C hR (C_M_throwsIf l hl0 G zq6 (1 : Int32) mq5 _ _ hzq8) (by decide) (by decide) ob78 rfl wX11_227 rfl rfl (Nat.le_of_ble_eq_true rfl) hl.1 ⟨Nat.zero_le _, Nat.zero_le _⟩ (dk DX11_play 11 rfl) (fun H locs hR => ?_)
    refine z_ifeq (tgt := 27) hx hb (dk DX11_play 12 rfl) (by decide) (fun c22 => ?_) (fun c22 => ?_)
    · have hF := if_f c22 hF
      refine lv_aload_n hx hb (dk DX11_play 15 rfl) rfl (lv_at hl 0 rfl) ?_
      obtain ⟨uq12, mq10, hzq11, hF⟩ := bnd_ex hF
      refine r_callVv (As := []) (rest := []) C hR (C_M_remembers l hl0 G mq7 _ _ hzq11) (by decide) (by decide) ob78 rfl wX11_294 rfl rfl (Nat.le_of_ble_eq_true rfl) hl.1 ⟨Nat.zero_le _, Nat.zero_le _⟩ (dk DX11_play 16 rfl) (fun H locs hR => ?_)
      refine lv_aload_n hx hb (dk DX11_play 17 rfl) rfl (lv_at hl 0 rfl) ?_
      refine lv_iconst (v := (4 : Int32)) hx hb (dk DX11_play 18 rfl) (by decide) ?_
      obtain ⟨xq15, mq13, hzq14, hF⟩ := bnd_ex hF
      refine r_callVi (As := [.int (4 : Int32)]) (rest := []) C hR (C_M_draw l hl0 G (4 : Int32) mq10 _ _ hzq14) (by decide) (by decide) ob78 rfl wX11_310 rfl rfl (Nat.le_of_ble_eq_true rfl) hl.1 ⟨Nat.zero_le _, Nat.zero_le _⟩ (dk DX11_play 19 rfl) (fun H locs hR => ?_)
      refine lv_istore_n (lv' := [(1, .int xq15), (0, .ref (G.2.1 + 78))]) hx hb (dk DX11_play 20 rfl) rfl hl (by decide) rfl (fun ls hl => ?_)
      refine lv_aload_n hx hb (dk DX11_play 21 rfl) rfl (lv_at hl 1 rfl) ?_
      refine lv_iload_n hx hb (dk DX11_play 22 rfl) rfl (lv_at hl 0 rfl) ?_
      refine lv_iconst (v := (0 : Int32)) hx hb (dk DX11_play 23 rfl) (by decide) ?_
      obtain ⟨xq18, mq16, hzq17, hF⟩ := bnd_ex hF
      refine r_callVi (As := [.int xq15, .int (b2i false)]) (rest := []) C hR (C_M_plays l hl0 G xq15 false mq13 _ _ hzq17) (by decide) (by decide) ob78 rfl wX11_313 rfl rfl (Nat.le_of_ble_eq_true rfl) hl.1 ⟨Nat.zero_le _, Nat.zero_le _⟩ (dk DX11_play 24 rfl) (fun H locs hR => ?_)
      refine lv_pop hx hb (dk DX11_play 25 rfl) rfl ?_
      refine lv_iload_n hx hb (dk DX11_play 26 rfl) rfl (lv_at hl 0 rfl) ?_
      cases hF
      exact r_iret C hrt hR (dk DX11_play 27 rfl)
    · have hF := if_t c22 hF
      refine lv_iconst (v := (0 : Int32)) hx hb (dk DX11_play 13 rfl) (by decide) ?_
      cases hF
      exact r_iret C hrt hR (dk DX11_play 14 rfl)
  refine z_ifne (tgt := 17) hx hb (dk DX11_play 6 rfl) (by decide) (fun c10 => ?_) (fun c10 => ?_)
  · have hF := if_t c10 hF
    refine lv_iconst (v := (0 : Int32)) hx hb (dk DX11_play 9 rfl) (by decide) ?_
    exact J18 false mq2 _ _ ls (lv_sub hl [0] rfl) hR hF
  · have hF := if_f c10 hF
    refine lv_iconst (v := (1 : Int32)) hx hb (dk DX11_play 7 rfl) (by decide) ?_
    refine lv_goto (tgt := 18) hx hb (dk DX11_play 8 rfl) (by decide) ?_
    exact J18 true mq2 _ _ ls (lv_sub hl [0] rfl) hR hF
set_option maxHeartbeats 4000000 in
set_option maxRecDepth 100000 in
theorem C_M_seed (l : Launch) (hl0 : l.stackTraces = false) (G : GG) (a1 : Int32) (m0 : Mem) (v : Int32) (m' : Mem) (hF : F_M_seed a1 m0 = some (v, m')) : Ct l G mr0 N0 yX11_seed cX11_seed 3 (some .int) 1 [.ref (G.2.1 + 78), .int a1] m0 (some (.int v)) m' := by
  refine Ct_of hl0 (by decide) (Nat.le_of_ble_eq_true rfl) ?_
  intro p e s mid args below meth c ls C hrt hl hR
  have hx := C.1.1
  have hb := C.1.2.1
  have hl : lv_has ls 3 [(0, .ref (G.2.1 + 78)), (1, .int a1)] := hl
  unfold F_M_seed at hF
  refine lv_aload_n hx hb (dk DX11_seed 0 rfl) rfl (lv_at hl 0 rfl) ?_
  refine lv_iconst (v := (0 : Int32)) hx hb (dk DX11_seed 1 rfl) (by decide) ?_
  refine pX11_3 (x := (0 : Int32)) C hR ob78 (dk DX11_seed 2 rfl) (fun H locs hR => ?_)
  obtain ⟨mq1, emq1, hF⟩ := lt_ex hF
  have hR := Rp_at emq1 hR
  refine lv_aload_n hx hb (dk DX11_seed 3 rfl) rfl (lv_at hl 0 rfl) ?_
  refine gX11_13 C hR ob78 rf78_1 (dk DX11_seed 4 rfl) ?_
  refine lv_bipush (v := (9 : Int32)) hx hb (dk DX11_seed 5 rfl) (by decide) ?_
  refine r_iald C hR ob79 rfl (dk DX11_seed 6 rfl) ?_
  refine lv_topi (fun xq2 exq2 => ?_)
  have hF := lt_at exq2 hF
  refine lv_istore_n (lv' := [(2, .int xq2), (0, .ref (G.2.1 + 78)), (1, .int a1)]) hx hb (dk DX11_seed 7 rfl) rfl hl (by decide) rfl (fun ls hl => ?_)
  refine lv_aload_n hx hb (dk DX11_seed 8 rfl) rfl (lv_at hl 1 rfl) ?_
  refine gX11_13 C hR ob78 rf78_1 (dk DX11_seed 9 rfl) ?_
  refine lv_bipush (v := (9 : Int32)) hx hb (dk DX11_seed 10 rfl) (by decide) ?_
  refine lv_iload_n hx hb (dk DX11_seed 11 rfl) rfl (lv_at hl 2 rfl) ?_
  refine r_iast C hR ob79 rfl (dk DX11_seed 12 rfl) (fun H locs hR => ?_)
  obtain ⟨mq3, emq3, hF⟩ := lt_ex hF
  have hR := Rp_at emq3 hR
  refine lv_iload_n hx hb (dk DX11_seed 13 rfl) rfl (lv_at hl 0 rfl) ?_
  cases hF
  exact r_iret C hrt hR (dk DX11_seed 14 rfl)
set_option maxHeartbeats 4000000 in
set_option maxRecDepth 100000 in
theorem C_M_session (l : Launch) (hl0 : l.stackTraces = false) (G : GG) (a1 : Int32) (a2 : Int32) (m0 : Mem) (v : Int32) (m' : Mem) (hF : F_M_session a1 a2 m0 = some (v, m')) : Ct l G mr0 N0 yX11_session cX11_session 3 (some .int) 3 [.ref (G.2.1 + 78), .int a1, .int a2] m0 (some (.int v)) m' := by
  refine Ct_of hl0 (by decide) (Nat.le_of_ble_eq_true rfl) ?_
  intro p e s mid args below meth c ls C hrt hl hR
  have hx := C.1.1
  have hb := C.1.2.1
  have hl : lv_has ls 3 [(0, .ref (G.2.1 + 78)), (1, .int a1), (2, .int a2)] := hl
  unfold F_M_session at hF
  refine lv_aload_n hx hb (dk DX11_session 0 rfl) rfl (lv_at hl 0 rfl) ?_
  refine lv_iconst (v := (0 : Int32)) hx hb (dk DX11_session 1 rfl) (by decide) ?_
  refine pX11_3 (x := (0 : Int32)) C hR ob78 (dk DX11_session 2 rfl) (fun H locs hR => ?_)
  obtain ⟨mq1, emq1, hF⟩ := lt_ex hF
  have hR := Rp_at emq1 hR
  refine lv_aload_n hx hb (dk DX11_session 3 rfl) rfl (lv_at hl 0 rfl) ?_
  refine lv_aload_n hx hb (dk DX11_session 4 rfl) rfl (lv_at hl 0 rfl) ?_
  refine lv_iload_n hx hb (dk DX11_session 5 rfl) rfl (lv_at hl 1 rfl) ?_
  obtain ⟨zq4, mq2, hzq3, hF⟩ := bnd_ex hF
  refine r_callVi (As := [.int a1]) (rest := [.ref (G.2.1 + 78)]) C hR (C_M_noSession l hl0 G a1 mq1 _ _ hzq3) (by decide) (by decide) ob78 rfl wX11_253 rfl rfl (Nat.le_of_ble_eq_true rfl) hl.1 ⟨Nat.zero_le _, Nat.zero_le _⟩ (dk DX11_session 6 rfl) (fun H locs hR => ?_)
  refine lv_iconst (v := (1 : Int32)) hx hb (dk DX11_session 7 rfl) (by decide) ?_
  obtain ⟨zq7, mq5, hzq6, hF⟩ := bnd_ex hF
  refine r_callVi (As := [.int (b2i zq4), .int (1 : Int32)]) (rest := []) C hR (C_M_throwsIf l hl0 G zq4 (1 : Int32) mq2 _ _ hzq6) (by decide) (by decide) ob78 rfl wX11_227 rfl rfl (Nat.le_of_ble_eq_true rfl) hl.1 ⟨Nat.zero_le _, Nat.zero_le _⟩ (dk DX11_session 8 rfl) (fun H locs hR => ?_)
  refine z_ifne (tgt := 40) hx hb (dk DX11_session 9 rfl) (by decide) (fun c15 => ?_) (fun c15 => ?_)
  · have hF := if_t c15 hF
    refine lv_iconst (v := (0 : Int32)) hx hb (dk DX11_session 22 rfl) (by decide) ?_
    cases hF
    exact r_iret C hrt hR (dk DX11_session 23 rfl)
  · have hF := if_f c15 hF
    refine lv_aload_n hx hb (dk DX11_session 10 rfl) rfl (lv_at hl 0 rfl) ?_
    refine lv_iload_n hx hb (dk DX11_session 11 rfl) rfl (lv_at hl 2 rfl) ?_
    refine lv_iconst (v := (0 : Int32)) hx hb (dk DX11_session 12 rfl) (by decide) ?_
    refine lv_iconst (v := (3 : Int32)) hx hb (dk DX11_session 13 rfl) (by decide) ?_
    obtain ⟨zq10, mq8, hzq9, hF⟩ := bnd_ex hF
    refine r_callSi (As := [.int a2, .int (0 : Int32), .int (3 : Int32)]) (rest := [.ref (G.2.1 + 78)]) C hR (C_M_in l hl0 G a2 (0 : Int32) (3 : Int32) mq5 _ _ hzq9) (by decide) (by decide) wX11_67 rfl rfl (Nat.le_of_ble_eq_true rfl) hl.1 ⟨Nat.zero_le _, Nat.zero_le _⟩ (dk DX11_session 14 rfl) (fun H locs hR => ?_)
    obtain ⟨k33_12, ek33_12, hF⟩ := lt_ex hF
    have J33 : ∀ (zq12 : Bool) (mq11 : Mem) (H : Heap) (locs : List Loc) (ls : Array Slot), lv_has ls 3 [(0, .ref (G.2.1 + 78)), (1, .int a1), (2, .int a2)] → Rp G mr0 N0 mq11 s H locs → k33_12 zq12 mq11 = some (v, m') → W p l e (rmD 3) s mid args below meth c H locs 0 0 (MQ below (QR G mr0 N0 (some (.int v)) m') args s 0 0 (fun q => G.2.1 ≤ q)) (F0 mid 33 ls [.int (b2i zq12), .ref (G.2.1 + 78)]) := by
      intro zq12 mq11 H locs ls hl hR hF
      rw [ek33_12] at hF
      refine lv_iconst (v := (2 : Int32)) hx hb (dk DX11_session 19 rfl) (by decide) ?_
      obtain ⟨zq15, mq13, hzq14, hF⟩ := bnd_ex hF
      refine r_callVi (As := [.int (b2i zq12), .int (2 : Int32)]) (rest := []) C hR (C_M_throwsIf l hl0 G zq12 (2 : Int32) mq11 _ _ hzq14) (by decide) (by decide) ob78 rfl wX11_227 rfl rfl (Nat.le_of_ble_eq_true rfl) hl.1 ⟨Nat.zero_le _, Nat.zero_le _⟩ (dk DX11_session 20 rfl) (fun H locs hR => ?_)
      refine z_ifeq (tgt := 42) hx hb (dk DX11_session 21 rfl) (by decide) (fun c37 => ?_) (fun c37 => ?_)
      · have hF := if_f c37 hF
        refine lv_iload_n hx hb (dk DX11_session 24 rfl) rfl (lv_at hl 2 rfl) ?_
        refine lv_if_ne (tgt := 52) hx hb (dk DX11_session 25 rfl) (by decide) (fun c43 => ?_) (fun c43 => ?_)
        · have hF := if_f c43 hF
          refine lv_aload_n hx hb (dk DX11_session 30 rfl) rfl (lv_at hl 0 rfl) ?_
          refine gX11_13 C hR ob78 rf78_1 (dk DX11_session 31 rfl) ?_
          refine lv_bipush (v := (6 : Int32)) hx hb (dk DX11_session 32 rfl) (by decide) ?_
          refine lv_iload_n hx hb (dk DX11_session 33 rfl) rfl (lv_at hl 2 rfl) ?_
          refine lv_iadd hx hb (dk DX11_session 34 rfl) ?_
          refine lv_iconst (v := (1 : Int32)) hx hb (dk DX11_session 35 rfl) (by decide) ?_
          refine lv_isub hx hb (dk DX11_session 36 rfl) ?_
          obtain ⟨hq16, hF⟩ := ckB_ex hF
          refine r_iald C hR ob79 hq16 (dk DX11_session 37 rfl) ?_
          refine lv_topi (fun xq17 exq17 => ?_)
          have hF := lt_at exq17 hF
          refine lv_iload_n hx hb (dk DX11_session 38 rfl) rfl (lv_at hl 1 rfl) ?_
          refine lv_ishr hx hb (dk DX11_session 39 rfl) ?_
          refine lv_iconst (v := (1 : Int32)) hx hb (dk DX11_session 40 rfl) (by decide) ?_
          refine lv_iand hx hb (dk DX11_session 41 rfl) ?_
          cases hF
          exact r_iret C hrt hR (dk DX11_session 42 rfl)
        · have hF := if_t c43 hF
          refine lv_iload_n hx hb (dk DX11_session 26 rfl) rfl (lv_at hl 1 rfl) ?_
          refine lv_iconst (v := (3 : Int32)) hx hb (dk DX11_session 27 rfl) (by decide) ?_
          refine lv_idiv hx hb (dk DX11_session 28 rfl) (by decide) ?_
          refine lv_goto (tgt := 67) hx hb (dk DX11_session 29 rfl) (by decide) ?_
          cases hF
          exact r_iret C hrt hR (dk DX11_session 42 rfl)
      · have hF := if_t c37 hF
        refine lv_iconst (v := (0 : Int32)) hx hb (dk DX11_session 22 rfl) (by decide) ?_
        cases hF
        exact r_iret C hrt hR (dk DX11_session 23 rfl)
    refine z_ifne (tgt := 32) hx hb (dk DX11_session 15 rfl) (by decide) (fun c25 => ?_) (fun c25 => ?_)
    · have hF := if_t c25 hF
      refine lv_iconst (v := (0 : Int32)) hx hb (dk DX11_session 18 rfl) (by decide) ?_
      exact J33 false mq8 _ _ ls (lv_sub hl [0, 1, 2] rfl) hR hF
    · have hF := if_f c25 hF
      refine lv_iconst (v := (1 : Int32)) hx hb (dk DX11_session 16 rfl) (by decide) ?_
      refine lv_goto (tgt := 33) hx hb (dk DX11_session 17 rfl) (by decide) ?_
      exact J33 true mq8 _ _ ls (lv_sub hl [0, 1, 2] rfl) hR hF
set_option maxHeartbeats 4000000 in
set_option maxRecDepth 100000 in
theorem C_M_share (l : Launch) (hl0 : l.stackTraces = false) (G : GG) (a1 : Int32) (a2 : Int32) (m0 : Mem) (v : Int32) (m' : Mem) (hF : F_M_share a1 a2 m0 = some (v, m')) : Ct l G mr0 N0 yX11_share cX11_share 3 (some .int) 4 [.ref (G.2.1 + 78), .int a1, .int a2] m0 (some (.int v)) m' := by
  refine Ct_of hl0 (by decide) (Nat.le_of_ble_eq_true rfl) ?_
  intro p e s mid args below meth c ls C hrt hl hR
  have hx := C.1.1
  have hb := C.1.2.1
  have hl : lv_has ls 3 [(0, .ref (G.2.1 + 78)), (1, .int a1), (2, .int a2)] := hl
  unfold F_M_share at hF
  refine lv_aload_n hx hb (dk DX11_share 0 rfl) rfl (lv_at hl 0 rfl) ?_
  refine lv_iconst (v := (0 : Int32)) hx hb (dk DX11_share 1 rfl) (by decide) ?_
  refine pX11_3 (x := (0 : Int32)) C hR ob78 (dk DX11_share 2 rfl) (fun H locs hR => ?_)
  obtain ⟨mq1, emq1, hF⟩ := lt_ex hF
  have hR := Rp_at emq1 hR
  refine lv_aload_n hx hb (dk DX11_share 3 rfl) rfl (lv_at hl 0 rfl) ?_
  refine lv_iload_n hx hb (dk DX11_share 4 rfl) rfl (lv_at hl 1 rfl) ?_
  refine lv_iconst (v := (0 : Int32)) hx hb (dk DX11_share 5 rfl) (by decide) ?_
  refine lv_iconst (v := (5 : Int32)) hx hb (dk DX11_share 6 rfl) (by decide) ?_
  obtain ⟨zq4, mq2, hzq3, hF⟩ := bnd_ex hF
  refine r_callSi (As := [.int a1, .int (0 : Int32), .int (5 : Int32)]) (rest := [.ref (G.2.1 + 78)]) C hR (C_M_in l hl0 G a1 (0 : Int32) (5 : Int32) mq1 _ _ hzq3) (by decide) (by decide) wX11_67 rfl rfl (Nat.le_of_ble_eq_true rfl) hl.1 ⟨Nat.zero_le _, Nat.zero_le _⟩ (dk DX11_share 7 rfl) (fun H locs hR => ?_)
  obtain ⟨k29_6, ek29_6, hF⟩ := lt_ex hF
  have J29 : ∀ (zq6 : Bool) (mq5 : Mem) (H : Heap) (locs : List Loc) (ls : Array Slot), lv_has ls 3 [(0, .ref (G.2.1 + 78)), (1, .int a1), (2, .int a2)] → Rp G mr0 N0 mq5 s H locs → k29_6 zq6 mq5 = some (v, m') → W p l e (rmD 4) s mid args below meth c H locs 0 0 (MQ below (QR G mr0 N0 (some (.int v)) m') args s 0 0 (fun q => G.2.1 ≤ q)) (F0 mid 29 ls [.int (b2i zq6), .ref (G.2.1 + 78)]) := by
    intro zq6 mq5 H locs ls hl hR hF
    rw [ek29_6] at hF
    refine lv_iconst (v := (1 : Int32)) hx hb (dk DX11_share 17 rfl) (by decide) ?_
    obtain ⟨zq9, mq7, hzq8, hF⟩ := bnd_ex hF
    refine r_callVi (As := [.int (b2i zq6), .int (1 : Int32)]) (rest := []) C hR (C_M_throwsIf l hl0 G zq6 (1 : Int32) mq5 _ _ hzq8) (by decide) (by decide) ob78 rfl wX11_227 rfl rfl (Nat.le_of_ble_eq_true rfl) hl.1 ⟨Nat.zero_le _, Nat.zero_le _⟩ (dk DX11_share 18 rfl) (fun H locs hR => ?_)
    refine z_ifeq (tgt := 38) hx hb (dk DX11_share 19 rfl) (by decide) (fun c33 => ?_) (fun c33 => ?_)
    · have hF := if_f c33 hF
      refine lv_aload_n hx hb (dk DX11_share 22 rfl) rfl (lv_at hl 0 rfl) ?_
      refine lv_iload_n hx hb (dk DX11_share 23 rfl) rfl (lv_at hl 2 rfl) ?_
      obtain ⟨xq12, mq10, hzq11, hF⟩ := bnd_ex hF
      refine r_callVi (As := [.int a2]) (rest := []) C hR (C_M_bookOf l hl0 G a2 mq7 _ _ hzq11) (by decide) (by decide) ob78 rfl wX11_473 rfl rfl (Nat.le_of_ble_eq_true rfl) hl.1 ⟨Nat.zero_le _, Nat.zero_le _⟩ (dk DX11_share 24 rfl) (fun H locs hR => ?_)
      refine lv_if_ne (tgt := 50) hx hb (dk DX11_share 25 rfl) (by decide) (fun c43 => ?_) (fun c43 => ?_)
      · have hF := if_f c43 hF
        refine lv_sipush (v := (10000 : Int32)) hx hb (dk DX11_share 28 rfl) (by decide) ?_
        refine lv_aload_n hx hb (dk DX11_share 29 rfl) rfl (lv_at hl 0 rfl) ?_
        refine lv_iload_n hx hb (dk DX11_share 30 rfl) rfl (lv_at hl 1 rfl) ?_
        obtain ⟨xq15, mq13, hzq14, hF⟩ := bnd_ex hF
        refine r_callVi (As := [.int a1]) (rest := [.int (10000 : Int32)]) C hR (C_M_bookOf l hl0 G a1 mq10 _ _ hzq14) (by decide) (by decide) ob78 rfl wX11_473 rfl rfl (Nat.le_of_ble_eq_true rfl) hl.1 ⟨Nat.zero_le _, Nat.zero_le _⟩ (dk DX11_share 31 rfl) (fun H locs hR => ?_)
        refine lv_imul hx hb (dk DX11_share 32 rfl) ?_
        refine lv_aload_n hx hb (dk DX11_share 33 rfl) rfl (lv_at hl 0 rfl) ?_
        refine lv_iload_n hx hb (dk DX11_share 34 rfl) rfl (lv_at hl 2 rfl) ?_
        obtain ⟨xq18, mq16, hzq17, hF⟩ := bnd_ex hF
        refine r_callVi (As := [.int a2]) (rest := [.int ((10000 : Int32) * xq15)]) C hR (C_M_bookOf l hl0 G a2 mq13 _ _ hzq17) (by decide) (by decide) ob78 rfl wX11_473 rfl rfl (Nat.le_of_ble_eq_true rfl) hl.1 ⟨Nat.zero_le _, Nat.zero_le _⟩ (dk DX11_share 35 rfl) (fun H locs hR => ?_)
        obtain ⟨hq19, hF⟩ := ckB_ex hF
        refine lv_idiv hx hb (dk DX11_share 36 rfl) (by simpa using hq19) ?_
        cases hF
        exact r_iret C hrt hR (dk DX11_share 37 rfl)
      · have hF := if_t c43 hF
        refine lv_iconst (v := (0 : Int32)) hx hb (dk DX11_share 26 rfl) (by decide) ?_
        refine lv_goto (tgt := 65) hx hb (dk DX11_share 27 rfl) (by decide) ?_
        cases hF
        exact r_iret C hrt hR (dk DX11_share 37 rfl)
    · have hF := if_t c33 hF
      refine lv_iconst (v := (0 : Int32)) hx hb (dk DX11_share 20 rfl) (by decide) ?_
      cases hF
      exact r_iret C hrt hR (dk DX11_share 21 rfl)
  obtain ⟨k24_20, ek24_20, hF⟩ := lt_ex hF
  have J24 : ∀ (mq20 : Mem) (H : Heap) (locs : List Loc) (ls : Array Slot), lv_has ls 3 [(0, .ref (G.2.1 + 78)), (1, .int a1), (2, .int a2)] → Rp G mr0 N0 mq20 s H locs → k24_20  mq20 = some (v, m') → W p l e (rmD 4) s mid args below meth c H locs 0 0 (MQ below (QR G mr0 N0 (some (.int v)) m') args s 0 0 (fun q => G.2.1 ≤ q)) (F0 mid 24 ls [.ref (G.2.1 + 78)]) := by
    intro  mq20 H locs ls hl hR hF
    rw [ek24_20] at hF
    refine lv_iconst (v := (1 : Int32)) hx hb (dk DX11_share 14 rfl) (by decide) ?_
    refine lv_goto (tgt := 29) hx hb (dk DX11_share 15 rfl) (by decide) ?_
    exact J29 true mq20 _ _ ls (lv_sub hl [0, 1, 2] rfl) hR hF
  refine z_ifeq (tgt := 24) hx hb (dk DX11_share 8 rfl) (by decide) (fun c12 => ?_) (fun c12 => ?_)
  · have hF := if_f c12 hF
    exact J24 mq2 _ _ ls (lv_sub hl [0, 1, 2] rfl) hR hF
  · have hF := if_t c12 hF
    refine lv_iload_n hx hb (dk DX11_share 9 rfl) rfl (lv_at hl 2 rfl) ?_
    refine lv_iconst (v := (0 : Int32)) hx hb (dk DX11_share 10 rfl) (by decide) ?_
    refine lv_iconst (v := (5 : Int32)) hx hb (dk DX11_share 11 rfl) (by decide) ?_
    obtain ⟨zq23, mq21, hzq22, hF⟩ := bnd_ex hF
    refine r_callSi (As := [.int a2, .int (0 : Int32), .int (5 : Int32)]) (rest := [.ref (G.2.1 + 78)]) C hR (C_M_in l hl0 G a2 (0 : Int32) (5 : Int32) mq2 _ _ hzq22) (by decide) (by decide) wX11_67 rfl rfl (Nat.le_of_ble_eq_true rfl) hl.1 ⟨Nat.zero_le _, Nat.zero_le _⟩ (dk DX11_share 12 rfl) (fun H locs hR => ?_)
    refine z_ifne (tgt := 28) hx hb (dk DX11_share 13 rfl) (by decide) (fun c21 => ?_) (fun c21 => ?_)
    · have hF := if_t c21 hF
      refine lv_iconst (v := (0 : Int32)) hx hb (dk DX11_share 16 rfl) (by decide) ?_
      exact J29 false mq21 _ _ ls (lv_sub hl [0, 1, 2] rfl) hR hF
    · have hF := if_f c21 hF
      exact J24 mq21 _ _ ls (lv_sub hl [0, 1, 2] rfl) hR hF
set_option maxHeartbeats 4000000 in
set_option maxRecDepth 100000 in
theorem C_M_side (l : Launch) (hl0 : l.stackTraces = false) (G : GG) (a1 : Int32) (a2 : Bool) (m0 : Mem) (v : Int32) (m' : Mem) (hF : F_M_side a1 a2 m0 = some (v, m')) : Ct l G mr0 N0 yX11_side cX11_side 3 (some .int) 3 [.ref (G.2.1 + 78), .int a1, .int (b2i a2)] m0 (some (.int v)) m' := by
  refine Ct_of hl0 (by decide) (Nat.le_of_ble_eq_true rfl) ?_
  intro p e s mid args below meth c ls C hrt hl hR
  have hx := C.1.1
  have hb := C.1.2.1
  have hl : lv_has ls 3 [(0, .ref (G.2.1 + 78)), (1, .int a1), (2, .int (b2i a2))] := hl
  unfold F_M_side at hF
  refine lv_aload_n hx hb (dk DX11_side 0 rfl) rfl (lv_at hl 0 rfl) ?_
  refine lv_iconst (v := (0 : Int32)) hx hb (dk DX11_side 1 rfl) (by decide) ?_
  refine pX11_3 (x := (0 : Int32)) C hR ob78 (dk DX11_side 2 rfl) (fun H locs hR => ?_)
  obtain ⟨mq1, emq1, hF⟩ := lt_ex hF
  have hR := Rp_at emq1 hR
  refine lv_aload_n hx hb (dk DX11_side 3 rfl) rfl (lv_at hl 0 rfl) ?_
  refine lv_iload_n hx hb (dk DX11_side 4 rfl) rfl (lv_at hl 1 rfl) ?_
  obtain ⟨zq4, mq2, hzq3, hF⟩ := bnd_ex hF
  refine r_callSi (As := [.int a1]) (rest := [.ref (G.2.1 + 78)]) C hR (C_M_noSide l hl0 G a1 mq1 _ _ hzq3) (by decide) (by decide) wX11_243 rfl rfl (Nat.le_of_ble_eq_true rfl) hl.1 ⟨Nat.zero_le _, Nat.zero_le _⟩ (dk DX11_side 5 rfl) (fun H locs hR => ?_)
  refine lv_iconst (v := (1 : Int32)) hx hb (dk DX11_side 6 rfl) (by decide) ?_
  obtain ⟨zq7, mq5, hzq6, hF⟩ := bnd_ex hF
  refine r_callVi (As := [.int (b2i zq4), .int (1 : Int32)]) (rest := []) C hR (C_M_throwsIf l hl0 G zq4 (1 : Int32) mq2 _ _ hzq6) (by decide) (by decide) ob78 rfl wX11_227 rfl rfl (Nat.le_of_ble_eq_true rfl) hl.1 ⟨Nat.zero_le _, Nat.zero_le _⟩ (dk DX11_side 7 rfl) (fun H locs hR => ?_)
  refine z_ifeq (tgt := 21) hx hb (dk DX11_side 8 rfl) (by decide) (fun c14 => ?_) (fun c14 => ?_)
  · have hF := if_f c14 hF
    refine lv_aload_n hx hb (dk DX11_side 11 rfl) rfl (lv_at hl 0 rfl) ?_
    refine gX11_13 C hR ob78 rf78_1 (dk DX11_side 12 rfl) ?_
    refine lv_bipush (v := (19 : Int32)) hx hb (dk DX11_side 13 rfl) (by decide) ?_
    refine lv_iconst (v := (2 : Int32)) hx hb (dk DX11_side 14 rfl) (by decide) ?_
    refine lv_iload_n hx hb (dk DX11_side 15 rfl) rfl (lv_at hl 1 rfl) ?_
    refine lv_imul hx hb (dk DX11_side 16 rfl) ?_
    refine lv_iadd hx hb (dk DX11_side 17 rfl) ?_
    refine lv_iload_n hx hb (dk DX11_side 18 rfl) rfl (lv_at hl 2 rfl) ?_
    obtain ⟨k40_9, ek40_9, hF⟩ := lt_ex hF
    have J40 : ∀ (zq9 : Bool) (mq8 : Mem) (H : Heap) (locs : List Loc) (ls : Array Slot), lv_has ls 3 [] → Rp G mr0 N0 mq8 s H locs → k40_9 zq9 mq8 = some (v, m') → W p l e (rmD 3) s mid args below meth c H locs 0 0 (MQ below (QR G mr0 N0 (some (.int v)) m') args s 0 0 (fun q => G.2.1 ≤ q)) (F0 mid 40 ls [.int (b2i zq9), .int ((19 : Int32) + ((2 : Int32) * a1)), .ref (G.2.1 + 79)]) := by
      intro zq9 mq8 H locs ls hl hR hF
      rw [ek40_9] at hF
      refine lv_iadd hx hb (dk DX11_side 23 rfl) ?_
      refine lv_topi (fun xq10 exq10 => ?_)
      have hF := lt_at exq10 hF
      obtain ⟨hq11, hF⟩ := ckB_ex hF
      refine r_iald C hR ob79 hq11 (dk DX11_side 24 rfl) ?_
      refine lv_topi (fun xq12 exq12 => ?_)
      have hF := lt_at exq12 hF
      cases hF
      exact r_iret C hrt hR (dk DX11_side 25 rfl)
    refine z_ifeq (tgt := 39) hx hb (dk DX11_side 19 rfl) (by decide) (fun c32 => ?_) (fun c32 => ?_)
    · have hF := if_f c32 hF
      refine lv_iconst (v := (0 : Int32)) hx hb (dk DX11_side 22 rfl) (by decide) ?_
      exact J40 false mq5 _ _ ls (lv_sub hl [] rfl) hR hF
    · have hF := if_t c32 hF
      refine lv_iconst (v := (1 : Int32)) hx hb (dk DX11_side 20 rfl) (by decide) ?_
      refine lv_goto (tgt := 40) hx hb (dk DX11_side 21 rfl) (by decide) ?_
      exact J40 true mq5 _ _ ls (lv_sub hl [] rfl) hR hF
  · have hF := if_t c14 hF
    refine lv_iconst (v := (0 : Int32)) hx hb (dk DX11_side 9 rfl) (by decide) ?_
    refine lv_goto (tgt := 42) hx hb (dk DX11_side 10 rfl) (by decide) ?_
    cases hF
    exact r_iret C hrt hR (dk DX11_side 25 rfl)
set_option maxHeartbeats 4000000 in
set_option maxRecDepth 100000 in
theorem C_M_signs (l : Launch) (hl0 : l.stackTraces = false) (G : GG) (a1 : Int32) (a2 : Int32) (a3 : Bool) (m0 : Mem) (v : Int32) (m' : Mem) (hF : F_M_signs a1 a2 a3 m0 = some (v, m')) : Ct l G mr0 N0 yX11_signs cX11_signs 5 (some .int) 3 [.ref (G.2.1 + 78), .int a1, .int a2, .int (b2i a3)] m0 (some (.int v)) m' := by
  refine Ct_of hl0 (by decide) (Nat.le_of_ble_eq_true rfl) ?_
  intro p e s mid args below meth c ls C hrt hl hR
  have hx := C.1.1
  have hb := C.1.2.1
  have hl : lv_has ls 5 [(0, .ref (G.2.1 + 78)), (1, .int a1), (2, .int a2), (3, .int (b2i a3))] := hl
  unfold F_M_signs at hF
  refine lv_aload_n hx hb (dk DX11_signs 0 rfl) rfl (lv_at hl 0 rfl) ?_
  obtain ⟨zq3, mq1, hzq2, hF⟩ := bnd_ex hF
  refine r_callVi (As := []) (rest := []) C hR (C_M_readSigns l hl0 G m0 _ _ hzq2) (by decide) (by decide) ob78 rfl wX11_476 rfl rfl (Nat.le_of_ble_eq_true rfl) hl.1 ⟨Nat.zero_le _, Nat.zero_le _⟩ (dk DX11_signs 1 rfl) (fun H locs hR => ?_)
  refine lv_istore (lv' := [(4, .int (b2i zq3)), (0, .ref (G.2.1 + 78)), (1, .int a1), (2, .int a2), (3, .int (b2i a3))]) hx hb (dk DX11_signs 2 rfl) hl (by decide) rfl (fun ls hl => ?_)
  refine lv_aload_n hx hb (dk DX11_signs 3 rfl) rfl (lv_at hl 1 rfl) ?_
  refine lv_iload hx hb (dk DX11_signs 4 rfl) (lv_at hl 0 rfl) ?_
  obtain ⟨k35_5, ek35_5, hF⟩ := lt_ex hF
  have J35 : ∀ (zq5 : Bool) (mq4 : Mem) (H : Heap) (locs : List Loc) (ls : Array Slot), lv_has ls 5 [(0, .ref (G.2.1 + 78)), (1, .int a1), (2, .int a2), (3, .int (b2i a3))] → Rp G mr0 N0 mq4 s H locs → k35_5 zq5 mq4 = some (v, m') → W p l e (rmD 3) s mid args below meth c H locs 0 0 (MQ below (QR G mr0 N0 (some (.int v)) m') args s 0 0 (fun q => G.2.1 ≤ q)) (F0 mid 35 ls [.int (b2i zq5), .ref (G.2.1 + 78)]) := by
    intro zq5 mq4 H locs ls hl hR hF
    rw [ek35_5] at hF
    refine lv_iconst (v := (1 : Int32)) hx hb (dk DX11_signs 19 rfl) (by decide) ?_
    obtain ⟨zq8, mq6, hzq7, hF⟩ := bnd_ex hF
    refine r_callVi (As := [.int (b2i zq5), .int (1 : Int32)]) (rest := []) C hR (C_M_throwsIf l hl0 G zq5 (1 : Int32) mq4 _ _ hzq7) (by decide) (by decide) ob78 rfl wX11_227 rfl rfl (Nat.le_of_ble_eq_true rfl) hl.1 ⟨Nat.zero_le _, Nat.zero_le _⟩ (dk DX11_signs 20 rfl) (fun H locs hR => ?_)
    refine z_ifeq (tgt := 44) hx hb (dk DX11_signs 21 rfl) (by decide) (fun c39 => ?_) (fun c39 => ?_)
    · have hF := if_f c39 hF
      refine lv_aload_n hx hb (dk DX11_signs 24 rfl) rfl (lv_at hl 0 rfl) ?_
      refine lv_iload_n hx hb (dk DX11_signs 25 rfl) rfl (lv_at hl 1 rfl) ?_
      refine lv_iload_n hx hb (dk DX11_signs 26 rfl) rfl (lv_at hl 2 rfl) ?_
      refine lv_iconst (v := (-1 : Int32)) hx hb (dk DX11_signs 27 rfl) (by decide) ?_
      refine lv_iconst (v := (0 : Int32)) hx hb (dk DX11_signs 28 rfl) (by decide) ?_
      refine lv_iload_n hx hb (dk DX11_signs 29 rfl) rfl (lv_at hl 3 rfl) ?_
      obtain ⟨xq11, mq9, hzq10, hF⟩ := bnd_ex hF
      refine r_callVi (As := [.int a1, .int a2, .int (-1 : Int32), .int (0 : Int32), .int (b2i a3)]) (rest := []) C hR (C_M_mornings l hl0 G a1 a2 (-1 : Int32) (0 : Int32) a3 mq6 _ _ hzq10) (by decide) (by decide) ob78 rfl wX11_479 rfl rfl (Nat.le_of_ble_eq_true rfl) hl.1 ⟨Nat.zero_le _, Nat.zero_le _⟩ (dk DX11_signs 30 rfl) (fun H locs hR => ?_)
      cases hF
      exact r_iret C hrt hR (dk DX11_signs 31 rfl)
    · have hF := if_t c39 hF
      refine lv_iconst (v := (0 : Int32)) hx hb (dk DX11_signs 22 rfl) (by decide) ?_
      cases hF
      exact r_iret C hrt hR (dk DX11_signs 23 rfl)
  obtain ⟨k30_12, ek30_12, hF⟩ := lt_ex hF
  have J30 : ∀ (mq12 : Mem) (H : Heap) (locs : List Loc) (ls : Array Slot), lv_has ls 5 [(0, .ref (G.2.1 + 78)), (1, .int a1), (2, .int a2), (3, .int (b2i a3))] → Rp G mr0 N0 mq12 s H locs → k30_12  mq12 = some (v, m') → W p l e (rmD 3) s mid args below meth c H locs 0 0 (MQ below (QR G mr0 N0 (some (.int v)) m') args s 0 0 (fun q => G.2.1 ≤ q)) (F0 mid 30 ls [.ref (G.2.1 + 78)]) := by
    intro  mq12 H locs ls hl hR hF
    rw [ek30_12] at hF
    refine lv_iconst (v := (1 : Int32)) hx hb (dk DX11_signs 16 rfl) (by decide) ?_
    refine lv_goto (tgt := 35) hx hb (dk DX11_signs 17 rfl) (by decide) ?_
    exact J35 true mq12 _ _ ls (lv_sub hl [0, 1, 2, 3] rfl) hR hF
  refine z_ifeq (tgt := 30) hx hb (dk DX11_signs 5 rfl) (by decide) (fun c9 => ?_) (fun c9 => ?_)
  · have hF := if_f c9 hF
    exact J30 mq1 _ _ ls (lv_sub hl [1, 2, 3, 4] rfl) hR hF
  · have hF := if_t c9 hF
    refine lv_iload_n hx hb (dk DX11_signs 6 rfl) rfl (lv_at hl 2 rfl) ?_
    refine lv_iconst (v := (0 : Int32)) hx hb (dk DX11_signs 7 rfl) (by decide) ?_
    refine lv_iconst (v := (2 : Int32)) hx hb (dk DX11_signs 8 rfl) (by decide) ?_
    obtain ⟨zq15, mq13, hzq14, hF⟩ := bnd_ex hF
    refine r_callSi (As := [.int a1, .int (0 : Int32), .int (2 : Int32)]) (rest := [.ref (G.2.1 + 78)]) C hR (C_M_in l hl0 G a1 (0 : Int32) (2 : Int32) mq1 _ _ hzq14) (by decide) (by decide) wX11_67 rfl rfl (Nat.le_of_ble_eq_true rfl) hl.1 ⟨Nat.zero_le _, Nat.zero_le _⟩ (dk DX11_signs 9 rfl) (fun H locs hR => ?_)
    refine z_ifeq (tgt := 30) hx hb (dk DX11_signs 10 rfl) (by decide) (fun c18 => ?_) (fun c18 => ?_)
    · have hF := if_f c18 hF
      exact J30 mq13 _ _ ls (lv_sub hl [1, 2, 3, 4] rfl) hR hF
    · have hF := if_t c18 hF
      refine lv_iload_n hx hb (dk DX11_signs 11 rfl) rfl (lv_at hl 3 rfl) ?_
      refine lv_iconst (v := (0 : Int32)) hx hb (dk DX11_signs 12 rfl) (by decide) ?_
      refine lv_iconst (v := (3 : Int32)) hx hb (dk DX11_signs 13 rfl) (by decide) ?_
      obtain ⟨zq18, mq16, hzq17, hF⟩ := bnd_ex hF
      refine r_callSi (As := [.int a2, .int (0 : Int32), .int (3 : Int32)]) (rest := [.ref (G.2.1 + 78)]) C hR (C_M_in l hl0 G a2 (0 : Int32) (3 : Int32) mq13 _ _ hzq17) (by decide) (by decide) wX11_67 rfl rfl (Nat.le_of_ble_eq_true rfl) hl.1 ⟨Nat.zero_le _, Nat.zero_le _⟩ (dk DX11_signs 14 rfl) (fun H locs hR => ?_)
      refine z_ifne (tgt := 34) hx hb (dk DX11_signs 15 rfl) (by decide) (fun c27 => ?_) (fun c27 => ?_)
      · have hF := if_t c27 hF
        refine lv_iconst (v := (0 : Int32)) hx hb (dk DX11_signs 18 rfl) (by decide) ?_
        exact J35 false mq16 _ _ ls (lv_sub hl [1, 2, 3, 4] rfl) hR hF
      · have hF := if_f c27 hF
        exact J30 mq16 _ _ ls (lv_sub hl [1, 2, 3, 4] rfl) hR hF
