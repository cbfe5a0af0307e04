set_option maxHeartbeats 4000000 in
set_option maxRecDepth 100000 in
theorem C_M_slot (l : Launch) (hl0 : l.stackTraces = false) (G : GG) (a1 : Int32) (a2 : Int32) (a3 : Bool) (m0 : Mem) (v : Int32) (m' : Mem) (hF : F_M_slot a1 a2 a3 m0 = some (v, m')) : Ct l G mr0 N0 yX11_slot cX11_slot 4 (some .int) 3 [.ref (G.2.1 + 78), .int a1, .int a2, .int (b2i a3)] m0 (some (.int v)) m' := by
  refine Ct_of hl0 (by decide) (Nat.le_of_ble_eq_true rfl) ?_
  intro p e s mid args below meth c ls C hrt hl hR
  have hx := C.1.1
  have hb := C.1.2.1
  have hl : lv_has ls 4 [(0, .ref (G.2.1 + 78)), (1, .int a1), (2, .int a2), (3, .int (b2i a3))] := hl
  unfold F_M_slot at hF
  refine lv_aload_n hx hb (dk DX11_slot 0 rfl) rfl (lv_at hl 0 rfl) ?_
  refine lv_iconst (v := (0 : Int32)) hx hb (dk DX11_slot 1 rfl) (by decide) ?_
  refine pX11_3 (x := (0 : Int32)) C hR ob78 (dk DX11_slot 2 rfl) (fun H locs hR => ?_)
  obtain ⟨mq1, emq1, hF⟩ := lt_ex hF
  have hR := Rp_at emq1 hR
  refine lv_aload_n hx hb (dk DX11_slot 3 rfl) rfl (lv_at hl 0 rfl) ?_
  refine lv_iload_n hx hb (dk DX11_slot 4 rfl) rfl (lv_at hl 1 rfl) ?_
  refine lv_iconst (v := (0 : Int32)) hx hb (dk DX11_slot 5 rfl) (by decide) ?_
  refine lv_iconst (v := (3 : Int32)) hx hb (dk DX11_slot 6 rfl) (by decide) ?_
  obtain ⟨zq4, mq2, hzq3, hF⟩ := bnd_ex hF
  refine r_callSi (As := [.int a1, .int (0 : Int32), .int (3 : Int32)]) (rest := [.ref (G.2.1 + 78)]) C hR (C_M_in l hl0 G a1 (0 : Int32) (3 : Int32) mq1 _ _ hzq3) (by decide) (by decide) wX11_67 rfl rfl (Nat.le_of_ble_eq_true rfl) hl.1 ⟨Nat.zero_le _, Nat.zero_le _⟩ (dk DX11_slot 7 rfl) (fun H locs hR => ?_)
  obtain ⟨k27_6, ek27_6, hF⟩ := lt_ex hF
  have J27 : ∀ (zq6 : Bool) (mq5 : Mem) (H : Heap) (locs : List Loc) (ls : Array Slot), lv_has ls 4 [(0, .ref (G.2.1 + 78)), (1, .int a1), (2, .int a2), (3, .int (b2i a3))] → Rp G mr0 N0 mq5 s H locs → k27_6 zq6 mq5 = some (v, m') → W p l e (rmD 3) s mid args below meth c H locs 0 0 (MQ below (QR G mr0 N0 (some (.int v)) m') args s 0 0 (fun q => G.2.1 ≤ q)) (F0 mid 27 ls [.int (b2i zq6), .ref (G.2.1 + 78)]) := by
    intro zq6 mq5 H locs ls hl hR hF
    rw [ek27_6] at hF
    refine lv_iconst (v := (1 : Int32)) hx hb (dk DX11_slot 15 rfl) (by decide) ?_
    obtain ⟨zq9, mq7, hzq8, hF⟩ := bnd_ex hF
    refine r_callVi (As := [.int (b2i zq6), .int (1 : Int32)]) (rest := []) C hR (C_M_throwsIf l hl0 G zq6 (1 : Int32) mq5 _ _ hzq8) (by decide) (by decide) ob78 rfl wX11_227 rfl rfl (Nat.le_of_ble_eq_true rfl) hl.1 ⟨Nat.zero_le _, Nat.zero_le _⟩ (dk DX11_slot 16 rfl) (fun H locs hR => ?_)
    refine z_ifeq (tgt := 38) hx hb (dk DX11_slot 17 rfl) (by decide) (fun c31 => ?_) (fun c31 => ?_)
    · have hF := if_f c31 hF
      refine lv_aload_n hx hb (dk DX11_slot 20 rfl) rfl (lv_at hl 0 rfl) ?_
      refine lv_iload_n hx hb (dk DX11_slot 21 rfl) rfl (lv_at hl 1 rfl) ?_
      refine lv_iload_n hx hb (dk DX11_slot 22 rfl) rfl (lv_at hl 2 rfl) ?_
      refine lv_iload_n hx hb (dk DX11_slot 23 rfl) rfl (lv_at hl 3 rfl) ?_
      obtain ⟨k50_11, ek50_11, hF⟩ := lt_ex hF
      have J50 : ∀ (zq11 : Bool) (mq10 : Mem) (H : Heap) (locs : List Loc) (ls : Array Slot), lv_has ls 4 [] → Rp G mr0 N0 mq10 s H locs → k50_11 zq11 mq10 = some (v, m') → W p l e (rmD 3) s mid args below meth c H locs 0 0 (MQ below (QR G mr0 N0 (some (.int v)) m') args s 0 0 (fun q => G.2.1 ≤ q)) (F0 mid 50 ls [.int (b2i zq11), .int a2, .int a1, .ref (G.2.1 + 78)]) := by
        intro zq11 mq10 H locs ls hl hR hF
        rw [ek50_11] at hF
        obtain ⟨xq14, mq12, hzq13, hF⟩ := bnd_ex hF
        refine r_callVi (As := [.int a1, .int a2, .int (b2i zq11)]) (rest := []) C hR (C_M_ofSlot l hl0 G a1 a2 (b2i zq11) mq10 _ _ hzq13) (by decide) (by decide) ob78 rfl wX11_249 rfl rfl (Nat.le_of_ble_eq_true rfl) hl.1 ⟨Nat.zero_le _, Nat.zero_le _⟩ (dk DX11_slot 28 rfl) (fun H locs hR => ?_)
        cases hF
        exact r_iret C hrt hR (dk DX11_slot 29 rfl)
      refine z_ifeq (tgt := 49) hx hb (dk DX11_slot 24 rfl) (by decide) (fun c42 => ?_) (fun c42 => ?_)
      · have hF := if_f c42 hF
        refine lv_iconst (v := (0 : Int32)) hx hb (dk DX11_slot 27 rfl) (by decide) ?_
        exact J50 false mq7 _ _ ls (lv_sub hl [] rfl) hR hF
      · have hF := if_t c42 hF
        refine lv_iconst (v := (1 : Int32)) hx hb (dk DX11_slot 25 rfl) (by decide) ?_
        refine lv_goto (tgt := 50) hx hb (dk DX11_slot 26 rfl) (by decide) ?_
        exact J50 true mq7 _ _ ls (lv_sub hl [] rfl) hR hF
    · have hF := if_t c31 hF
      refine lv_iconst (v := (0 : Int32)) hx hb (dk DX11_slot 18 rfl) (by decide) ?_
      refine lv_goto (tgt := 53) hx hb (dk DX11_slot 19 rfl) (by decide) ?_
      cases hF
      exact r_iret C hrt hR (dk DX11_slot 29 rfl)
  obtain ⟨k22_15, ek22_15, hF⟩ := lt_ex hF
  have J22 : ∀ (mq15 : Mem) (H : Heap) (locs : List Loc) (ls : Array Slot), lv_has ls 4 [(0, .ref (G.2.1 + 78)), (1, .int a1), (2, .int a2), (3, .int (b2i a3))] → Rp G mr0 N0 mq15 s H locs → k22_15  mq15 = some (v, m') → W p l e (rmD 3) s mid args below meth c H locs 0 0 (MQ below (QR G mr0 N0 (some (.int v)) m') args s 0 0 (fun q => G.2.1 ≤ q)) (F0 mid 22 ls [.ref (G.2.1 + 78)]) := by
    intro  mq15 H locs ls hl hR hF
    rw [ek22_15] at hF
    refine lv_iconst (v := (1 : Int32)) hx hb (dk DX11_slot 12 rfl) (by decide) ?_
    refine lv_goto (tgt := 27) hx hb (dk DX11_slot 13 rfl) (by decide) ?_
    exact J27 true mq15 _ _ ls (lv_sub hl [0, 1, 2, 3] rfl) hR hF
  refine z_ifeq (tgt := 22) hx hb (dk DX11_slot 8 rfl) (by decide) (fun c12 => ?_) (fun c12 => ?_)
  · have hF := if_f c12 hF
    exact J22 mq2 _ _ ls (lv_sub hl [0, 1, 2, 3] rfl) hR hF
  · have hF := if_t c12 hF
    refine lv_iload_n hx hb (dk DX11_slot 9 rfl) rfl (lv_at hl 2 rfl) ?_
    obtain ⟨zq18, mq16, hzq17, hF⟩ := bnd_ex hF
    refine r_callSi (As := [.int a2]) (rest := [.ref (G.2.1 + 78)]) C hR (C_M_noSlot l hl0 G a2 mq2 _ _ hzq17) (by decide) (by decide) wX11_246 rfl rfl (Nat.le_of_ble_eq_true rfl) hl.1 ⟨Nat.zero_le _, Nat.zero_le _⟩ (dk DX11_slot 10 rfl) (fun H locs hR => ?_)
    refine z_ifeq (tgt := 26) hx hb (dk DX11_slot 11 rfl) (by decide) (fun c19 => ?_) (fun c19 => ?_)
    · have hF := if_f c19 hF
      refine lv_iconst (v := (0 : Int32)) hx hb (dk DX11_slot 14 rfl) (by decide) ?_
      exact J27 false mq16 _ _ ls (lv_sub hl [0, 1, 2, 3] rfl) hR hF
    · have hF := if_t c19 hF
      exact J22 mq16 _ _ ls (lv_sub hl [0, 1, 2, 3] rfl) hR hF
set_option maxHeartbeats 4000000 in
set_option maxRecDepth 100000 in
theorem C_M_streak (l : Launch) (hl0 : l.stackTraces = false) (G : GG) (a1 : Int32) (m0 : Mem) (v : Int32) (m' : Mem) (hF : F_M_streak a1 m0 = some (v, m')) : Ct l G mr0 N0 yX11_streak cX11_streak 5 (some .int) 3 [.ref (G.2.1 + 78), .int a1] m0 (some (.int v)) m' := by
  refine Ct_of hl0 (by decide) (Nat.le_of_ble_eq_true rfl) ?_
  intro p e s mid args below meth c ls C hrt hl hR
  have hx := C.1.1
  have hb := C.1.2.1
  have hl : lv_has ls 5 [(0, .ref (G.2.1 + 78)), (1, .int a1)] := hl
  unfold F_M_streak at hF
  refine lv_aload_n hx hb (dk DX11_streak 0 rfl) rfl (lv_at hl 0 rfl) ?_
  refine lv_iconst (v := (0 : Int32)) hx hb (dk DX11_streak 1 rfl) (by decide) ?_
  refine pX11_3 (x := (0 : Int32)) C hR ob78 (dk DX11_streak 2 rfl) (fun H locs hR => ?_)
  obtain ⟨mq1, emq1, hF⟩ := lt_ex hF
  have hR := Rp_at emq1 hR
  refine lv_aload_n hx hb (dk DX11_streak 3 rfl) rfl (lv_at hl 0 rfl) ?_
  refine lv_iload_n hx hb (dk DX11_streak 4 rfl) rfl (lv_at hl 1 rfl) ?_
  refine lv_iconst (v := (0 : Int32)) hx hb (dk DX11_streak 5 rfl) (by decide) ?_
  refine lv_iconst (v := (2 : Int32)) hx hb (dk DX11_streak 6 rfl) (by decide) ?_
  obtain ⟨zq4, mq2, hzq3, hF⟩ := bnd_ex hF
  refine r_callSi (As := [.int a1, .int (0 : Int32), .int (2 : Int32)]) (rest := [.ref (G.2.1 + 78)]) C hR (C_M_in l hl0 G a1 (0 : Int32) (2 : Int32) mq1 _ _ hzq3) (by decide) (by decide) wX11_67 rfl rfl (Nat.le_of_ble_eq_true rfl) hl.1 ⟨Nat.zero_le _, Nat.zero_le _⟩ (dk DX11_streak 7 rfl) (fun H locs hR => ?_)
  obtain ⟨k20_6, ek20_6, hF⟩ := lt_ex hF
  have J20 : ∀ (zq6 : Bool) (mq5 : Mem) (H : Heap) (locs : List Loc) (ls : Array Slot), lv_has ls 5 [(0, .ref (G.2.1 + 78)), (1, .int a1)] → Rp G mr0 N0 mq5 s H locs → k20_6 zq6 mq5 = some (v, m') → W p l e (rmD 3) s mid args below meth c H locs 0 0 (MQ below (QR G mr0 N0 (some (.int v)) m') args s 0 0 (fun q => G.2.1 ≤ q)) (F0 mid 20 ls [.int (b2i zq6), .ref (G.2.1 + 78)]) := by
    intro zq6 mq5 H locs ls hl hR hF
    rw [ek20_6] at hF
    refine lv_iconst (v := (1 : Int32)) hx hb (dk DX11_streak 12 rfl) (by decide) ?_
    obtain ⟨zq9, mq7, hzq8, hF⟩ := bnd_ex hF
    refine r_callVi (As := [.int (b2i zq6), .int (1 : Int32)]) (rest := []) C hR (C_M_throwsIf l hl0 G zq6 (1 : Int32) mq5 _ _ hzq8) (by decide) (by decide) ob78 rfl wX11_227 rfl rfl (Nat.le_of_ble_eq_true rfl) hl.1 ⟨Nat.zero_le _, Nat.zero_le _⟩ (dk DX11_streak 13 rfl) (fun H locs hR => ?_)
    refine z_ifeq (tgt := 29) hx hb (dk DX11_streak 14 rfl) (by decide) (fun c24 => ?_) (fun c24 => ?_)
    · have hF := if_f c24 hF
      refine lv_iconst (v := (0 : Int32)) hx hb (dk DX11_streak 17 rfl) (by decide) ?_
      refine lv_istore_n (lv' := [(2, .int (0 : Int32)), (0, .ref (G.2.1 + 78)), (1, .int a1)]) hx hb (dk DX11_streak 18 rfl) rfl hl (by decide) rfl (fun ls hl => ?_)
      refine lv_iconst (v := (0 : Int32)) hx hb (dk DX11_streak 19 rfl) (by decide) ?_
      refine lv_istore_n (lv' := [(3, .int (0 : Int32)), (2, .int (0 : Int32)), (0, .ref (G.2.1 + 78)), (1, .int a1)]) hx hb (dk DX11_streak 20 rfl) rfl hl (by decide) rfl (fun ls hl => ?_)
      refine lv_iconst (v := (0 : Int32)) hx hb (dk DX11_streak 21 rfl) (by decide) ?_
      refine lv_istore (lv' := [(4, .int (0 : Int32)), (3, .int (0 : Int32)), (2, .int (0 : Int32)), (0, .ref (G.2.1 + 78)), (1, .int a1)]) hx hb (dk DX11_streak 22 rfl) hl (by decide) rfl (fun ls hl => ?_)
      have L36 : ∀ (nf : Nat) (xq11 : Int32) (xq12 : Int32) (xq13 : Int32) (mq10 : Mem) (H : Heap) (locs : List Loc) (ls : Array Slot), lv_has ls 5 [(0, .ref (G.2.1 + 78)), (1, .int a1), (2, .int xq11), (3, .int xq12), (4, .int xq13)] → Rp G mr0 N0 mq10 s H locs → F_M_streak_L36 a1 nf xq11 xq12 xq13 mq10 = some (v, m') → W p l e (rmD 3) s mid args below meth c H locs 0 0 (MQ below (QR G mr0 N0 (some (.int v)) m') args s 0 0 (fun q => G.2.1 ≤ q)) (F0 mid 36 ls []) := by
        intro nf
        induction nf with
        | zero =>
          intro xq11 xq12 xq13 mq10 H locs ls hl hR hF
          rw [F_M_streak_L36] at hF
          cases hF
        | succ nf ihq15 =>
          intro xq11 xq12 xq13 mq10 H locs ls hl hR hF
          rw [F_M_streak_L36] at hF
          refine lv_iload hx hb (dk DX11_streak 23 rfl) (lv_at hl 4 rfl) ?_
          refine lv_aload_n hx hb (dk DX11_streak 24 rfl) rfl (lv_at hl 0 rfl) ?_
          refine gX11_13 C hR ob78 rf78_1 (dk DX11_streak 25 rfl) ?_
          refine lv_iconst (v := (5 : Int32)) hx hb (dk DX11_streak 26 rfl) (by decide) ?_
          refine r_iald C hR ob79 rfl (dk DX11_streak 27 rfl) ?_
          refine lv_icmp_ge (tgt := 79) hx hb (dk DX11_streak 28 rfl) (by decide) (fun c44 => ?_) (fun c44 => ?_)
          · have hF := if_t c44 hF
            refine lv_iload_n hx hb (dk DX11_streak 48 rfl) rfl (lv_at hl 2 rfl) ?_
            cases hF
            exact r_iret C hrt hR (dk DX11_streak 49 rfl)
          · have hF := if_f c44 hF
            refine lv_aload_n hx hb (dk DX11_streak 29 rfl) rfl (lv_at hl 0 rfl) ?_
            refine lv_iload hx hb (dk DX11_streak 30 rfl) (lv_at hl 4 rfl) ?_
            refine lv_iconst (v := (3 : Int32)) hx hb (dk DX11_streak 31 rfl) (by decide) ?_
            refine lv_iload_n hx hb (dk DX11_streak 32 rfl) rfl (lv_at hl 1 rfl) ?_
            refine lv_iadd hx hb (dk DX11_streak 33 rfl) ?_
            obtain ⟨zq18, mq16, hzq17, hF⟩ := bnd_ex hF
            refine r_callVi (As := [.int xq13, .int ((3 : Int32) + a1)]) (rest := []) C hR (C_M_isSuch l hl0 G xq13 ((3 : Int32) + a1) mq10 _ _ hzq17) (by decide) (by decide) ob78 rfl wX11_470 rfl rfl (Nat.le_of_ble_eq_true rfl) hl.1 ⟨Nat.zero_le _, Nat.zero_le _⟩ (dk DX11_streak 34 rfl) (fun H locs hR => ?_)
            obtain ⟨k66_20, ek66_20, hF⟩ := lt_ex hF
            have J66 : ∀ (xq20 : Int32) (mq19 : Mem) (H : Heap) (locs : List Loc) (ls : Array Slot), lv_has ls 5 [(0, .ref (G.2.1 + 78)), (1, .int a1), (2, .int xq11), (4, .int xq13)] → Rp G mr0 N0 mq19 s H locs → k66_20 xq20 mq19 = some (v, m') → W p l e (rmD 3) s mid args below meth c H locs 0 0 (MQ below (QR G mr0 N0 (some (.int v)) m') args s 0 0 (fun q => G.2.1 ≤ q)) (F0 mid 66 ls [.int xq20]) := by
              intro xq20 mq19 H locs ls hl hR hF
              rw [ek66_20] at hF
              refine lv_istore_n (lv' := [(3, .int xq20), (0, .ref (G.2.1 + 78)), (1, .int a1), (2, .int xq11), (4, .int xq13)]) hx hb (dk DX11_streak 41 rfl) rfl hl (by decide) rfl (fun ls hl => ?_)
              refine lv_iload_n hx hb (dk DX11_streak 42 rfl) rfl (lv_at hl 3 rfl) ?_
              refine lv_iload_n hx hb (dk DX11_streak 43 rfl) rfl (lv_at hl 0 rfl) ?_
              refine r_mxI C (gd q2017 rfl) (by decide) (Nat.le_of_ble_eq_true rfl) hl.1 ⟨Nat.zero_le _, Nat.zero_le _⟩ (dk DX11_streak 44 rfl) ?_
              refine lv_topi (fun xq21 exq21 => ?_)
              have hF := lt_at exq21 hF
              refine lv_istore_n (lv' := [(2, .int xq21), (3, .int xq20), (0, .ref (G.2.1 + 78)), (1, .int a1), (4, .int xq13)]) hx hb (dk DX11_streak 45 rfl) rfl hl (by decide) rfl (fun ls hl => ?_)
              obtain ⟨xq22, exq22, hF⟩ := lt_ex hF
              refine lv_iinc (v := xq22) (lv' := [(4, .int xq22), (2, .int xq21), (3, .int xq20), (0, .ref (G.2.1 + 78)), (1, .int a1)]) hx hb (dk DX11_streak 46 rfl) hl (k := 4) rfl (by rw [exq22]; rfl) (by decide) rfl (fun ls hl => ?_)
              refine lv_goto (tgt := 36) hx hb (dk DX11_streak 47 rfl) (by decide) ?_
              exact ihq15 xq21 xq20 xq22 mq19 _ _ ls (lv_sub hl [3, 4, 1, 2, 0] rfl) hR hF
            refine z_ifeq (tgt := 65) hx hb (dk DX11_streak 35 rfl) (by decide) (fun c56 => ?_) (fun c56 => ?_)
            · have hF := if_f c56 hF
              refine lv_iconst (v := (0 : Int32)) hx hb (dk DX11_streak 40 rfl) (by decide) ?_
              exact J66 (0 : Int32) mq16 _ _ ls (lv_sub hl [0, 1, 2, 4] rfl) hR hF
            · have hF := if_t c56 hF
              refine lv_iload_n hx hb (dk DX11_streak 36 rfl) rfl (lv_at hl 3 rfl) ?_
              refine lv_iconst (v := (1 : Int32)) hx hb (dk DX11_streak 37 rfl) (by decide) ?_
              refine lv_iadd hx hb (dk DX11_streak 38 rfl) ?_
              refine lv_goto (tgt := 66) hx hb (dk DX11_streak 39 rfl) (by decide) ?_
              exact J66 (xq12 + (1 : Int32)) mq16 _ _ ls (lv_sub hl [0, 1, 2, 4] rfl) hR hF
      exact L36 1000000 (0 : Int32) (0 : Int32) (0 : Int32) mq7 _ _ ls (lv_sub hl [3, 4, 2, 1, 0] rfl) hR hF
    · have hF := if_t c24 hF
      refine lv_iconst (v := (0 : Int32)) hx hb (dk DX11_streak 15 rfl) (by decide) ?_
      cases hF
      exact r_iret C hrt hR (dk DX11_streak 16 rfl)
  refine z_ifne (tgt := 19) hx hb (dk DX11_streak 8 rfl) (by decide) (fun c12 => ?_) (fun c12 => ?_)
  · have hF := if_t c12 hF
    refine lv_iconst (v := (0 : Int32)) hx hb (dk DX11_streak 11 rfl) (by decide) ?_
    exact J20 false mq2 _ _ ls (lv_sub hl [0, 1] rfl) hR hF
  · have hF := if_f c12 hF
    refine lv_iconst (v := (1 : Int32)) hx hb (dk DX11_streak 9 rfl) (by decide) ?_
    refine lv_goto (tgt := 20) hx hb (dk DX11_streak 10 rfl) (by decide) ?_
    exact J20 true mq2 _ _ ls (lv_sub hl [0, 1] rfl) hR hF
set_option maxHeartbeats 4000000 in
set_option maxRecDepth 100000 in
theorem C_M_swing (l : Launch) (hl0 : l.stackTraces = false) (G : GG) (m0 : Mem) (v : Int32) (m' : Mem) (hF : F_M_swing m0 = some (v, m')) : Ct l G mr0 N0 yX11_swing cX11_swing 4 (some .int) 6 [.ref (G.2.1 + 78)] m0 (some (.int v)) m' := by
  refine Ct_of hl0 (by decide) (Nat.le_of_ble_eq_true rfl) ?_
  intro p e s mid args below meth c ls C hrt hl hR
  have hx := C.1.1
  have hb := C.1.2.1
  have hl : lv_has ls 4 [(0, .ref (G.2.1 + 78))] := hl
  unfold F_M_swing at hF
  refine lv_aload_n hx hb (dk DX11_swing 0 rfl) rfl (lv_at hl 0 rfl) ?_
  obtain ⟨uq3, mq1, hzq2, hF⟩ := bnd_ex hF
  refine r_callVv (As := []) (rest := []) C hR (C_M_uses l hl0 G m0 _ _ hzq2) (by decide) (by decide) ob78 rfl wX11_216 rfl rfl (Nat.le_of_ble_eq_true rfl) hl.1 ⟨Nat.zero_le _, Nat.zero_le _⟩ (dk DX11_swing 1 rfl) (fun H locs hR => ?_)
  refine lv_aload_n hx hb (dk DX11_swing 2 rfl) rfl (lv_at hl 0 rfl) ?_
  refine lv_aload_n hx hb (dk DX11_swing 3 rfl) rfl (lv_at hl 0 rfl) ?_
  obtain ⟨zq6, mq4, hzq5, hF⟩ := bnd_ex hF
  refine r_callVi (As := []) (rest := [.ref (G.2.1 + 78)]) C hR (C_M_isOn l hl0 G mq1 _ _ hzq5) (by decide) (by decide) ob78 rfl wX11_278 rfl rfl (Nat.le_of_ble_eq_true rfl) hl.1 ⟨Nat.zero_le _, Nat.zero_le _⟩ (dk DX11_swing 4 rfl) (fun H locs hR => ?_)
  obtain ⟨k17_8, ek17_8, hF⟩ := lt_ex hF
  have J17 : ∀ (zq8 : Bool) (mq7 : Mem) (H : Heap) (locs : List Loc) (ls : Array Slot), lv_has ls 4 [(0, .ref (G.2.1 + 78))] → Rp G mr0 N0 mq7 s H locs → k17_8 zq8 mq7 = some (v, m') → W p l e (rmD 6) s mid args below meth c H locs 0 0 (MQ below (QR G mr0 N0 (some (.int v)) m') args s 0 0 (fun q => G.2.1 ≤ q)) (F0 mid 17 ls [.int (b2i zq8), .ref (G.2.1 + 78)]) := by
    intro zq8 mq7 H locs ls hl hR hF
    rw [ek17_8] at hF
    refine lv_iconst (v := (1 : Int32)) hx hb (dk DX11_swing 9 rfl) (by decide) ?_
    obtain ⟨zq11, mq9, hzq10, hF⟩ := bnd_ex hF
    refine r_callVi (As := [.int (b2i zq8), .int (1 : Int32)]) (rest := []) C hR (C_M_throwsIf l hl0 G zq8 (1 : Int32) mq7 _ _ hzq10) (by decide) (by decide) ob78 rfl wX11_227 rfl rfl (Nat.le_of_ble_eq_true rfl) hl.1 ⟨Nat.zero_le _, Nat.zero_le _⟩ (dk DX11_swing 10 rfl) (fun H locs hR => ?_)
    refine z_ifeq (tgt := 26) hx hb (dk DX11_swing 11 rfl) (by decide) (fun c21 => ?_) (fun c21 => ?_)
    · have hF := if_f c21 hF
      refine lv_aload_n hx hb (dk DX11_swing 14 rfl) rfl (lv_at hl 0 rfl) ?_
      refine gX11_77 C hR ob78 (dk DX11_swing 15 rfl) ?_
      refine lv_aload_n hx hb (dk DX11_swing 16 rfl) rfl (lv_at hl 0 rfl) ?_
      obtain ⟨xq14, mq12, hzq13, hF⟩ := bnd_ex hF
      refine r_callVi (As := []) (rest := [.int (gI mq9 78 10)]) C hR (C_M_size l hl0 G mq9 _ _ hzq13) (by decide) (by decide) ob78 rfl wX11_63 rfl rfl (Nat.le_of_ble_eq_true rfl) hl.1 ⟨Nat.zero_le _, Nat.zero_le _⟩ (dk DX11_swing 17 rfl) (fun H locs hR => ?_)
      refine lv_aload_n hx hb (dk DX11_swing 18 rfl) rfl (lv_at hl 0 rfl) ?_
      obtain ⟨xq17, mq15, hzq16, hF⟩ := bnd_ex hF
      refine r_callVi (As := []) (rest := [.int xq14, .int (gI mq9 78 10)]) C hR (C_M_played l hl0 G mq12 _ _ hzq16) (by decide) (by decide) ob78 rfl wX11_288 rfl rfl (Nat.le_of_ble_eq_true rfl) hl.1 ⟨Nat.zero_le _, Nat.zero_le _⟩ (dk DX11_swing 19 rfl) (fun H locs hR => ?_)
      refine lv_isub hx hb (dk DX11_swing 20 rfl) ?_
      obtain ⟨k47_19, ek47_19, hF⟩ := lt_ex hF
      have J47 : ∀ (zq19 : Bool) (mq18 : Mem) (H : Heap) (locs : List Loc) (ls : Array Slot), lv_has ls 4 [(0, .ref (G.2.1 + 78))] → Rp G mr0 N0 mq18 s H locs → k47_19 zq19 mq18 = some (v, m') → W p l e (rmD 6) s mid args below meth c H locs 0 0 (MQ below (QR G mr0 N0 (some (.int v)) m') args s 0 0 (fun q => G.2.1 ≤ q)) (F0 mid 47 ls [.int (b2i zq19)]) := by
        intro zq19 mq18 H locs ls hl hR hF
        rw [ek47_19] at hF
        refine lv_istore_n (lv' := [(1, .int (b2i zq19)), (0, .ref (G.2.1 + 78))]) hx hb (dk DX11_swing 25 rfl) rfl hl (by decide) rfl (fun ls hl => ?_)
        refine lv_iconst (v := (0 : Int32)) hx hb (dk DX11_swing 26 rfl) (by decide) ?_
        refine lv_istore_n (lv' := [(2, .int (0 : Int32)), (1, .int (b2i zq19)), (0, .ref (G.2.1 + 78))]) hx hb (dk DX11_swing 27 rfl) rfl hl (by decide) rfl (fun ls hl => ?_)
        obtain ⟨k86_21, ek86_21, hF⟩ := lt_ex hF
        have J86 : ∀ (zq21 : Bool) (mq20 : Mem) (H : Heap) (locs : List Loc) (ls : Array Slot), lv_has ls 4 [(0, .ref (G.2.1 + 78)), (1, .int (b2i zq21))] → Rp G mr0 N0 mq20 s H locs → k86_21 zq21 mq20 = some (v, m') → W p l e (rmD 6) s mid args below meth c H locs 0 0 (MQ below (QR G mr0 N0 (some (.int v)) m') args s 0 0 (fun q => G.2.1 ≤ q)) (F0 mid 86 ls []) := by
          intro zq21 mq20 H locs ls hl hR hF
          rw [ek86_21] at hF
          refine lv_aload_n hx hb (dk DX11_swing 46 rfl) rfl (lv_at hl 0 rfl) ?_
          refine lv_iload_n hx hb (dk DX11_swing 47 rfl) rfl (lv_at hl 1 rfl) ?_
          obtain ⟨k96_23, ek96_23, hF⟩ := lt_ex hF
          have J96 : ∀ (zq23 : Bool) (mq22 : Mem) (H : Heap) (locs : List Loc) (ls : Array Slot), lv_has ls 4 [(0, .ref (G.2.1 + 78))] → Rp G mr0 N0 mq22 s H locs → k96_23 zq23 mq22 = some (v, m') → W p l e (rmD 6) s mid args below meth c H locs 0 0 (MQ below (QR G mr0 N0 (some (.int v)) m') args s 0 0 (fun q => G.2.1 ≤ q)) (F0 mid 96 ls [.int (b2i zq23), .ref (G.2.1 + 78)]) := by
            intro zq23 mq22 H locs ls hl hR hF
            rw [ek96_23] at hF
            refine lv_iconst (v := (2 : Int32)) hx hb (dk DX11_swing 52 rfl) (by decide) ?_
            obtain ⟨zq26, mq24, hzq25, hF⟩ := bnd_ex hF
            refine r_callVi (As := [.int (b2i zq23), .int (2 : Int32)]) (rest := []) C hR (C_M_throwsIf l hl0 G zq23 (2 : Int32) mq22 _ _ hzq25) (by decide) (by decide) ob78 rfl wX11_227 rfl rfl (Nat.le_of_ble_eq_true rfl) hl.1 ⟨Nat.zero_le _, Nat.zero_le _⟩ (dk DX11_swing 53 rfl) (fun H locs hR => ?_)
            refine z_ifeq (tgt := 105) hx hb (dk DX11_swing 54 rfl) (by decide) (fun c100 => ?_) (fun c100 => ?_)
            · have hF := if_f c100 hF
              refine lv_iconst (v := (0 : Int32)) hx hb (dk DX11_swing 57 rfl) (by decide) ?_
              refine lv_istore_n (lv' := [(2, .int (0 : Int32)), (0, .ref (G.2.1 + 78))]) hx hb (dk DX11_swing 58 rfl) rfl hl (by decide) rfl (fun ls hl => ?_)
              obtain ⟨k132_27, ek132_27, hF⟩ := lt_ex hF
              have J132 : ∀ (mq27 : Mem) (H : Heap) (locs : List Loc) (ls : Array Slot), lv_has ls 4 [(0, .ref (G.2.1 + 78))] → Rp G mr0 N0 mq27 s H locs → k132_27  mq27 = some (v, m') → W p l e (rmD 6) s mid args below meth c H locs 0 0 (MQ below (QR G mr0 N0 (some (.int v)) m') args s 0 0 (fun q => G.2.1 ≤ q)) (F0 mid 132 ls []) := by
                intro  mq27 H locs ls hl hR hF
                rw [ek132_27] at hF
                refine lv_iconst (v := (0 : Int32)) hx hb (dk DX11_swing 72 rfl) (by decide) ?_
                refine lv_istore_n (lv' := [(2, .int (0 : Int32)), (0, .ref (G.2.1 + 78))]) hx hb (dk DX11_swing 73 rfl) rfl hl (by decide) rfl (fun ls hl => ?_)
                obtain ⟨k167_28, ek167_28, hF⟩ := lt_ex hF
                have J167 : ∀ (mq28 : Mem) (H : Heap) (locs : List Loc) (ls : Array Slot), lv_has ls 4 [(0, .ref (G.2.1 + 78))] → Rp G mr0 N0 mq28 s H locs → k167_28  mq28 = some (v, m') → W p l e (rmD 6) s mid args below meth c H locs 0 0 (MQ below (QR G mr0 N0 (some (.int v)) m') args s 0 0 (fun q => G.2.1 ≤ q)) (F0 mid 167 ls []) := by
                  intro  mq28 H locs ls hl hR hF
                  rw [ek167_28] at hF
                  refine lv_aload_n hx hb (dk DX11_swing 91 rfl) rfl (lv_at hl 0 rfl) ?_
                  refine gX11_13 C hR ob78 rf78_1 (dk DX11_swing 92 rfl) ?_
                  refine lv_bipush (v := (18 : Int32)) hx hb (dk DX11_swing 93 rfl) (by decide) ?_
                  refine r_iald C hR ob79 rfl (dk DX11_swing 94 rfl) ?_
                  refine lv_topi (fun xq29 exq29 => ?_)
                  have hF := lt_at exq29 hF
                  refine lv_istore_n (lv' := [(2, .int xq29), (0, .ref (G.2.1 + 78))]) hx hb (dk DX11_swing 95 rfl) rfl hl (by decide) rfl (fun ls hl => ?_)
                  refine lv_iconst (v := (0 : Int32)) hx hb (dk DX11_swing 96 rfl) (by decide) ?_
                  refine lv_istore_n (lv' := [(3, .int (0 : Int32)), (2, .int xq29), (0, .ref (G.2.1 + 78))]) hx hb (dk DX11_swing 97 rfl) rfl hl (by decide) rfl (fun ls hl => ?_)
                  have L177 : ∀ (nf : Nat) (xq31 : Int32) (mq30 : Mem) (H : Heap) (locs : List Loc) (ls : Array Slot), lv_has ls 4 [(0, .ref (G.2.1 + 78)), (2, .int xq29), (3, .int xq31)] → Rp G mr0 N0 mq30 s H locs → F_M_swing_L177 xq29 nf xq31 mq30 = some (v, m') → W p l e (rmD 6) s mid args below meth c H locs 0 0 (MQ below (QR G mr0 N0 (some (.int v)) m') args s 0 0 (fun q => G.2.1 ≤ q)) (F0 mid 177 ls []) := by
                    intro nf
                    induction nf with
                    | zero =>
                      intro xq31 mq30 H locs ls hl hR hF
                      rw [F_M_swing_L177] at hF
                      cases hF
                    | succ nf ihq33 =>
                      intro xq31 mq30 H locs ls hl hR hF
                      rw [F_M_swing_L177] at hF
                      refine lv_iload_n hx hb (dk DX11_swing 98 rfl) rfl (lv_at hl 2 rfl) ?_
                      refine lv_sipush (v := (298 : Int32)) hx hb (dk DX11_swing 99 rfl) (by decide) ?_
                      refine lv_icmp_ge (tgt := 202) hx hb (dk DX11_swing 100 rfl) (by decide) (fun c181 => ?_) (fun c181 => ?_)
                      · have hF := if_t c181 hF
                        refine lv_iload_n hx hb (dk DX11_swing 111 rfl) rfl (lv_at hl 1 rfl) ?_
                        cases hF
                        exact r_iret C hrt hR (dk DX11_swing 112 rfl)
                      · have hF := if_f c181 hF
                        refine lv_aload_n hx hb (dk DX11_swing 101 rfl) rfl (lv_at hl 0 rfl) ?_
                        refine gX11_13 C hR ob78 rf78_1 (dk DX11_swing 102 rfl) ?_
                        refine lv_iload_n hx hb (dk DX11_swing 103 rfl) rfl (lv_at hl 2 rfl) ?_
                        refine lv_aload_n hx hb (dk DX11_swing 104 rfl) rfl (lv_at hl 0 rfl) ?_
                        refine gX11_53 C hR ob78 rf78_26 (dk DX11_swing 105 rfl) ?_
                        refine lv_iload_n hx hb (dk DX11_swing 106 rfl) rfl (lv_at hl 2 rfl) ?_
                        obtain ⟨hq34, hF⟩ := ckB_ex hF
                        refine r_iald C hR ob90 hq34 (dk DX11_swing 107 rfl) ?_
                        refine lv_topi (fun xq35 exq35 => ?_)
                        have hF := lt_at exq35 hF
                        obtain ⟨hq37, hF⟩ := ckB_ex hF
                        refine r_iast C hR ob79 hq37 (dk DX11_swing 108 rfl) (fun H locs hR => ?_)
                        obtain ⟨mq36, emq36, hF⟩ := lt_ex hF
                        have hR := Rp_at emq36 hR
                        obtain ⟨xq38, exq38, hF⟩ := lt_ex hF
                        refine lv_iinc (v := xq38) (lv' := [(3, .int xq38), (0, .ref (G.2.1 + 78)), (2, .int xq29)]) hx hb (dk DX11_swing 109 rfl) hl (k := 2) rfl (by rw [exq38]; rfl) (by decide) rfl (fun ls hl => ?_)
                        refine lv_goto (tgt := 177) hx hb (dk DX11_swing 110 rfl) (by decide) ?_
                        exact ihq33 xq38 mq36 _ _ ls (lv_sub hl [1, 2, 0] rfl) hR hF
                  exact L177 1000000 (0 : Int32) mq28 _ _ ls (lv_sub hl [2, 1, 0] rfl) hR hF
                have L134 : ∀ (nf : Nat) (xq40 : Int32) (mq39 : Mem) (H : Heap) (locs : List Loc) (ls : Array Slot), lv_has ls 4 [(0, .ref (G.2.1 + 78)), (2, .int xq40)] → Rp G mr0 N0 mq39 s H locs → F_M_swing_L134 k167_28 nf xq40 mq39 = some (v, m') → W p l e (rmD 6) s mid args below meth c H locs 0 0 (MQ below (QR G mr0 N0 (some (.int v)) m') args s 0 0 (fun q => G.2.1 ≤ q)) (F0 mid 134 ls []) := by
                  intro nf
                  induction nf with
                  | zero =>
                    intro xq40 mq39 H locs ls hl hR hF
                    rw [F_M_swing_L134] at hF
                    cases hF
                  | succ nf ihq42 =>
                    intro xq40 mq39 H locs ls hl hR hF
                    rw [F_M_swing_L134] at hF
                    refine lv_iload_n hx hb (dk DX11_swing 74 rfl) rfl (lv_at hl 1 rfl) ?_
                    refine lv_aload_n hx hb (dk DX11_swing 75 rfl) rfl (lv_at hl 0 rfl) ?_
                    refine gX11_77 C hR ob78 (dk DX11_swing 76 rfl) ?_
                    refine lv_icmp_ge (tgt := 167) hx hb (dk DX11_swing 77 rfl) (by decide) (fun c139 => ?_) (fun c139 => ?_)
                    · have hF := if_t c139 hF
                      exact J167 mq39 _ _ ls (lv_sub hl [0] rfl) hR hF
                    · have hF := if_f c139 hF
                      refine lv_aload_n hx hb (dk DX11_swing 78 rfl) rfl (lv_at hl 0 rfl) ?_
                      obtain ⟨zq45, mq43, hzq44, hF⟩ := bnd_ex hF
                      refine r_callVi (As := []) (rest := []) C hR (C_M_isOver l hl0 G mq39 _ _ hzq44) (by decide) (by decide) ob78 rfl wX11_275 rfl rfl (Nat.le_of_ble_eq_true rfl) hl.1 ⟨Nat.zero_le _, Nat.zero_le _⟩ (dk DX11_swing 79 rfl) (fun H locs hR => ?_)
                      refine z_ifne (tgt := 167) hx hb (dk DX11_swing 80 rfl) (by decide) (fun c146 => ?_) (fun c146 => ?_)
                      · have hF := if_t c146 hF
                        exact J167 mq43 _ _ ls (lv_sub hl [0] rfl) hR hF
                      · have hF := if_f c146 hF
                        refine lv_aload_n hx hb (dk DX11_swing 81 rfl) rfl (lv_at hl 0 rfl) ?_
                        refine lv_aload_n hx hb (dk DX11_swing 82 rfl) rfl (lv_at hl 0 rfl) ?_
                        refine gX11_26 C hR ob78 rf78_7 (dk DX11_swing 83 rfl) ?_
                        refine lv_iload_n hx hb (dk DX11_swing 84 rfl) rfl (lv_at hl 1 rfl) ?_
                        obtain ⟨hq46, hF⟩ := ckB_ex hF
                        refine r_bald C hR ob83 hq46 (dk DX11_swing 85 rfl) ?_
                        refine lv_topi (fun xq47 exq47 => ?_)
                        have hF := lt_at exq47 hF
                        refine lv_iconst (v := (0 : Int32)) hx hb (dk DX11_swing 86 rfl) (by decide) ?_
                        obtain ⟨xq50, mq48, hzq49, hF⟩ := bnd_ex hF
                        refine r_callVi (As := [.int xq47, .int (b2i false)]) (rest := []) C hR (C_M_plays l hl0 G xq47 false mq43 _ _ hzq49) (by decide) (by decide) ob78 rfl wX11_313 rfl rfl (Nat.le_of_ble_eq_true rfl) hl.1 ⟨Nat.zero_le _, Nat.zero_le _⟩ (dk DX11_swing 87 rfl) (fun H locs hR => ?_)
                        refine lv_pop hx hb (dk DX11_swing 88 rfl) rfl ?_
                        obtain ⟨xq51, exq51, hF⟩ := lt_ex hF
                        refine lv_iinc (v := xq51) (lv' := [(2, .int xq51), (0, .ref (G.2.1 + 78))]) hx hb (dk DX11_swing 89 rfl) hl (k := 1) rfl (by rw [exq51]; rfl) (by decide) rfl (fun ls hl => ?_)
                        refine lv_goto (tgt := 134) hx hb (dk DX11_swing 90 rfl) (by decide) ?_
                        exact ihq42 xq51 mq48 _ _ ls (lv_sub hl [1, 0] rfl) hR hF
                exact L134 1000000 (0 : Int32) mq27 _ _ ls (lv_sub hl [1, 0] rfl) hR hF
              have L107 : ∀ (nf : Nat) (xq53 : Int32) (mq52 : Mem) (H : Heap) (locs : List Loc) (ls : Array Slot), lv_has ls 4 [(0, .ref (G.2.1 + 78)), (2, .int xq53)] → Rp G mr0 N0 mq52 s H locs → F_M_swing_L107 k132_27 nf xq53 mq52 = some (v, m') → W p l e (rmD 6) s mid args below meth c H locs 0 0 (MQ below (QR G mr0 N0 (some (.int v)) m') args s 0 0 (fun q => G.2.1 ≤ q)) (F0 mid 107 ls []) := by
                intro nf
                induction nf with
                | zero =>
                  intro xq53 mq52 H locs ls hl hR hF
                  rw [F_M_swing_L107] at hF
                  cases hF
                | succ nf ihq55 =>
                  intro xq53 mq52 H locs ls hl hR hF
                  rw [F_M_swing_L107] at hF
                  refine lv_iload_n hx hb (dk DX11_swing 59 rfl) rfl (lv_at hl 1 rfl) ?_
                  refine lv_sipush (v := (298 : Int32)) hx hb (dk DX11_swing 60 rfl) (by decide) ?_
                  refine lv_icmp_ge (tgt := 132) hx hb (dk DX11_swing 61 rfl) (by decide) (fun c111 => ?_) (fun c111 => ?_)
                  · have hF := if_t c111 hF
                    exact J132 mq52 _ _ ls (lv_sub hl [0] rfl) hR hF
                  · have hF := if_f c111 hF
                    refine lv_aload_n hx hb (dk DX11_swing 62 rfl) rfl (lv_at hl 0 rfl) ?_
                    refine gX11_53 C hR ob78 rf78_26 (dk DX11_swing 63 rfl) ?_
                    refine lv_iload_n hx hb (dk DX11_swing 64 rfl) rfl (lv_at hl 1 rfl) ?_
                    refine lv_aload_n hx hb (dk DX11_swing 65 rfl) rfl (lv_at hl 0 rfl) ?_
                    refine gX11_13 C hR ob78 rf78_1 (dk DX11_swing 66 rfl) ?_
                    refine lv_iload_n hx hb (dk DX11_swing 67 rfl) rfl (lv_at hl 1 rfl) ?_
                    obtain ⟨hq56, hF⟩ := ckB_ex hF
                    refine r_iald C hR ob79 hq56 (dk DX11_swing 68 rfl) ?_
                    refine lv_topi (fun xq57 exq57 => ?_)
                    have hF := lt_at exq57 hF
                    obtain ⟨hq59, hF⟩ := ckB_ex hF
                    refine r_iast C hR ob90 hq59 (dk DX11_swing 69 rfl) (fun H locs hR => ?_)
                    obtain ⟨mq58, emq58, hF⟩ := lt_ex hF
                    have hR := Rp_at emq58 hR
                    obtain ⟨xq60, exq60, hF⟩ := lt_ex hF
                    refine lv_iinc (v := xq60) (lv' := [(2, .int xq60), (0, .ref (G.2.1 + 78))]) hx hb (dk DX11_swing 70 rfl) hl (k := 1) rfl (by rw [exq60]; rfl) (by decide) rfl (fun ls hl => ?_)
                    refine lv_goto (tgt := 107) hx hb (dk DX11_swing 71 rfl) (by decide) ?_
                    exact ihq55 xq60 mq58 _ _ ls (lv_sub hl [1, 0] rfl) hR hF
              exact L107 1000000 (0 : Int32) mq24 _ _ ls (lv_sub hl [1, 0] rfl) hR hF
            · have hF := if_t c100 hF
              refine lv_iconst (v := (0 : Int32)) hx hb (dk DX11_swing 55 rfl) (by decide) ?_
              cases hF
              exact r_iret C hrt hR (dk DX11_swing 56 rfl)
          refine z_ifne (tgt := 95) hx hb (dk DX11_swing 48 rfl) (by decide) (fun c88 => ?_) (fun c88 => ?_)
          · have hF := if_t c88 hF
            refine lv_iconst (v := (0 : Int32)) hx hb (dk DX11_swing 51 rfl) (by decide) ?_
            exact J96 false mq20 _ _ ls (lv_sub hl [0] rfl) hR hF
          · have hF := if_f c88 hF
            refine lv_iconst (v := (1 : Int32)) hx hb (dk DX11_swing 49 rfl) (by decide) ?_
            refine lv_goto (tgt := 96) hx hb (dk DX11_swing 50 rfl) (by decide) ?_
            exact J96 true mq20 _ _ ls (lv_sub hl [0] rfl) hR hF
        have L50 : ∀ (nf : Nat) (zq62 : Bool) (xq63 : Int32) (mq61 : Mem) (H : Heap) (locs : List Loc) (ls : Array Slot), lv_has ls 4 [(0, .ref (G.2.1 + 78)), (1, .int (b2i zq62)), (2, .int xq63)] → Rp G mr0 N0 mq61 s H locs → F_M_swing_L50 k86_21 nf zq62 xq63 mq61 = some (v, m') → W p l e (rmD 6) s mid args below meth c H locs 0 0 (MQ below (QR G mr0 N0 (some (.int v)) m') args s 0 0 (fun q => G.2.1 ≤ q)) (F0 mid 50 ls []) := by
          intro nf
          induction nf with
          | zero =>
            intro zq62 xq63 mq61 H locs ls hl hR hF
            rw [F_M_swing_L50] at hF
            cases hF
          | succ nf ihq65 =>
            intro zq62 xq63 mq61 H locs ls hl hR hF
            rw [F_M_swing_L50] at hF
            refine lv_iload_n hx hb (dk DX11_swing 28 rfl) rfl (lv_at hl 2 rfl) ?_
            refine lv_aload_n hx hb (dk DX11_swing 29 rfl) rfl (lv_at hl 0 rfl) ?_
            refine gX11_77 C hR ob78 (dk DX11_swing 30 rfl) ?_
            refine lv_icmp_ge (tgt := 86) hx hb (dk DX11_swing 31 rfl) (by decide) (fun c55 => ?_) (fun c55 => ?_)
            · have hF := if_t c55 hF
              exact J86 zq62 mq61 _ _ ls (lv_sub hl [0, 1] rfl) hR hF
            · have hF := if_f c55 hF
              refine lv_iload_n hx hb (dk DX11_swing 32 rfl) rfl (lv_at hl 1 rfl) ?_
              refine z_ifeq (tgt := 86) hx hb (dk DX11_swing 33 rfl) (by decide) (fun c59 => ?_) (fun c59 => ?_)
              · have hF := if_f c59 hF
                exact J86 zq62 mq61 _ _ ls (lv_sub hl [0, 1] rfl) hR hF
              · have hF := if_t c59 hF
                refine lv_aload_n hx hb (dk DX11_swing 34 rfl) rfl (lv_at hl 0 rfl) ?_
                refine gX11_26 C hR ob78 rf78_7 (dk DX11_swing 35 rfl) ?_
                refine lv_iload_n hx hb (dk DX11_swing 36 rfl) rfl (lv_at hl 2 rfl) ?_
                obtain ⟨hq66, hF⟩ := ckB_ex hF
                refine r_bald C hR ob83 hq66 (dk DX11_swing 37 rfl) ?_
                refine lv_topi (fun xq67 exq67 => ?_)
                have hF := lt_at exq67 hF
                obtain ⟨zq70, mq68, hzq69, hF⟩ := bnd_ex hF
                refine r_callSi (As := [.int xq67]) (rest := []) C hR (C_M_noSlot l hl0 G xq67 mq61 _ _ hzq69) (by decide) (by decide) wX11_246 rfl rfl (Nat.le_of_ble_eq_true rfl) hl.1 ⟨Nat.zero_le _, Nat.zero_le _⟩ (dk DX11_swing 38 rfl) (fun H locs hR => ?_)
                obtain ⟨k79_72, ek79_72, hF⟩ := lt_ex hF
                have J79 : ∀ (zq72 : Bool) (mq71 : Mem) (H : Heap) (locs : List Loc) (ls : Array Slot), lv_has ls 4 [(0, .ref (G.2.1 + 78)), (2, .int xq63)] → Rp G mr0 N0 mq71 s H locs → k79_72 zq72 mq71 = some (v, m') → W p l e (rmD 6) s mid args below meth c H locs 0 0 (MQ below (QR G mr0 N0 (some (.int v)) m') args s 0 0 (fun q => G.2.1 ≤ q)) (F0 mid 79 ls [.int (b2i zq72)]) := by
                  intro zq72 mq71 H locs ls hl hR hF
                  rw [ek79_72] at hF
                  refine lv_istore_n (lv' := [(1, .int (b2i zq72)), (0, .ref (G.2.1 + 78)), (2, .int xq63)]) hx hb (dk DX11_swing 43 rfl) rfl hl (by decide) rfl (fun ls hl => ?_)
                  obtain ⟨xq73, exq73, hF⟩ := lt_ex hF
                  refine lv_iinc (v := xq73) (lv' := [(2, .int xq73), (1, .int (b2i zq72)), (0, .ref (G.2.1 + 78))]) hx hb (dk DX11_swing 44 rfl) hl (k := 2) rfl (by rw [exq73]; rfl) (by decide) rfl (fun ls hl => ?_)
                  refine lv_goto (tgt := 50) hx hb (dk DX11_swing 45 rfl) (by decide) ?_
                  exact ihq65 zq72 xq73 mq71 _ _ ls (lv_sub hl [2, 1, 0] rfl) hR hF
                refine z_ifne (tgt := 78) hx hb (dk DX11_swing 39 rfl) (by decide) (fun c71 => ?_) (fun c71 => ?_)
                · have hF := if_t c71 hF
                  refine lv_iconst (v := (0 : Int32)) hx hb (dk DX11_swing 42 rfl) (by decide) ?_
                  exact J79 false mq68 _ _ ls (lv_sub hl [0, 2] rfl) hR hF
                · have hF := if_f c71 hF
                  refine lv_iconst (v := (1 : Int32)) hx hb (dk DX11_swing 40 rfl) (by decide) ?_
                  refine lv_goto (tgt := 79) hx hb (dk DX11_swing 41 rfl) (by decide) ?_
                  exact J79 true mq68 _ _ ls (lv_sub hl [0, 2] rfl) hR hF
        exact L50 1000000 zq19 (0 : Int32) mq18 _ _ ls (lv_sub hl [2, 1, 0] rfl) hR hF
      refine lv_icmp_ne (tgt := 46) hx hb (dk DX11_swing 21 rfl) (by decide) (fun c39 => ?_) (fun c39 => ?_)
      · have hF := if_f c39 hF
        refine lv_iconst (v := (0 : Int32)) hx hb (dk DX11_swing 24 rfl) (by decide) ?_
        exact J47 false mq15 _ _ ls (lv_sub hl [0] rfl) hR hF
      · have hF := if_t c39 hF
        refine lv_iconst (v := (1 : Int32)) hx hb (dk DX11_swing 22 rfl) (by decide) ?_
        refine lv_goto (tgt := 47) hx hb (dk DX11_swing 23 rfl) (by decide) ?_
        exact J47 true mq15 _ _ ls (lv_sub hl [0] rfl) hR hF
    · have hF := if_t c21 hF
      refine lv_iconst (v := (0 : Int32)) hx hb (dk DX11_swing 12 rfl) (by decide) ?_
      cases hF
      exact r_iret C hrt hR (dk DX11_swing 13 rfl)
  refine z_ifne (tgt := 16) hx hb (dk DX11_swing 5 rfl) (by decide) (fun c9 => ?_) (fun c9 => ?_)
  · have hF := if_t c9 hF
    refine lv_iconst (v := (0 : Int32)) hx hb (dk DX11_swing 8 rfl) (by decide) ?_
    exact J17 false mq4 _ _ ls (lv_sub hl [0] rfl) hR hF
  · have hF := if_f c9 hF
    refine lv_iconst (v := (1 : Int32)) hx hb (dk DX11_swing 6 rfl) (by decide) ?_
    refine lv_goto (tgt := 17) hx hb (dk DX11_swing 7 rfl) (by decide) ?_
    exact J17 true mq4 _ _ ls (lv_sub hl [0] rfl) hR hF
set_option maxHeartbeats 4000000 in
set_option maxRecDepth 100000 in
theorem C_M_table (l : Launch) (hl0 : l.stackTraces = false) (G : GG) (a1 : Int32) (a2 : Int32) (a3 : Int32) (a4 : Bool) (m0 : Mem) (v : Int32) (m' : Mem) (hF : F_M_table a1 a2 a3 a4 m0 = some (v, m')) : Ct l G mr0 N0 yX11_table cX11_table 8 (some .int) 4 [.ref (G.2.1 + 78), .int a1, .int a2, .int a3, .int (b2i a4)] m0 (some (.int v)) m' := by
  refine Ct_of hl0 (by decide) (Nat.le_of_ble_eq_true rfl) ?_
  intro p e s mid args below meth c ls C hrt hl hR
  have hx := C.1.1
  have hb := C.1.2.1
  have hl : lv_has ls 8 [(0, .ref (G.2.1 + 78)), (1, .int a1), (2, .int a2), (3, .int a3), (4, .int (b2i a4))] := hl
  unfold F_M_table at hF
  refine lv_aload_n hx hb (dk DX11_table 0 rfl) rfl (lv_at hl 0 rfl) ?_
  refine lv_iconst (v := (0 : Int32)) hx hb (dk DX11_table 1 rfl) (by decide) ?_
  refine pX11_3 (x := (0 : Int32)) C hR ob78 (dk DX11_table 2 rfl) (fun H locs hR => ?_)
  obtain ⟨mq1, emq1, hF⟩ := lt_ex hF
  have hR := Rp_at emq1 hR
  refine lv_aload_n hx hb (dk DX11_table 3 rfl) rfl (lv_at hl 0 rfl) ?_
  refine lv_aload_n hx hb (dk DX11_table 4 rfl) rfl (lv_at hl 0 rfl) ?_
  refine lv_iload_n hx hb (dk DX11_table 5 rfl) rfl (lv_at hl 1 rfl) ?_
  obtain ⟨zq4, mq2, hzq3, hF⟩ := bnd_ex hF
  refine r_callVi (As := [.int a1]) (rest := [.ref (G.2.1 + 78)]) C hR (C_M_noSession l hl0 G a1 mq1 _ _ hzq3) (by decide) (by decide) ob78 rfl wX11_253 rfl rfl (Nat.le_of_ble_eq_true rfl) hl.1 ⟨Nat.zero_le _, Nat.zero_le _⟩ (dk DX11_table 6 rfl) (fun H locs hR => ?_)
  obtain ⟨k33_6, ek33_6, hF⟩ := lt_ex hF
  have J33 : ∀ (zq6 : Bool) (mq5 : Mem) (H : Heap) (locs : List Loc) (ls : Array Slot), lv_has ls 8 [(0, .ref (G.2.1 + 78)), (1, .int a1), (2, .int a2), (3, .int a3), (4, .int (b2i a4))] → Rp G mr0 N0 mq5 s H locs → k33_6 zq6 mq5 = some (v, m') → W p l e (rmD 4) s mid args below meth c H locs 0 0 (MQ below (QR G mr0 N0 (some (.int v)) m') args s 0 0 (fun q => G.2.1 ≤ q)) (F0 mid 33 ls [.int (b2i zq6), .ref (G.2.1 + 78)]) := by
    intro zq6 mq5 H locs ls hl hR hF
    rw [ek33_6] at hF
    refine lv_iconst (v := (1 : Int32)) hx hb (dk DX11_table 17 rfl) (by decide) ?_
    obtain ⟨zq9, mq7, hzq8, hF⟩ := bnd_ex hF
    refine r_callVi (As := [.int (b2i zq6), .int (1 : Int32)]) (rest := []) C hR (C_M_throwsIf l hl0 G zq6 (1 : Int32) mq5 _ _ hzq8) (by decide) (by decide) ob78 rfl wX11_227 rfl rfl (Nat.le_of_ble_eq_true rfl) hl.1 ⟨Nat.zero_le _, Nat.zero_le _⟩ (dk DX11_table 18 rfl) (fun H locs hR => ?_)
    refine z_ifeq (tgt := 42) hx hb (dk DX11_table 19 rfl) (by decide) (fun c37 => ?_) (fun c37 => ?_)
    · have hF := if_f c37 hF
      refine lv_aload_n hx hb (dk DX11_table 22 rfl) rfl (lv_at hl 0 rfl) ?_
      refine lv_iload_n hx hb (dk DX11_table 23 rfl) rfl (lv_at hl 1 rfl) ?_
      refine lv_iload_n hx hb (dk DX11_table 24 rfl) rfl (lv_at hl 2 rfl) ?_
      refine lv_iload_n hx hb (dk DX11_table 25 rfl) rfl (lv_at hl 3 rfl) ?_
      obtain ⟨xq12, mq10, hzq11, hF⟩ := bnd_ex hF
      refine r_callVi (As := [.int a1, .int a2, .int a3]) (rest := []) C hR (C_M_levelOf l hl0 G a1 a2 a3 mq7 _ _ hzq11) (by decide) (by decide) ob78 rfl wX11_259 rfl rfl (Nat.le_of_ble_eq_true rfl) hl.1 ⟨Nat.zero_le _, Nat.zero_le _⟩ (dk DX11_table 26 rfl) (fun H locs hR => ?_)
      refine lv_istore (lv' := [(5, .int xq12), (0, .ref (G.2.1 + 78)), (1, .int a1), (2, .int a2), (3, .int a3), (4, .int (b2i a4))]) hx hb (dk DX11_table 27 rfl) hl (by decide) rfl (fun ls hl => ?_)
      refine lv_iconst (v := (0 : Int32)) hx hb (dk DX11_table 28 rfl) (by decide) ?_
      refine lv_istore (lv' := [(6, .int (0 : Int32)), (5, .int xq12), (0, .ref (G.2.1 + 78)), (1, .int a1), (2, .int a2), (3, .int a3), (4, .int (b2i a4))]) hx hb (dk DX11_table 29 rfl) hl (by decide) rfl (fun ls hl => ?_)
      refine lv_iconst (v := (0 : Int32)) hx hb (dk DX11_table 30 rfl) (by decide) ?_
      refine lv_istore (lv' := [(7, .int (0 : Int32)), (6, .int (0 : Int32)), (5, .int xq12), (0, .ref (G.2.1 + 78)), (1, .int a1), (2, .int a2), (3, .int a3), (4, .int (b2i a4))]) hx hb (dk DX11_table 31 rfl) hl (by decide) rfl (fun ls hl => ?_)
      have L57 : ∀ (nf : Nat) (xq14 : Int32) (xq15 : Int32) (mq13 : Mem) (H : Heap) (locs : List Loc) (ls : Array Slot), lv_has ls 8 [(0, .ref (G.2.1 + 78)), (1, .int a1), (4, .int (b2i a4)), (5, .int xq12), (6, .int xq14), (7, .int xq15)] → Rp G mr0 N0 mq13 s H locs → F_M_table_L57 a1 a4 xq12 nf xq14 xq15 mq13 = some (v, m') → W p l e (rmD 4) s mid args below meth c H locs 0 0 (MQ below (QR G mr0 N0 (some (.int v)) m') args s 0 0 (fun q => G.2.1 ≤ q)) (F0 mid 57 ls []) := by
        intro nf
        induction nf with
        | zero =>
          intro xq14 xq15 mq13 H locs ls hl hR hF
          rw [F_M_table_L57] at hF
          cases hF
        | succ nf ihq17 =>
          intro xq14 xq15 mq13 H locs ls hl hR hF
          rw [F_M_table_L57] at hF
          refine lv_iload hx hb (dk DX11_table 32 rfl) (lv_at hl 5 rfl) ?_
          refine lv_iconst (v := (4 : Int32)) hx hb (dk DX11_table 33 rfl) (by decide) ?_
          refine lv_icmp_ge (tgt := 100) hx hb (dk DX11_table 34 rfl) (by decide) (fun c60 => ?_) (fun c60 => ?_)
          · have hF := if_t c60 hF
            refine lv_iload hx hb (dk DX11_table 53 rfl) (lv_at hl 4 rfl) ?_
            cases hF
            exact r_iret C hrt hR (dk DX11_table 54 rfl)
          · have hF := if_f c60 hF
            refine lv_aload_n hx hb (dk DX11_table 35 rfl) rfl (lv_at hl 0 rfl) ?_
            refine lv_iload_n hx hb (dk DX11_table 36 rfl) rfl (lv_at hl 1 rfl) ?_
            obtain ⟨zq20, mq18, hzq19, hF⟩ := bnd_ex hF
            refine r_callVi (As := [.int a1]) (rest := []) C hR (C_M_isRain l hl0 G a1 mq13 _ _ hzq19) (by decide) (by decide) ob78 rfl wX11_262 rfl rfl (Nat.le_of_ble_eq_true rfl) hl.1 ⟨Nat.zero_le _, Nat.zero_le _⟩ (dk DX11_table 37 rfl) (fun H locs hR => ?_)
            refine z_ifne (tgt := 100) hx hb (dk DX11_table 38 rfl) (by decide) (fun c68 => ?_) (fun c68 => ?_)
            · have hF := if_t c68 hF
              refine lv_iload hx hb (dk DX11_table 53 rfl) (lv_at hl 4 rfl) ?_
              cases hF
              exact r_iret C hrt hR (dk DX11_table 54 rfl)
            · have hF := if_f c68 hF
              refine lv_iload hx hb (dk DX11_table 39 rfl) (lv_at hl 4 rfl) ?_
              refine lv_aload_n hx hb (dk DX11_table 40 rfl) rfl (lv_at hl 0 rfl) ?_
              refine lv_iload hx hb (dk DX11_table 41 rfl) (lv_at hl 3 rfl) ?_
              refine lv_iload hx hb (dk DX11_table 42 rfl) (lv_at hl 5 rfl) ?_
              refine lv_iload hx hb (dk DX11_table 43 rfl) (lv_at hl 2 rfl) ?_
              obtain ⟨k88_22, ek88_22, hF⟩ := lt_ex hF
              have J88 : ∀ (zq22 : Bool) (mq21 : Mem) (H : Heap) (locs : List Loc) (ls : Array Slot), lv_has ls 8 [(0, .ref (G.2.1 + 78)), (1, .int a1), (4, .int (b2i a4)), (5, .int xq12), (7, .int xq15)] → Rp G mr0 N0 mq21 s H locs → k88_22 zq22 mq21 = some (v, m') → W p l e (rmD 4) s mid args below meth c H locs 0 0 (MQ below (QR G mr0 N0 (some (.int v)) m') args s 0 0 (fun q => G.2.1 ≤ q)) (F0 mid 88 ls [.int (b2i zq22), .int xq15, .int xq12, .ref (G.2.1 + 78), .int xq14]) := by
                intro zq22 mq21 H locs ls hl hR hF
                rw [ek88_22] at hF
                obtain ⟨xq25, mq23, hzq24, hF⟩ := bnd_ex hF
                refine r_callVi (As := [.int xq12, .int xq15, .int (b2i zq22)]) (rest := [.int xq14]) C hR (C_M_ofSlot l hl0 G xq12 xq15 (b2i zq22) mq21 _ _ hzq24) (by decide) (by decide) ob78 rfl wX11_249 rfl rfl (Nat.le_of_ble_eq_true rfl) hl.1 ⟨Nat.zero_le _, Nat.zero_le _⟩ (dk DX11_table 48 rfl) (fun H locs hR => ?_)
                refine lv_iadd hx hb (dk DX11_table 49 rfl) ?_
                refine lv_topi (fun xq26 exq26 => ?_)
                have hF := lt_at exq26 hF
                refine lv_istore (lv' := [(6, .int xq26), (0, .ref (G.2.1 + 78)), (1, .int a1), (4, .int (b2i a4)), (5, .int xq12), (7, .int xq15)]) hx hb (dk DX11_table 50 rfl) hl (by decide) rfl (fun ls hl => ?_)
                obtain ⟨xq27, exq27, hF⟩ := lt_ex hF
                refine lv_iinc (v := xq27) (lv' := [(7, .int xq27), (6, .int xq26), (0, .ref (G.2.1 + 78)), (1, .int a1), (4, .int (b2i a4)), (5, .int xq12)]) hx hb (dk DX11_table 51 rfl) hl (k := 5) rfl (by rw [exq27]; rfl) (by decide) rfl (fun ls hl => ?_)
                refine lv_goto (tgt := 57) hx hb (dk DX11_table 52 rfl) (by decide) ?_
                exact ihq17 xq26 xq27 mq23 _ _ ls (lv_sub hl [2, 3, 4, 5, 1, 0] rfl) hR hF
              refine z_ifeq (tgt := 87) hx hb (dk DX11_table 44 rfl) (by decide) (fun c80 => ?_) (fun c80 => ?_)
              · have hF := if_f c80 hF
                refine lv_iconst (v := (0 : Int32)) hx hb (dk DX11_table 47 rfl) (by decide) ?_
                exact J88 false mq18 _ _ ls (lv_sub hl [0, 1, 2, 3, 5] rfl) hR hF
              · have hF := if_t c80 hF
                refine lv_iconst (v := (1 : Int32)) hx hb (dk DX11_table 45 rfl) (by decide) ?_
                refine lv_goto (tgt := 88) hx hb (dk DX11_table 46 rfl) (by decide) ?_
                exact J88 true mq18 _ _ ls (lv_sub hl [0, 1, 2, 3, 5] rfl) hR hF
      exact L57 1000000 (0 : Int32) (0 : Int32) mq10 _ _ ls (lv_sub hl [3, 4, 7, 2, 1, 0] rfl) hR hF
    · have hF := if_t c37 hF
      refine lv_iconst (v := (0 : Int32)) hx hb (dk DX11_table 20 rfl) (by decide) ?_
      cases hF
      exact r_iret C hrt hR (dk DX11_table 21 rfl)
  obtain ⟨k28_28, ek28_28, hF⟩ := lt_ex hF
  have J28 : ∀ (mq28 : Mem) (H : Heap) (locs : List Loc) (ls : Array Slot), lv_has ls 8 [(0, .ref (G.2.1 + 78)), (1, .int a1), (2, .int a2), (3, .int a3), (4, .int (b2i a4))] → Rp G mr0 N0 mq28 s H locs → k28_28  mq28 = some (v, m') → W p l e (rmD 4) s mid args below meth c H locs 0 0 (MQ below (QR G mr0 N0 (some (.int v)) m') args s 0 0 (fun q => G.2.1 ≤ q)) (F0 mid 28 ls [.ref (G.2.1 + 78)]) := by
    intro  mq28 H locs ls hl hR hF
    rw [ek28_28] at hF
    refine lv_iconst (v := (1 : Int32)) hx hb (dk DX11_table 14 rfl) (by decide) ?_
    refine lv_goto (tgt := 33) hx hb (dk DX11_table 15 rfl) (by decide) ?_
    exact J33 true mq28 _ _ ls (lv_sub hl [0, 1, 2, 3, 4] rfl) hR hF
  refine z_ifne (tgt := 28) hx hb (dk DX11_table 7 rfl) (by decide) (fun c11 => ?_) (fun c11 => ?_)
  · have hF := if_t c11 hF
    exact J28 mq2 _ _ ls (lv_sub hl [0, 1, 2, 3, 4] rfl) hR hF
  · have hF := if_f c11 hF
    refine lv_iload_n hx hb (dk DX11_table 8 rfl) rfl (lv_at hl 2 rfl) ?_
    obtain ⟨zq31, mq29, hzq30, hF⟩ := bnd_ex hF
    refine r_callSi (As := [.int a2]) (rest := [.ref (G.2.1 + 78)]) C hR (C_M_noInnings l hl0 G a2 mq2 _ _ hzq30) (by decide) (by decide) wX11_256 rfl rfl (Nat.le_of_ble_eq_true rfl) hl.1 ⟨Nat.zero_le _, Nat.zero_le _⟩ (dk DX11_table 9 rfl) (fun H locs hR => ?_)
    refine z_ifne (tgt := 28) hx hb (dk DX11_table 10 rfl) (by decide) (fun c18 => ?_) (fun c18 => ?_)
    · have hF := if_t c18 hF
      exact J28 mq29 _ _ ls (lv_sub hl [0, 1, 2, 3, 4] rfl) hR hF
    · have hF := if_f c18 hF
      refine lv_iload_n hx hb (dk DX11_table 11 rfl) rfl (lv_at hl 3 rfl) ?_
      obtain ⟨zq34, mq32, hzq33, hF⟩ := bnd_ex hF
      refine r_callSi (As := [.int a3]) (rest := [.ref (G.2.1 + 78)]) C hR (C_M_noSide l hl0 G a3 mq29 _ _ hzq33) (by decide) (by decide) wX11_243 rfl rfl (Nat.le_of_ble_eq_true rfl) hl.1 ⟨Nat.zero_le _, Nat.zero_le _⟩ (dk DX11_table 12 rfl) (fun H locs hR => ?_)
      refine z_ifeq (tgt := 32) hx hb (dk DX11_table 13 rfl) (by decide) (fun c25 => ?_) (fun c25 => ?_)
      · have hF := if_f c25 hF
        refine lv_iconst (v := (0 : Int32)) hx hb (dk DX11_table 16 rfl) (by decide) ?_
        exact J33 false mq32 _ _ ls (lv_sub hl [0, 1, 2, 3, 4] rfl) hR hF
      · have hF := if_t c25 hF
        exact J28 mq32 _ _ ls (lv_sub hl [0, 1, 2, 3, 4] rfl) hR hF
set_option maxHeartbeats 4000000 in
set_option maxRecDepth 100000 in
theorem C_M_target (l : Launch) (hl0 : l.stackTraces = false) (G : GG) (a1 : Bool) (m0 : Mem) (v : Int32) (m' : Mem) (hF : F_M_target a1 m0 = some (v, m')) : Ct l G mr0 N0 yX11_target cX11_target 4 (some .int) 4 [.ref (G.2.1 + 78), .int (b2i a1)] m0 (some (.int v)) m' := by
  refine Ct_of hl0 (by decide) (Nat.le_of_ble_eq_true rfl) ?_
  intro p e s mid args below meth c ls C hrt hl hR
  have hx := C.1.1
  have hb := C.1.2.1
  have hl : lv_has ls 4 [(0, .ref (G.2.1 + 78)), (1, .int (b2i a1))] := hl
  unfold F_M_target at hF
  refine lv_aload_n hx hb (dk DX11_target 0 rfl) rfl (lv_at hl 0 rfl) ?_
  refine lv_iconst (v := (0 : Int32)) hx hb (dk DX11_target 1 rfl) (by decide) ?_
  refine pX11_3 (x := (0 : Int32)) C hR ob78 (dk DX11_target 2 rfl) (fun H locs hR => ?_)
  obtain ⟨mq1, emq1, hF⟩ := lt_ex hF
  have hR := Rp_at emq1 hR
  refine lv_aload_n hx hb (dk DX11_target 3 rfl) rfl (lv_at hl 0 rfl) ?_
  refine lv_aload_n hx hb (dk DX11_target 4 rfl) rfl (lv_at hl 0 rfl) ?_
  obtain ⟨zq4, mq2, hzq3, hF⟩ := bnd_ex hF
  refine r_callVi (As := []) (rest := [.ref (G.2.1 + 78)]) C hR (C_M_canHold l hl0 G mq1 _ _ hzq3) (by decide) (by decide) ob78 rfl wX11_317 rfl rfl (Nat.le_of_ble_eq_true rfl) hl.1 ⟨Nat.zero_le _, Nat.zero_le _⟩ (dk DX11_target 5 rfl) (fun H locs hR => ?_)
  obtain ⟨k18_6, ek18_6, hF⟩ := lt_ex hF
  have J18 : ∀ (zq6 : Bool) (mq5 : Mem) (H : Heap) (locs : List Loc) (ls : Array Slot), lv_has ls 4 [(0, .ref (G.2.1 + 78)), (1, .int (b2i a1))] → Rp G mr0 N0 mq5 s H locs → k18_6 zq6 mq5 = some (v, m') → W p l e (rmD 4) s mid args below meth c H locs 0 0 (MQ below (QR G mr0 N0 (some (.int v)) m') args s 0 0 (fun q => G.2.1 ≤ q)) (F0 mid 18 ls [.int (b2i zq6), .ref (G.2.1 + 78)]) := by
    intro zq6 mq5 H locs ls hl hR hF
    rw [ek18_6] at hF
    refine lv_iconst (v := (1 : Int32)) hx hb (dk DX11_target 10 rfl) (by decide) ?_
    obtain ⟨zq9, mq7, hzq8, hF⟩ := bnd_ex hF
    refine r_callVi (As := [.int (b2i zq6), .int (1 : Int32)]) (rest := []) C hR (C_M_throwsIf l hl0 G zq6 (1 : Int32) mq5 _ _ hzq8) (by decide) (by decide) ob78 rfl wX11_227 rfl rfl (Nat.le_of_ble_eq_true rfl) hl.1 ⟨Nat.zero_le _, Nat.zero_le _⟩ (dk DX11_target 11 rfl) (fun H locs hR => ?_)
    refine z_ifeq (tgt := 27) hx hb (dk DX11_target 12 rfl) (by decide) (fun c22 => ?_) (fun c22 => ?_)
    · have hF := if_f c22 hF
      refine lv_iconst (v := (1 : Int32)) hx hb (dk DX11_target 15 rfl) (by decide) ?_
      refine lv_aload_n hx hb (dk DX11_target 16 rfl) rfl (lv_at hl 0 rfl) ?_
      refine lv_aload_n hx hb (dk DX11_target 17 rfl) rfl (lv_at hl 0 rfl) ?_
      obtain ⟨xq12, mq10, hzq11, hF⟩ := bnd_ex hF
      refine r_callVi (As := []) (rest := [.ref (G.2.1 + 78), .int (1 : Int32)]) C hR (C_M_batter l hl0 G mq7 _ _ hzq11) (by decide) (by decide) ob78 rfl wX11_285 rfl rfl (Nat.le_of_ble_eq_true rfl) hl.1 ⟨Nat.zero_le _, Nat.zero_le _⟩ (dk DX11_target 18 rfl) (fun H locs hR => ?_)
      obtain ⟨xq15, mq13, hzq14, hF⟩ := bnd_ex hF
      refine r_callVi (As := [.int xq12]) (rest := [.int (1 : Int32)]) C hR (C_M_leadOf l hl0 G xq12 mq10 _ _ hzq14) (by decide) (by decide) ob78 rfl wX11_281 rfl rfl (Nat.le_of_ble_eq_true rfl) hl.1 ⟨Nat.zero_le _, Nat.zero_le _⟩ (dk DX11_target 19 rfl) (fun H locs hR => ?_)
      refine lv_isub hx hb (dk DX11_target 20 rfl) ?_
      refine lv_topi (fun xq16 exq16 => ?_)
      have hF := lt_at exq16 hF
      refine lv_istore_n (lv' := [(2, .int xq16), (0, .ref (G.2.1 + 78)), (1, .int (b2i a1))]) hx hb (dk DX11_target 21 rfl) rfl hl (by decide) rfl (fun ls hl => ?_)
      refine lv_aload_n hx hb (dk DX11_target 22 rfl) rfl (lv_at hl 1 rfl) ?_
      obtain ⟨xq19, mq17, hzq18, hF⟩ := bnd_ex hF
      refine r_callVi (As := []) (rest := []) C hR (C_M_size l hl0 G mq13 _ _ hzq18) (by decide) (by decide) ob78 rfl wX11_63 rfl rfl (Nat.le_of_ble_eq_true rfl) hl.1 ⟨Nat.zero_le _, Nat.zero_le _⟩ (dk DX11_target 23 rfl) (fun H locs hR => ?_)
      refine lv_aload_n hx hb (dk DX11_target 24 rfl) rfl (lv_at hl 1 rfl) ?_
      obtain ⟨xq22, mq20, hzq21, hF⟩ := bnd_ex hF
      refine r_callVi (As := []) (rest := [.int xq19]) C hR (C_M_played l hl0 G mq17 _ _ hzq21) (by decide) (by decide) ob78 rfl wX11_288 rfl rfl (Nat.le_of_ble_eq_true rfl) hl.1 ⟨Nat.zero_le _, Nat.zero_le _⟩ (dk DX11_target 25 rfl) (fun H locs hR => ?_)
      refine lv_isub hx hb (dk DX11_target 26 rfl) ?_
      refine lv_topi (fun xq23 exq23 => ?_)
      have hF := lt_at exq23 hF
      refine lv_istore_n (lv' := [(3, .int xq23), (2, .int xq16), (0, .ref (G.2.1 + 78)), (1, .int (b2i a1))]) hx hb (dk DX11_target 27 rfl) rfl hl (by decide) rfl (fun ls hl => ?_)
      refine lv_iload_n hx hb (dk DX11_target 28 rfl) rfl (lv_at hl 3 rfl) ?_
      refine z_ifeq (tgt := 62) hx hb (dk DX11_target 29 rfl) (by decide) (fun c49 => ?_) (fun c49 => ?_)
      · have hF := if_f c49 hF
        refine lv_iload_n hx hb (dk DX11_target 38 rfl) rfl (lv_at hl 1 rfl) ?_
        cases hF
        exact r_iret C hrt hR (dk DX11_target 39 rfl)
      · have hF := if_t c49 hF
        refine lv_iload_n hx hb (dk DX11_target 30 rfl) rfl (lv_at hl 1 rfl) ?_
        refine lv_iload_n hx hb (dk DX11_target 31 rfl) rfl (lv_at hl 0 rfl) ?_
        refine lv_iadd hx hb (dk DX11_target 32 rfl) ?_
        refine lv_iconst (v := (1 : Int32)) hx hb (dk DX11_target 33 rfl) (by decide) ?_
        refine lv_isub hx hb (dk DX11_target 34 rfl) ?_
        refine lv_iload_n hx hb (dk DX11_target 35 rfl) rfl (lv_at hl 0 rfl) ?_
        obtain ⟨hq24, hF⟩ := ckB_ex hF
        refine lv_idiv hx hb (dk DX11_target 36 rfl) (by simpa using hq24) ?_
        refine lv_goto (tgt := 63) hx hb (dk DX11_target 37 rfl) (by decide) ?_
        cases hF
        exact r_iret C hrt hR (dk DX11_target 39 rfl)
    · have hF := if_t c22 hF
      refine lv_iconst (v := (0 : Int32)) hx hb (dk DX11_target 13 rfl) (by decide) ?_
      cases hF
      exact r_iret C hrt hR (dk DX11_target 14 rfl)
  refine z_ifne (tgt := 17) hx hb (dk DX11_target 6 rfl) (by decide) (fun c10 => ?_) (fun c10 => ?_)
  · have hF := if_t c10 hF
    refine lv_iconst (v := (0 : Int32)) hx hb (dk DX11_target 9 rfl) (by decide) ?_
    exact J18 false mq2 _ _ ls (lv_sub hl [0, 1] rfl) hR hF
  · have hF := if_f c10 hF
    refine lv_iconst (v := (1 : Int32)) hx hb (dk DX11_target 7 rfl) (by decide) ?_
    refine lv_goto (tgt := 18) hx hb (dk DX11_target 8 rfl) (by decide) ?_
    exact J18 true mq2 _ _ ls (lv_sub hl [0, 1] rfl) hR hF
set_option maxHeartbeats 4000000 in
set_option maxRecDepth 100000 in
theorem C_M_thrown (l : Launch) (hl0 : l.stackTraces = false) (G : GG) (m0 : Mem) (v : Int32) (m' : Mem) (hF : F_M_thrown m0 = some (v, m')) : Ct l G mr0 N0 yX11_thrown cX11_thrown 1 (some .int) 1 [.ref (G.2.1 + 78)] m0 (some (.int v)) m' := by
  refine Ct_of hl0 (by decide) (Nat.le_of_ble_eq_true rfl) ?_
  intro p e s mid args below meth c ls C hrt hl hR
  have hx := C.1.1
  have hb := C.1.2.1
  have hl : lv_has ls 1 [(0, .ref (G.2.1 + 78))] := hl
  unfold F_M_thrown at hF
  refine lv_aload_n hx hb (dk DX11_thrown 0 rfl) rfl (lv_at hl 0 rfl) ?_
  refine gX11_3 C hR ob78 (dk DX11_thrown 1 rfl) ?_
  cases hF
  exact r_iret C hrt hR (dk DX11_thrown 2 rfl)
set_option maxHeartbeats 4000000 in
set_option maxRecDepth 100000 in
theorem C_M_toss (l : Launch) (hl0 : l.stackTraces = false) (G : GG) (a1 : Int32) (m0 : Mem) (v : Int32) (m' : Mem) (hF : F_M_toss a1 m0 = some (v, m')) : Ct l G mr0 N0 yX11_toss cX11_toss 2 (some .int) 4 [.ref (G.2.1 + 78), .int a1] m0 (some (.int v)) m' := by
  refine Ct_of hl0 (by decide) (Nat.le_of_ble_eq_true rfl) ?_
  intro p e s mid args below meth c ls C hrt hl hR
  have hx := C.1.1
  have hb := C.1.2.1
  have hl : lv_has ls 2 [(0, .ref (G.2.1 + 78)), (1, .int a1)] := hl
  unfold F_M_toss at hF
  refine lv_aload_n hx hb (dk DX11_toss 0 rfl) rfl (lv_at hl 0 rfl) ?_
  refine lv_iconst (v := (0 : Int32)) hx hb (dk DX11_toss 1 rfl) (by decide) ?_
  refine pX11_3 (x := (0 : Int32)) C hR ob78 (dk DX11_toss 2 rfl) (fun H locs hR => ?_)
  obtain ⟨mq1, emq1, hF⟩ := lt_ex hF
  have hR := Rp_at emq1 hR
  refine lv_aload_n hx hb (dk DX11_toss 3 rfl) rfl (lv_at hl 0 rfl) ?_
  refine lv_iload_n hx hb (dk DX11_toss 4 rfl) rfl (lv_at hl 1 rfl) ?_
  obtain ⟨zq4, mq2, hzq3, hF⟩ := bnd_ex hF
  refine r_callSi (As := [.int a1]) (rest := [.ref (G.2.1 + 78)]) C hR (C_M_noSide l hl0 G a1 mq1 _ _ hzq3) (by decide) (by decide) wX11_243 rfl rfl (Nat.le_of_ble_eq_true rfl) hl.1 ⟨Nat.zero_le _, Nat.zero_le _⟩ (dk DX11_toss 5 rfl) (fun H locs hR => ?_)
  refine lv_iconst (v := (1 : Int32)) hx hb (dk DX11_toss 6 rfl) (by decide) ?_
  obtain ⟨zq7, mq5, hzq6, hF⟩ := bnd_ex hF
  refine r_callVi (As := [.int (b2i zq4), .int (1 : Int32)]) (rest := []) C hR (C_M_throwsIf l hl0 G zq4 (1 : Int32) mq2 _ _ hzq6) (by decide) (by decide) ob78 rfl wX11_227 rfl rfl (Nat.le_of_ble_eq_true rfl) hl.1 ⟨Nat.zero_le _, Nat.zero_le _⟩ (dk DX11_toss 7 rfl) (fun H locs hR => ?_)
  refine z_ifne (tgt := 37) hx hb (dk DX11_toss 8 rfl) (by decide) (fun c14 => ?_) (fun c14 => ?_)
  · have hF := if_t c14 hF
    refine lv_iconst (v := (0 : Int32)) hx hb (dk DX11_toss 19 rfl) (by decide) ?_
    cases hF
    exact r_iret C hrt hR (dk DX11_toss 20 rfl)
  · have hF := if_f c14 hF
    refine lv_aload_n hx hb (dk DX11_toss 9 rfl) rfl (lv_at hl 0 rfl) ?_
    refine lv_aload_n hx hb (dk DX11_toss 10 rfl) rfl (lv_at hl 0 rfl) ?_
    obtain ⟨xq10, mq8, hzq9, hF⟩ := bnd_ex hF
    refine r_callVi (As := []) (rest := [.ref (G.2.1 + 78)]) C hR (C_M_firstSide l hl0 G mq5 _ _ hzq9) (by decide) (by decide) ob78 rfl wX11_265 rfl rfl (Nat.le_of_ble_eq_true rfl) hl.1 ⟨Nat.zero_le _, Nat.zero_le _⟩ (dk DX11_toss 11 rfl) (fun H locs hR => ?_)
    obtain ⟨k30_12, ek30_12, hF⟩ := lt_ex hF
    have J30 : ∀ (zq12 : Bool) (mq11 : Mem) (H : Heap) (locs : List Loc) (ls : Array Slot), lv_has ls 2 [(0, .ref (G.2.1 + 78)), (1, .int a1)] → Rp G mr0 N0 mq11 s H locs → k30_12 zq12 mq11 = some (v, m') → W p l e (rmD 4) s mid args below meth c H locs 0 0 (MQ below (QR G mr0 N0 (some (.int v)) m') args s 0 0 (fun q => G.2.1 ≤ q)) (F0 mid 30 ls [.int (b2i zq12), .ref (G.2.1 + 78)]) := by
      intro zq12 mq11 H locs ls hl hR hF
      rw [ek30_12] at hF
      refine lv_iconst (v := (2 : Int32)) hx hb (dk DX11_toss 16 rfl) (by decide) ?_
      obtain ⟨zq15, mq13, hzq14, hF⟩ := bnd_ex hF
      refine r_callVi (As := [.int (b2i zq12), .int (2 : Int32)]) (rest := []) C hR (C_M_throwsIf l hl0 G zq12 (2 : Int32) mq11 _ _ hzq14) (by decide) (by decide) ob78 rfl wX11_227 rfl rfl (Nat.le_of_ble_eq_true rfl) hl.1 ⟨Nat.zero_le _, Nat.zero_le _⟩ (dk DX11_toss 17 rfl) (fun H locs hR => ?_)
      refine z_ifeq (tgt := 39) hx hb (dk DX11_toss 18 rfl) (by decide) (fun c34 => ?_) (fun c34 => ?_)
      · have hF := if_f c34 hF
        refine lv_aload_n hx hb (dk DX11_toss 21 rfl) rfl (lv_at hl 0 rfl) ?_
        obtain ⟨uq18, mq16, hzq17, hF⟩ := bnd_ex hF
        refine r_callVv (As := []) (rest := []) C hR (C_M_remembers l hl0 G mq13 _ _ hzq17) (by decide) (by decide) ob78 rfl wX11_294 rfl rfl (Nat.le_of_ble_eq_true rfl) hl.1 ⟨Nat.zero_le _, Nat.zero_le _⟩ (dk DX11_toss 22 rfl) (fun H locs hR => ?_)
        refine lv_aload_n hx hb (dk DX11_toss 23 rfl) rfl (lv_at hl 0 rfl) ?_
        refine gX11_13 C hR ob78 rf78_1 (dk DX11_toss 24 rfl) ?_
        refine lv_bipush (v := (10 : Int32)) hx hb (dk DX11_toss 25 rfl) (by decide) ?_
        refine lv_iload_n hx hb (dk DX11_toss 26 rfl) rfl (lv_at hl 1 rfl) ?_
        refine r_iast C hR ob79 rfl (dk DX11_toss 27 rfl) (fun H locs hR => ?_)
        obtain ⟨mq19, emq19, hF⟩ := lt_ex hF
        have hR := Rp_at emq19 hR
        refine lv_aload_n hx hb (dk DX11_toss 28 rfl) rfl (lv_at hl 0 rfl) ?_
        refine gX11_13 C hR ob78 rf78_1 (dk DX11_toss 29 rfl) ?_
        refine lv_bipush (v := (14 : Int32)) hx hb (dk DX11_toss 30 rfl) (by decide) ?_
        refine lv_iconst (v := (1 : Int32)) hx hb (dk DX11_toss 31 rfl) (by decide) ?_
        refine r_iast C hR ob79 rfl (dk DX11_toss 32 rfl) (fun H locs hR => ?_)
        obtain ⟨mq20, emq20, hF⟩ := lt_ex hF
        have hR := Rp_at emq20 hR
        refine lv_aload_n hx hb (dk DX11_toss 33 rfl) rfl (lv_at hl 0 rfl) ?_
        refine lv_iconst (v := (0 : Int32)) hx hb (dk DX11_toss 34 rfl) (by decide) ?_
        refine lv_iconst (v := (0 : Int32)) hx hb (dk DX11_toss 35 rfl) (by decide) ?_
        refine lv_iload_n hx hb (dk DX11_toss 36 rfl) rfl (lv_at hl 1 rfl) ?_
        obtain ⟨xq23, mq21, hzq22, hF⟩ := bnd_ex hF
        refine r_callVi (As := [.int (0 : Int32), .int (0 : Int32), .int a1]) (rest := []) C hR (C_M_levelOf l hl0 G (0 : Int32) (0 : Int32) a1 mq20 _ _ hzq22) (by decide) (by decide) ob78 rfl wX11_259 rfl rfl (Nat.le_of_ble_eq_true rfl) hl.1 ⟨Nat.zero_le _, Nat.zero_le _⟩ (dk DX11_toss 37 rfl) (fun H locs hR => ?_)
        cases hF
        exact r_iret C hrt hR (dk DX11_toss 38 rfl)
      · have hF := if_t c34 hF
        refine lv_iconst (v := (0 : Int32)) hx hb (dk DX11_toss 19 rfl) (by decide) ?_
        cases hF
        exact r_iret C hrt hR (dk DX11_toss 20 rfl)
    refine lv_if_lt (tgt := 29) hx hb (dk DX11_toss 12 rfl) (by decide) (fun c22 => ?_) (fun c22 => ?_)
    · have hF := if_t c22 hF
      refine lv_iconst (v := (0 : Int32)) hx hb (dk DX11_toss 15 rfl) (by decide) ?_
      exact J30 false mq8 _ _ ls (lv_sub hl [0, 1] rfl) hR hF
    · have hF := if_f c22 hF
      refine lv_iconst (v := (1 : Int32)) hx hb (dk DX11_toss 13 rfl) (by decide) ?_
      refine lv_goto (tgt := 30) hx hb (dk DX11_toss 14 rfl) (by decide) ?_
      exact J30 true mq8 _ _ ls (lv_sub hl [0, 1] rfl) hR hF
set_option maxHeartbeats 4000000 in
set_option maxRecDepth 100000 in
theorem C_M_turning (l : Launch) (hl0 : l.stackTraces = false) (G : GG) (a1 : Bool) (m0 : Mem) (v : Int32) (m' : Mem) (hF : F_M_turning a1 m0 = some (v, m')) : Ct l G mr0 N0 yX11_turning cX11_turning 8 (some .int) 11 [.ref (G.2.1 + 78), .int (b2i a1)] m0 (some (.int v)) m' := by
  refine Ct_of hl0 (by decide) (Nat.le_of_ble_eq_true rfl) ?_
  intro p e s mid args below meth c ls C hrt hl hR
  have hx := C.1.1
  have hb := C.1.2.1
  have hl : lv_has ls 8 [(0, .ref (G.2.1 + 78)), (1, .int (b2i a1))] := hl
  unfold F_M_turning at hF
  refine lv_aload_n hx hb (dk DX11_turning 0 rfl) rfl (lv_at hl 0 rfl) ?_
  refine lv_iconst (v := (0 : Int32)) hx hb (dk DX11_turning 1 rfl) (by decide) ?_
  refine pX11_3 (x := (0 : Int32)) C hR ob78 (dk DX11_turning 2 rfl) (fun H locs hR => ?_)
  obtain ⟨mq1, emq1, hF⟩ := lt_ex hF
  have hR := Rp_at emq1 hR
  refine lv_aload_n hx hb (dk DX11_turning 3 rfl) rfl (lv_at hl 0 rfl) ?_
  refine lv_aload_n hx hb (dk DX11_turning 4 rfl) rfl (lv_at hl 0 rfl) ?_
  obtain ⟨zq4, mq2, hzq3, hF⟩ := bnd_ex hF
  refine r_callVi (As := []) (rest := [.ref (G.2.1 + 78)]) C hR (C_M_isOn l hl0 G mq1 _ _ hzq3) (by decide) (by decide) ob78 rfl wX11_278 rfl rfl (Nat.le_of_ble_eq_true rfl) hl.1 ⟨Nat.zero_le _, Nat.zero_le _⟩ (dk DX11_turning 5 rfl) (fun H locs hR => ?_)
  obtain ⟨k18_6, ek18_6, hF⟩ := lt_ex hF
  have J18 : ∀ (zq6 : Bool) (mq5 : Mem) (H : Heap) (locs : List Loc) (ls : Array Slot), lv_has ls 8 [(0, .ref (G.2.1 + 78)), (1, .int (b2i a1))] → Rp G mr0 N0 mq5 s H locs → k18_6 zq6 mq5 = some (v, m') → W p l e (rmD 11) s mid args below meth c H locs 0 0 (MQ below (QR G mr0 N0 (some (.int v)) m') args s 0 0 (fun q => G.2.1 ≤ q)) (F0 mid 18 ls [.int (b2i zq6), .ref (G.2.1 + 78)]) := by
    intro zq6 mq5 H locs ls hl hR hF
    rw [ek18_6] at hF
    refine lv_iconst (v := (1 : Int32)) hx hb (dk DX11_turning 10 rfl) (by decide) ?_
    obtain ⟨zq9, mq7, hzq8, hF⟩ := bnd_ex hF
    refine r_callVi (As := [.int (b2i zq6), .int (1 : Int32)]) (rest := []) C hR (C_M_throwsIf l hl0 G zq6 (1 : Int32) mq5 _ _ hzq8) (by decide) (by decide) ob78 rfl wX11_227 rfl rfl (Nat.le_of_ble_eq_true rfl) hl.1 ⟨Nat.zero_le _, Nat.zero_le _⟩ (dk DX11_turning 11 rfl) (fun H locs hR => ?_)
    refine z_ifeq (tgt := 27) hx hb (dk DX11_turning 12 rfl) (by decide) (fun c22 => ?_) (fun c22 => ?_)
    · have hF := if_f c22 hF
      refine lv_iconst (v := (-1 : Int32)) hx hb (dk DX11_turning 15 rfl) (by decide) ?_
      refine lv_istore_n (lv' := [(2, .int (-1 : Int32)), (0, .ref (G.2.1 + 78)), (1, .int (b2i a1))]) hx hb (dk DX11_turning 16 rfl) rfl hl (by decide) rfl (fun ls hl => ?_)
      refine lv_lconst (v := (0 : Int64)) hx hb (dk DX11_turning 17 rfl) (by decide) ?_
      refine lv_lstore_n (lv' := [(3, .long (0 : Int64)), (2, .int (-1 : Int32)), (0, .ref (G.2.1 + 78)), (1, .int (b2i a1))]) hx hb (dk DX11_turning 18 rfl) rfl hl (by decide) rfl (fun ls hl => ?_)
      refine lv_iconst (v := (0 : Int32)) hx hb (dk DX11_turning 19 rfl) (by decide) ?_
      refine lv_istore (lv' := [(5, .int (0 : Int32)), (3, .long (0 : Int64)), (2, .int (-1 : Int32)), (0, .ref (G.2.1 + 78)), (1, .int (b2i a1))]) hx hb (dk DX11_turning 20 rfl) hl (by decide) rfl (fun ls hl => ?_)
      have L34 : ∀ (nf : Nat) (xq11 : Int32) (yq12 : Int64) (xq13 : Int32) (mq10 : Mem) (H : Heap) (locs : List Loc) (ls : Array Slot), lv_has ls 8 [(0, .ref (G.2.1 + 78)), (1, .int (b2i a1)), (2, .int xq11), (3, .long yq12), (5, .int xq13)] → Rp G mr0 N0 mq10 s H locs → F_M_turning_L34 a1 nf xq11 yq12 xq13 mq10 = some (v, m') → W p l e (rmD 11) s mid args below meth c H locs 0 0 (MQ below (QR G mr0 N0 (some (.int v)) m') args s 0 0 (fun q => G.2.1 ≤ q)) (F0 mid 34 ls []) := by
        intro nf
        induction nf with
        | zero =>
          intro xq11 yq12 xq13 mq10 H locs ls hl hR hF
          rw [F_M_turning_L34] at hF
          cases hF
        | succ nf ihq15 =>
          intro xq11 yq12 xq13 mq10 H locs ls hl hR hF
          rw [F_M_turning_L34] at hF
          refine lv_iload hx hb (dk DX11_turning 21 rfl) (lv_at hl 4 rfl) ?_
          refine lv_iconst (v := (4 : Int32)) hx hb (dk DX11_turning 22 rfl) (by decide) ?_
          refine lv_icmp_ge (tgt := 102) hx hb (dk DX11_turning 23 rfl) (by decide) (fun c37 => ?_) (fun c37 => ?_)
          · have hF := if_t c37 hF
            refine lv_iload_n hx hb (dk DX11_turning 57 rfl) rfl (lv_at hl 2 rfl) ?_
            cases hF
            exact r_iret C hrt hR (dk DX11_turning 58 rfl)
          · have hF := if_f c37 hF
            refine lv_aload_n hx hb (dk DX11_turning 24 rfl) rfl (lv_at hl 0 rfl) ?_
            refine lv_iload hx hb (dk DX11_turning 25 rfl) (lv_at hl 4 rfl) ?_
            obtain ⟨uq18, mq16, hzq17, hF⟩ := bnd_ex hF
            refine r_callVv (As := [.int xq13]) (rest := []) C hR (C_M_countsAfter l hl0 G xq13 mq10 _ _ hzq17) (by decide) (by decide) ob78 rfl wX11_449 rfl rfl (Nat.le_of_ble_eq_true rfl) hl.1 ⟨Nat.zero_le _, Nat.zero_le _⟩ (dk DX11_turning 26 rfl) (fun H locs hR => ?_)
            refine lv_iload_n hx hb (dk DX11_turning 27 rfl) rfl (lv_at hl 1 rfl) ?_
            obtain ⟨k74_20, ek74_20, hF⟩ := lt_ex hF
            have J74 : ∀ (yq20 : Int64) (mq19 : Mem) (H : Heap) (locs : List Loc) (ls : Array Slot), lv_has ls 8 [(0, .ref (G.2.1 + 78)), (1, .int (b2i a1)), (2, .int xq11), (3, .long yq12), (5, .int xq13)] → Rp G mr0 N0 mq19 s H locs → k74_20 yq20 mq19 = some (v, m') → W p l e (rmD 11) s mid args below meth c H locs 0 0 (MQ below (QR G mr0 N0 (some (.int v)) m') args s 0 0 (fun q => G.2.1 ≤ q)) (F0 mid 74 ls [.long yq20]) := by
              intro yq20 mq19 H locs ls hl hR hF
              rw [ek74_20] at hF
              refine lv_lstore (lv' := [(6, .long yq20), (0, .ref (G.2.1 + 78)), (1, .int (b2i a1)), (2, .int xq11), (3, .long yq12), (5, .int xq13)]) hx hb (dk DX11_turning 43 rfl) hl (by decide) rfl (fun ls hl => ?_)
              refine lv_iload_n hx hb (dk DX11_turning 44 rfl) rfl (lv_at hl 3 rfl) ?_
              obtain ⟨k96_23, ek96_23, hF⟩ := lt_ex hF
              have J96 : ∀ (xq22 : Int32) (yq23 : Int64) (mq21 : Mem) (H : Heap) (locs : List Loc) (ls : Array Slot), lv_has ls 8 [(0, .ref (G.2.1 + 78)), (1, .int (b2i a1)), (2, .int xq22), (3, .long yq23), (5, .int xq13)] → Rp G mr0 N0 mq21 s H locs → k96_23 xq22 yq23 mq21 = some (v, m') → W p l e (rmD 11) s mid args below meth c H locs 0 0 (MQ below (QR G mr0 N0 (some (.int v)) m') args s 0 0 (fun q => G.2.1 ≤ q)) (F0 mid 96 ls []) := by
                intro xq22 yq23 mq21 H locs ls hl hR hF
                rw [ek96_23] at hF
                obtain ⟨xq24, exq24, hF⟩ := lt_ex hF
                refine lv_iinc (v := xq24) (lv' := [(5, .int xq24), (0, .ref (G.2.1 + 78)), (1, .int (b2i a1)), (2, .int xq22), (3, .long yq23)]) hx hb (dk DX11_turning 55 rfl) hl (k := 4) rfl (by rw [exq24]; rfl) (by decide) rfl (fun ls hl => ?_)
                refine lv_goto (tgt := 34) hx hb (dk DX11_turning 56 rfl) (by decide) ?_
                exact ihq15 xq22 yq23 xq24 mq21 _ _ ls (lv_sub hl [1, 2, 3, 4, 0] rfl) hR hF
              obtain ⟨k90_25, ek90_25, hF⟩ := lt_ex hF
              have J90 : ∀ (mq25 : Mem) (H : Heap) (locs : List Loc) (ls : Array Slot), lv_has ls 8 [(0, .ref (G.2.1 + 78)), (1, .int (b2i a1)), (5, .int xq13), (6, .long yq20)] → Rp G mr0 N0 mq25 s H locs → k90_25  mq25 = some (v, m') → W p l e (rmD 11) s mid args below meth c H locs 0 0 (MQ below (QR G mr0 N0 (some (.int v)) m') args s 0 0 (fun q => G.2.1 ≤ q)) (F0 mid 90 ls []) := by
                intro  mq25 H locs ls hl hR hF
                rw [ek90_25] at hF
                refine lv_iload hx hb (dk DX11_turning 51 rfl) (lv_at hl 2 rfl) ?_
                refine lv_istore_n (lv' := [(2, .int xq13), (0, .ref (G.2.1 + 78)), (1, .int (b2i a1)), (5, .int xq13), (6, .long yq20)]) hx hb (dk DX11_turning 52 rfl) rfl hl (by decide) rfl (fun ls hl => ?_)
                refine lv_lload hx hb (dk DX11_turning 53 rfl) (lv_at hl 4 rfl) ?_
                refine lv_lstore_n (lv' := [(3, .long yq20), (2, .int xq13), (0, .ref (G.2.1 + 78)), (1, .int (b2i a1)), (5, .int xq13), (6, .long yq20)]) hx hb (dk DX11_turning 54 rfl) rfl hl (by decide) rfl (fun ls hl => ?_)
                exact J96 xq13 yq20 mq25 _ _ ls (lv_sub hl [2, 3, 1, 0, 4] rfl) hR hF
              refine lv_if_lt (tgt := 90) hx hb (dk DX11_turning 45 rfl) (by decide) (fun c77 => ?_) (fun c77 => ?_)
              · have hF := if_t c77 hF
                exact J90 mq19 _ _ ls (lv_sub hl [1, 2, 5, 0] rfl) hR hF
              · have hF := if_f c77 hF
                refine lv_lload hx hb (dk DX11_turning 46 rfl) (lv_at hl 0 rfl) ?_
                refine lv_lload_n hx hb (dk DX11_turning 47 rfl) rfl (lv_at hl 4 rfl) ?_
                refine l_ifgt (tgt := 90) hx hb (dk DX11_turning 48 rfl) (dk DX11_turning 49 rfl) (by decide) (fun c83 => ?_) (fun c83 => ?_)
                · have hF := if_t c83 hF
                  exact J90 mq19 _ _ ls (lv_sub hl [1, 2, 5, 0] rfl) hR hF
                · have hF := if_f c83 hF
                  refine lv_goto (tgt := 96) hx hb (dk DX11_turning 50 rfl) (by decide) ?_
                  exact J96 xq11 yq12 mq19 _ _ ls (lv_sub hl [1, 2, 3, 4, 5] rfl) hR hF
            refine z_ifeq (tgt := 64) hx hb (dk DX11_turning 28 rfl) (by decide) (fun c47 => ?_) (fun c47 => ?_)
            · have hF := if_f c47 hF
              refine lv_aload_n hx hb (dk DX11_turning 37 rfl) rfl (lv_at hl 0 rfl) ?_
              refine lv_aload_n hx hb (dk DX11_turning 38 rfl) rfl (lv_at hl 0 rfl) ?_
              obtain ⟨xq28, mq26, hzq27, hF⟩ := bnd_ex hF
              refine r_callVi (As := []) (rest := [.ref (G.2.1 + 78)]) C hR (C_M_played l hl0 G mq16 _ _ hzq27) (by decide) (by decide) ob78 rfl wX11_288 rfl rfl (Nat.le_of_ble_eq_true rfl) hl.1 ⟨Nat.zero_le _, Nat.zero_le _⟩ (dk DX11_turning 39 rfl) (fun H locs hR => ?_)
              refine lv_iconst (v := (1 : Int32)) hx hb (dk DX11_turning 40 rfl) (by decide) ?_
              refine lv_iadd hx hb (dk DX11_turning 41 rfl) ?_
              obtain ⟨yq31, mq29, hzq30, hF⟩ := bnd_ex hF
              refine r_callVl (As := [.int (xq28 + (1 : Int32))]) (rest := []) C hR (C_M_got l hl0 G (xq28 + (1 : Int32)) mq26 _ _ hzq30) (by decide) (by decide) ob78 rfl wX11_382 rfl rfl (Nat.le_of_ble_eq_true rfl) hl.1 ⟨Nat.zero_le _, Nat.zero_le _⟩ (dk DX11_turning 42 rfl) (fun H locs hR => ?_)
              exact J74 yq31 mq29 _ _ ls (lv_sub hl [0, 1, 2, 3, 4] rfl) hR hF
            · have hF := if_t c47 hF
              refine lv_aload_n hx hb (dk DX11_turning 29 rfl) rfl (lv_at hl 0 rfl) ?_
              refine lv_aload_n hx hb (dk DX11_turning 30 rfl) rfl (lv_at hl 0 rfl) ?_
              obtain ⟨xq34, mq32, hzq33, hF⟩ := bnd_ex hF
              refine r_callVi (As := []) (rest := [.ref (G.2.1 + 78)]) C hR (C_M_played l hl0 G mq16 _ _ hzq33) (by decide) (by decide) ob78 rfl wX11_288 rfl rfl (Nat.le_of_ble_eq_true rfl) hl.1 ⟨Nat.zero_le _, Nat.zero_le _⟩ (dk DX11_turning 31 rfl) (fun H locs hR => ?_)
              refine lv_iconst (v := (1 : Int32)) hx hb (dk DX11_turning 32 rfl) (by decide) ?_
              refine lv_iadd hx hb (dk DX11_turning 33 rfl) ?_
              obtain ⟨yq37, mq35, hzq36, hF⟩ := bnd_ex hF
              refine r_callVl (As := [.int (xq34 + (1 : Int32))]) (rest := []) C hR (C_M_got l hl0 G (xq34 + (1 : Int32)) mq32 _ _ hzq36) (by decide) (by decide) ob78 rfl wX11_382 rfl rfl (Nat.le_of_ble_eq_true rfl) hl.1 ⟨Nat.zero_le _, Nat.zero_le _⟩ (dk DX11_turning 34 rfl) (fun H locs hR => ?_)
              refine lv_lneg hx hb (dk DX11_turning 35 rfl) ?_
              refine lv_goto (tgt := 74) hx hb (dk DX11_turning 36 rfl) (by decide) ?_
              exact J74 (-yq37) mq35 _ _ ls (lv_sub hl [0, 1, 2, 3, 4] rfl) hR hF
      exact L34 1000000 (-1 : Int32) (0 : Int64) (0 : Int32) mq7 _ _ ls (lv_sub hl [3, 4, 2, 1, 0] rfl) hR hF
    · have hF := if_t c22 hF
      refine lv_iconst (v := (0 : Int32)) hx hb (dk DX11_turning 13 rfl) (by decide) ?_
      cases hF
      exact r_iret C hrt hR (dk DX11_turning 14 rfl)
  refine z_ifne (tgt := 17) hx hb (dk DX11_turning 6 rfl) (by decide) (fun c10 => ?_) (fun c10 => ?_)
  · have hF := if_t c10 hF
    refine lv_iconst (v := (0 : Int32)) hx hb (dk DX11_turning 9 rfl) (by decide) ?_
    exact J18 false mq2 _ _ ls (lv_sub hl [0, 1] rfl) hR hF
  · have hF := if_f c10 hF
    refine lv_iconst (v := (1 : Int32)) hx hb (dk DX11_turning 7 rfl) (by decide) ?_
    refine lv_goto (tgt := 18) hx hb (dk DX11_turning 8 rfl) (by decide) ?_
    exact J18 true mq2 _ _ ls (lv_sub hl [0, 1] rfl) hR hF
set_option maxHeartbeats 4000000 in
set_option maxRecDepth 100000 in
theorem C_M_turnover (l : Launch) (hl0 : l.stackTraces = false) (G : GG) (a1 : Int32) (a2 : Int32) (m0 : Mem) (v : Int32) (m' : Mem) (hF : F_M_turnover a1 a2 m0 = some (v, m')) : Ct l G mr0 N0 yX11_turnover cX11_turnover 4 (some .int) 11 [.ref (G.2.1 + 78), .int a1, .int a2] m0 (some (.int v)) m' := by
  refine Ct_of hl0 (by decide) (Nat.le_of_ble_eq_true rfl) ?_
  intro p e s mid args below meth c ls C hrt hl hR
  have hx := C.1.1
  have hb := C.1.2.1
  have hl : lv_has ls 4 [(0, .ref (G.2.1 + 78)), (1, .int a1), (2, .int a2)] := hl
  unfold F_M_turnover at hF
  refine lv_aload_n hx hb (dk DX11_turnover 0 rfl) rfl (lv_at hl 0 rfl) ?_
  refine lv_iconst (v := (0 : Int32)) hx hb (dk DX11_turnover 1 rfl) (by decide) ?_
  refine pX11_3 (x := (0 : Int32)) C hR ob78 (dk DX11_turnover 2 rfl) (fun H locs hR => ?_)
  obtain ⟨mq1, emq1, hF⟩ := lt_ex hF
  have hR := Rp_at emq1 hR
  refine lv_aload_n hx hb (dk DX11_turnover 3 rfl) rfl (lv_at hl 0 rfl) ?_
  refine lv_aload_n hx hb (dk DX11_turnover 4 rfl) rfl (lv_at hl 0 rfl) ?_
  refine lv_iload_n hx hb (dk DX11_turnover 5 rfl) rfl (lv_at hl 1 rfl) ?_
  obtain ⟨zq4, mq2, hzq3, hF⟩ := bnd_ex hF
  refine r_callVi (As := [.int a1]) (rest := [.ref (G.2.1 + 78)]) C hR (C_M_noPlayed l hl0 G a1 mq1 _ _ hzq3) (by decide) (by decide) ob78 rfl wX11_452 rfl rfl (Nat.le_of_ble_eq_true rfl) hl.1 ⟨Nat.zero_le _, Nat.zero_le _⟩ (dk DX11_turnover 6 rfl) (fun H locs hR => ?_)
  refine lv_iconst (v := (1 : Int32)) hx hb (dk DX11_turnover 7 rfl) (by decide) ?_
  obtain ⟨zq7, mq5, hzq6, hF⟩ := bnd_ex hF
  refine r_callVi (As := [.int (b2i zq4), .int (1 : Int32)]) (rest := []) C hR (C_M_throwsIf l hl0 G zq4 (1 : Int32) mq2 _ _ hzq6) (by decide) (by decide) ob78 rfl wX11_227 rfl rfl (Nat.le_of_ble_eq_true rfl) hl.1 ⟨Nat.zero_le _, Nat.zero_le _⟩ (dk DX11_turnover 8 rfl) (fun H locs hR => ?_)
  refine z_ifne (tgt := 32) hx hb (dk DX11_turnover 9 rfl) (by decide) (fun c15 => ?_) (fun c15 => ?_)
  · have hF := if_t c15 hF
    refine lv_iconst (v := (0 : Int32)) hx hb (dk DX11_turnover 18 rfl) (by decide) ?_
    cases hF
    exact r_iret C hrt hR (dk DX11_turnover 19 rfl)
  · have hF := if_f c15 hF
    refine lv_aload_n hx hb (dk DX11_turnover 10 rfl) rfl (lv_at hl 0 rfl) ?_
    refine lv_aload_n hx hb (dk DX11_turnover 11 rfl) rfl (lv_at hl 0 rfl) ?_
    refine lv_iconst (v := (0 : Int32)) hx hb (dk DX11_turnover 12 rfl) (by decide) ?_
    refine lv_iload_n hx hb (dk DX11_turnover 13 rfl) rfl (lv_at hl 2 rfl) ?_
    obtain ⟨zq10, mq8, hzq9, hF⟩ := bnd_ex hF
    refine r_callVi (As := [.int (0 : Int32), .int a2]) (rest := [.ref (G.2.1 + 78)]) C hR (C_M_noState l hl0 G (0 : Int32) a2 mq5 _ _ hzq9) (by decide) (by decide) ob78 rfl wX11_455 rfl rfl (Nat.le_of_ble_eq_true rfl) hl.1 ⟨Nat.zero_le _, Nat.zero_le _⟩ (dk DX11_turnover 14 rfl) (fun H locs hR => ?_)
    refine lv_iconst (v := (2 : Int32)) hx hb (dk DX11_turnover 15 rfl) (by decide) ?_
    obtain ⟨zq13, mq11, hzq12, hF⟩ := bnd_ex hF
    refine r_callVi (As := [.int (b2i zq10), .int (2 : Int32)]) (rest := []) C hR (C_M_throwsIf l hl0 G zq10 (2 : Int32) mq8 _ _ hzq12) (by decide) (by decide) ob78 rfl wX11_227 rfl rfl (Nat.le_of_ble_eq_true rfl) hl.1 ⟨Nat.zero_le _, Nat.zero_le _⟩ (dk DX11_turnover 16 rfl) (fun H locs hR => ?_)
    refine z_ifeq (tgt := 34) hx hb (dk DX11_turnover 17 rfl) (by decide) (fun c29 => ?_) (fun c29 => ?_)
    · have hF := if_f c29 hF
      refine lv_iload_n hx hb (dk DX11_turnover 20 rfl) rfl (lv_at hl 1 rfl) ?_
      refine lv_aload_n hx hb (dk DX11_turnover 21 rfl) rfl (lv_at hl 0 rfl) ?_
      obtain ⟨xq16, mq14, hzq15, hF⟩ := bnd_ex hF
      refine r_callVi (As := []) (rest := [.int a1]) C hR (C_M_size l hl0 G mq11 _ _ hzq15) (by decide) (by decide) ob78 rfl wX11_63 rfl rfl (Nat.le_of_ble_eq_true rfl) hl.1 ⟨Nat.zero_le _, Nat.zero_le _⟩ (dk DX11_turnover 22 rfl) (fun H locs hR => ?_)
      refine lv_icmp_ne (tgt := 45) hx hb (dk DX11_turnover 23 rfl) (by decide) (fun c39 => ?_) (fun c39 => ?_)
      · have hF := if_f c39 hF
        refine lv_aload_n hx hb (dk DX11_turnover 26 rfl) rfl (lv_at hl 0 rfl) ?_
        refine lv_iload_n hx hb (dk DX11_turnover 27 rfl) rfl (lv_at hl 1 rfl) ?_
        refine lv_bipush (v := (81 : Int32)) hx hb (dk DX11_turnover 28 rfl) (by decide) ?_
        obtain ⟨uq19, mq17, hzq18, hF⟩ := bnd_ex hF
        refine r_callVv (As := [.int a1, .int (81 : Int32)]) (rest := []) C hR (C_M_countsFrom l hl0 G a1 (81 : Int32) mq14 _ _ hzq18) (by decide) (by decide) ob78 rfl wX11_458 rfl rfl (Nat.le_of_ble_eq_true rfl) hl.1 ⟨Nat.zero_le _, Nat.zero_le _⟩ (dk DX11_turnover 29 rfl) (fun H locs hR => ?_)
        refine lv_bipush (v := (81 : Int32)) hx hb (dk DX11_turnover 30 rfl) (by decide) ?_
        refine lv_istore_n (lv' := [(3, .int (81 : Int32)), (0, .ref (G.2.1 + 78)), (1, .int a1), (2, .int a2)]) hx hb (dk DX11_turnover 31 rfl) rfl hl (by decide) rfl (fun ls hl => ?_)
        have L55 : ∀ (nf : Nat) (xq21 : Int32) (mq20 : Mem) (H : Heap) (locs : List Loc) (ls : Array Slot), lv_has ls 4 [(0, .ref (G.2.1 + 78)), (1, .int a1), (2, .int a2), (3, .int xq21)] → Rp G mr0 N0 mq20 s H locs → F_M_turnover_L55 a1 a2 nf xq21 mq20 = some (v, m') → W p l e (rmD 11) s mid args below meth c H locs 0 0 (MQ below (QR G mr0 N0 (some (.int v)) m') args s 0 0 (fun q => G.2.1 ≤ q)) (F0 mid 55 ls []) := by
          intro nf
          induction nf with
          | zero =>
            intro xq21 mq20 H locs ls hl hR hF
            rw [F_M_turnover_L55] at hF
            cases hF
          | succ nf ihq23 =>
            intro xq21 mq20 H locs ls hl hR hF
            rw [F_M_turnover_L55] at hF
            refine lv_iload_n hx hb (dk DX11_turnover 32 rfl) rfl (lv_at hl 3 rfl) ?_
            refine lv_if_lt (tgt := 77) hx hb (dk DX11_turnover 33 rfl) (by decide) (fun c56 => ?_) (fun c56 => ?_)
            · have hF := if_t c56 hF
              refine lv_iload_n hx hb (dk DX11_turnover 44 rfl) rfl (lv_at hl 3 rfl) ?_
              cases hF
              exact r_iret C hrt hR (dk DX11_turnover 45 rfl)
            · have hF := if_f c56 hF
              refine lv_aload_n hx hb (dk DX11_turnover 34 rfl) rfl (lv_at hl 0 rfl) ?_
              refine lv_iload_n hx hb (dk DX11_turnover 35 rfl) rfl (lv_at hl 1 rfl) ?_
              refine lv_iconst (v := (4 : Int32)) hx hb (dk DX11_turnover 36 rfl) (by decide) ?_
              refine lv_iload_n hx hb (dk DX11_turnover 37 rfl) rfl (lv_at hl 2 rfl) ?_
              refine lv_iload_n hx hb (dk DX11_turnover 38 rfl) rfl (lv_at hl 3 rfl) ?_
              refine lv_ineg hx hb (dk DX11_turnover 39 rfl) ?_
              obtain ⟨zq26, mq24, hzq25, hF⟩ := bnd_ex hF
              refine r_callVi (As := [.int a1, .int (4 : Int32), .int a2, .int (-xq21)]) (rest := []) C hR (C_M_isChosen l hl0 G a1 (4 : Int32) a2 (-xq21) mq20 _ _ hzq25) (by decide) (by decide) ob78 rfl wX11_461 rfl rfl (Nat.le_of_ble_eq_true rfl) hl.1 ⟨Nat.zero_le _, Nat.zero_le _⟩ (dk DX11_turnover 40 rfl) (fun H locs hR => ?_)
              refine z_ifeq (tgt := 77) hx hb (dk DX11_turnover 41 rfl) (by decide) (fun c68 => ?_) (fun c68 => ?_)
              · have hF := if_f c68 hF
                refine lv_iload_n hx hb (dk DX11_turnover 44 rfl) rfl (lv_at hl 3 rfl) ?_
                cases hF
                exact r_iret C hrt hR (dk DX11_turnover 45 rfl)
              · have hF := if_t c68 hF
                obtain ⟨xq27, exq27, hF⟩ := lt_ex hF
                refine lv_iinc (v := xq27) (lv' := [(3, .int xq27), (0, .ref (G.2.1 + 78)), (1, .int a1), (2, .int a2)]) hx hb (dk DX11_turnover 42 rfl) hl (k := 3) rfl (by rw [exq27]; rfl) (by decide) rfl (fun ls hl => ?_)
                refine lv_goto (tgt := 55) hx hb (dk DX11_turnover 43 rfl) (by decide) ?_
                exact ihq23 xq27 mq24 _ _ ls (lv_sub hl [1, 2, 3, 0] rfl) hR hF
        exact L55 1000000 (81 : Int32) mq17 _ _ ls (lv_sub hl [1, 2, 3, 0] rfl) hR hF
      · have hF := if_t c39 hF
        refine lv_bipush (v := (81 : Int32)) hx hb (dk DX11_turnover 24 rfl) (by decide) ?_
        cases hF
        exact r_iret C hrt hR (dk DX11_turnover 25 rfl)
    · have hF := if_t c29 hF
      refine lv_iconst (v := (0 : Int32)) hx hb (dk DX11_turnover 18 rfl) (by decide) ?_
      cases hF
      exact r_iret C hrt hR (dk DX11_turnover 19 rfl)
set_option maxHeartbeats 4000000 in
set_option maxRecDepth 100000 in
theorem C_M_undo (l : Launch) (hl0 : l.stackTraces = false) (G : GG) (m0 : Mem) (v : Bool) (m' : Mem) (hF : F_M_undo m0 = some (v, m')) : Ct l G mr0 N0 yX11_undo cX11_undo 2 (some .boolean) 1 [.ref (G.2.1 + 78)] m0 (some (.int (b2i v))) m' := by
  refine Ct_of hl0 (by decide) (Nat.le_of_ble_eq_true rfl) ?_
  intro p e s mid args below meth c ls C hrt hl hR
  have hx := C.1.1
  have hb := C.1.2.1
  have hl : lv_has ls 2 [(0, .ref (G.2.1 + 78))] := hl
  unfold F_M_undo at hF
  refine lv_aload_n hx hb (dk DX11_undo 0 rfl) rfl (lv_at hl 0 rfl) ?_
  refine lv_iconst (v := (0 : Int32)) hx hb (dk DX11_undo 1 rfl) (by decide) ?_
  refine pX11_3 (x := (0 : Int32)) C hR ob78 (dk DX11_undo 2 rfl) (fun H locs hR => ?_)
  obtain ⟨mq1, emq1, hF⟩ := lt_ex hF
  have hR := Rp_at emq1 hR
  refine lv_aload_n hx hb (dk DX11_undo 3 rfl) rfl (lv_at hl 0 rfl) ?_
  refine gX11_60 C hR ob78 (dk DX11_undo 4 rfl) ?_
  refine lv_if_ne (tgt := 14) hx hb (dk DX11_undo 5 rfl) (by decide) (fun c9 => ?_) (fun c9 => ?_)
  · have hF := if_f c9 hF
    refine lv_aload_n hx hb (dk DX11_undo 8 rfl) rfl (lv_at hl 0 rfl) ?_
    refine lv_dup hx hb (dk DX11_undo 9 rfl) rfl ?_
    refine gX11_60 C hR ob78 (dk DX11_undo 10 rfl) ?_
    refine lv_iconst (v := (1 : Int32)) hx hb (dk DX11_undo 11 rfl) (by decide) ?_
    refine lv_isub hx hb (dk DX11_undo 12 rfl) ?_
    refine pX11_60 (x := (gI mq1 78 6) - (1 : Int32)) C hR ob78 (dk DX11_undo 13 rfl) (fun H locs hR => ?_)
    obtain ⟨mq2, emq2, hF⟩ := lt_ex hF
    have hR := Rp_at emq2 hR
    refine lv_iconst (v := (0 : Int32)) hx hb (dk DX11_undo 14 rfl) (by decide) ?_
    refine lv_istore_n (lv' := [(1, .int (0 : Int32)), (0, .ref (G.2.1 + 78))]) hx hb (dk DX11_undo 15 rfl) rfl hl (by decide) rfl (fun ls hl => ?_)
    have L26 : ∀ (nf : Nat) (xq4 : Int32) (mq3 : Mem) (H : Heap) (locs : List Loc) (ls : Array Slot), lv_has ls 2 [(0, .ref (G.2.1 + 78)), (1, .int xq4)] → Rp G mr0 N0 mq3 s H locs → F_M_undo_L26 nf xq4 mq3 = some (v, m') → W p l e (rmD 1) s mid args below meth c H locs 0 0 (MQ below (QR G mr0 N0 (some (.int (b2i v))) m') args s 0 0 (fun q => G.2.1 ≤ q)) (F0 mid 26 ls []) := by
      intro nf
      induction nf with
      | zero =>
        intro xq4 mq3 H locs ls hl hR hF
        rw [F_M_undo_L26] at hF
        cases hF
      | succ nf ihq6 =>
        intro xq4 mq3 H locs ls hl hR hF
        rw [F_M_undo_L26] at hF
        refine lv_iload_n hx hb (dk DX11_undo 16 rfl) rfl (lv_at hl 1 rfl) ?_
        refine lv_sipush (v := (298 : Int32)) hx hb (dk DX11_undo 17 rfl) (by decide) ?_
        refine lv_icmp_ge (tgt := 60) hx hb (dk DX11_undo 18 rfl) (by decide) (fun c30 => ?_) (fun c30 => ?_)
        · have hF := if_t c30 hF
          refine lv_iconst (v := (1 : Int32)) hx hb (dk DX11_undo 34 rfl) (by decide) ?_
          cases hF
          exact r_zret C hrt hR (dk DX11_undo 35 rfl)
        · have hF := if_f c30 hF
          refine lv_aload_n hx hb (dk DX11_undo 19 rfl) rfl (lv_at hl 0 rfl) ?_
          refine gX11_13 C hR ob78 rf78_1 (dk DX11_undo 20 rfl) ?_
          refine lv_iload_n hx hb (dk DX11_undo 21 rfl) rfl (lv_at hl 1 rfl) ?_
          refine lv_aload_n hx hb (dk DX11_undo 22 rfl) rfl (lv_at hl 0 rfl) ?_
          refine gX11_23 C hR ob78 rf78_4 (dk DX11_undo 23 rfl) ?_
          refine lv_sipush (v := (298 : Int32)) hx hb (dk DX11_undo 24 rfl) (by decide) ?_
          refine lv_aload_n hx hb (dk DX11_undo 25 rfl) rfl (lv_at hl 0 rfl) ?_
          refine gX11_60 C hR ob78 (dk DX11_undo 26 rfl) ?_
          refine lv_imul hx hb (dk DX11_undo 27 rfl) ?_
          refine lv_iload_n hx hb (dk DX11_undo 28 rfl) rfl (lv_at hl 1 rfl) ?_
          refine lv_iadd hx hb (dk DX11_undo 29 rfl) ?_
          obtain ⟨hq7, hF⟩ := ckB_ex hF
          refine r_iald C hR ob82 hq7 (dk DX11_undo 30 rfl) ?_
          refine lv_topi (fun xq8 exq8 => ?_)
          have hF := lt_at exq8 hF
          obtain ⟨hq10, hF⟩ := ckB_ex hF
          refine r_iast C hR ob79 hq10 (dk DX11_undo 31 rfl) (fun H locs hR => ?_)
          obtain ⟨mq9, emq9, hF⟩ := lt_ex hF
          have hR := Rp_at emq9 hR
          obtain ⟨xq11, exq11, hF⟩ := lt_ex hF
          refine lv_iinc (v := xq11) (lv' := [(1, .int xq11), (0, .ref (G.2.1 + 78))]) hx hb (dk DX11_undo 32 rfl) hl (k := 1) rfl (by rw [exq11]; rfl) (by decide) rfl (fun ls hl => ?_)
          refine lv_goto (tgt := 26) hx hb (dk DX11_undo 33 rfl) (by decide) ?_
          exact ihq6 xq11 mq9 _ _ ls (lv_sub hl [1, 0] rfl) hR hF
    exact L26 1000000 (0 : Int32) mq2 _ _ ls (lv_sub hl [1, 0] rfl) hR hF
  · have hF := if_t c9 hF
    refine lv_iconst (v := (0 : Int32)) hx hb (dk DX11_undo 6 rfl) (by decide) ?_
    cases hF
    exact r_zret C hrt hR (dk DX11_undo 7 rfl)
set_option maxHeartbeats 4000000 in
set_option maxRecDepth 100000 in
theorem C_M_well (l : Launch) (hl0 : l.stackTraces = false) (G : GG) (m0 : Mem) (v : Int32) (m' : Mem) (hF : F_M_well m0 = some (v, m')) : Ct l G mr0 N0 yX11_well cX11_well 5 (some .int) 11 [.ref (G.2.1 + 78)] m0 (some (.int v)) m' := by
  refine Ct_of hl0 (by decide) (Nat.le_of_ble_eq_true rfl) ?_
  intro p e s mid args below meth c ls C hrt hl hR
  have hx := C.1.1
  have hb := C.1.2.1
  have hl : lv_has ls 5 [(0, .ref (G.2.1 + 78))] := hl
  unfold F_M_well at hF
  refine lv_aload_n hx hb (dk DX11_well 0 rfl) rfl (lv_at hl 0 rfl) ?_
  refine lv_iconst (v := (0 : Int32)) hx hb (dk DX11_well 1 rfl) (by decide) ?_
  refine pX11_3 (x := (0 : Int32)) C hR ob78 (dk DX11_well 2 rfl) (fun H locs hR => ?_)
  obtain ⟨mq1, emq1, hF⟩ := lt_ex hF
  have hR := Rp_at emq1 hR
  refine lv_iconst (v := (0 : Int32)) hx hb (dk DX11_well 3 rfl) (by decide) ?_
  refine lv_istore_n (lv' := [(1, .int (0 : Int32)), (0, .ref (G.2.1 + 78))]) hx hb (dk DX11_well 4 rfl) rfl hl (by decide) rfl (fun ls hl => ?_)
  obtain ⟨k37_2, ek37_2, hF⟩ := lt_ex hF
  have J37 : ∀ (mq2 : Mem) (H : Heap) (locs : List Loc) (ls : Array Slot), lv_has ls 5 [(0, .ref (G.2.1 + 78))] → Rp G mr0 N0 mq2 s H locs → k37_2  mq2 = some (v, m') → W p l e (rmD 11) s mid args below meth c H locs 0 0 (MQ below (QR G mr0 N0 (some (.int v)) m') args s 0 0 (fun q => G.2.1 ≤ q)) (F0 mid 37 ls []) := by
    intro  mq2 H locs ls hl hR hF
    rw [ek37_2] at hF
    refine lv_iconst (v := (0 : Int32)) hx hb (dk DX11_well 23 rfl) (by decide) ?_
    refine lv_istore_n (lv' := [(1, .int (0 : Int32)), (0, .ref (G.2.1 + 78))]) hx hb (dk DX11_well 24 rfl) rfl hl (by decide) rfl (fun ls hl => ?_)
    refine lv_iconst (v := (0 : Int32)) hx hb (dk DX11_well 25 rfl) (by decide) ?_
    refine lv_istore_n (lv' := [(2, .int (0 : Int32)), (1, .int (0 : Int32)), (0, .ref (G.2.1 + 78))]) hx hb (dk DX11_well 26 rfl) rfl hl (by decide) rfl (fun ls hl => ?_)
    have L41 : ∀ (nf : Nat) (xq4 : Int32) (xq5 : Int32) (mq3 : Mem) (H : Heap) (locs : List Loc) (ls : Array Slot), lv_has ls 5 [(0, .ref (G.2.1 + 78)), (1, .int xq4), (2, .int xq5)] → Rp G mr0 N0 mq3 s H locs → F_M_well_L41 nf xq4 xq5 mq3 = some (v, m') → W p l e (rmD 11) s mid args below meth c H locs 0 0 (MQ below (QR G mr0 N0 (some (.int v)) m') args s 0 0 (fun q => G.2.1 ≤ q)) (F0 mid 41 ls []) := by
      intro nf
      induction nf with
      | zero =>
        intro xq4 xq5 mq3 H locs ls hl hR hF
        rw [F_M_well_L41] at hF
        cases hF
      | succ nf ihq7 =>
        intro xq4 xq5 mq3 H locs ls hl hR hF
        rw [F_M_well_L41] at hF
        refine lv_iload_n hx hb (dk DX11_well 27 rfl) rfl (lv_at hl 2 rfl) ?_
        refine lv_aload_n hx hb (dk DX11_well 28 rfl) rfl (lv_at hl 0 rfl) ?_
        refine gX11_13 C hR ob78 rf78_1 (dk DX11_well 29 rfl) ?_
        refine lv_iconst (v := (5 : Int32)) hx hb (dk DX11_well 30 rfl) (by decide) ?_
        refine r_iald C hR ob79 rfl (dk DX11_well 31 rfl) ?_
        refine lv_icmp_ge (tgt := 117) hx hb (dk DX11_well 32 rfl) (by decide) (fun c48 => ?_) (fun c48 => ?_)
        · have hF := if_t c48 hF
          refine lv_iload_n hx hb (dk DX11_well 73 rfl) rfl (lv_at hl 1 rfl) ?_
          cases hF
          exact r_iret C hrt hR (dk DX11_well 74 rfl)
        · have hF := if_f c48 hF
          refine lv_aload_n hx hb (dk DX11_well 33 rfl) rfl (lv_at hl 0 rfl) ?_
          refine gX11_49 C hR ob78 rf78_25 (dk DX11_well 34 rfl) ?_
          refine lv_aload_n hx hb (dk DX11_well 35 rfl) rfl (lv_at hl 0 rfl) ?_
          refine lv_iload_n hx hb (dk DX11_well 36 rfl) rfl (lv_at hl 2 rfl) ?_
          refine lv_iconst (v := (0 : Int32)) hx hb (dk DX11_well 37 rfl) (by decide) ?_
          obtain ⟨xq10, mq8, hzq9, hF⟩ := bnd_ex hF
          refine r_callVi (As := [.int xq5, .int (0 : Int32)]) (rest := [.ref (G.2.1 + 89)]) C hR (C_M_ofBook l hl0 G xq5 (0 : Int32) mq3 _ _ hzq9) (by decide) (by decide) ob78 rfl wX11_446 rfl rfl (Nat.le_of_ble_eq_true rfl) hl.1 ⟨Nat.zero_le _, Nat.zero_le _⟩ (dk DX11_well 38 rfl) (fun H locs hR => ?_)
          obtain ⟨hq11, hF⟩ := ckB_ex hF
          refine r_lald C hR ob89 hq11 (dk DX11_well 39 rfl) ?_
          refine lv_topl (fun yq12 eyq12 => ?_)
          have hF := lt_at eyq12 hF
          refine lv_lstore_n (lv' := [(3, .long yq12), (0, .ref (G.2.1 + 78)), (1, .int xq4), (2, .int xq5)]) hx hb (dk DX11_well 40 rfl) rfl hl (by decide) rfl (fun ls hl => ?_)
          refine lv_iload_n hx hb (dk DX11_well 41 rfl) rfl (lv_at hl 2 rfl) ?_
          refine lv_lload_n hx hb (dk DX11_well 42 rfl) rfl (lv_at hl 0 rfl) ?_
          refine lv_lconst (v := (0 : Int64)) hx hb (dk DX11_well 43 rfl) (by decide) ?_
          obtain ⟨k109_14, ek109_14, hF⟩ := lt_ex hF
          have J109 : ∀ (zq14 : Bool) (mq13 : Mem) (H : Heap) (locs : List Loc) (ls : Array Slot), lv_has ls 5 [(0, .ref (G.2.1 + 78)), (2, .int xq5)] → Rp G mr0 N0 mq13 s H locs → k109_14 zq14 mq13 = some (v, m') → W p l e (rmD 11) s mid args below meth c H locs 0 0 (MQ below (QR G mr0 N0 (some (.int v)) m') args s 0 0 (fun q => G.2.1 ≤ q)) (F0 mid 109 ls [.int (b2i zq14), .int xq4]) := by
            intro zq14 mq13 H locs ls hl hR hF
            rw [ek109_14] at hF
            refine lv_iadd hx hb (dk DX11_well 69 rfl) ?_
            refine lv_topi (fun xq15 exq15 => ?_)
            have hF := lt_at exq15 hF
            refine lv_istore_n (lv' := [(1, .int xq15), (0, .ref (G.2.1 + 78)), (2, .int xq5)]) hx hb (dk DX11_well 70 rfl) rfl hl (by decide) rfl (fun ls hl => ?_)
            obtain ⟨xq16, exq16, hF⟩ := lt_ex hF
            refine lv_iinc (v := xq16) (lv' := [(2, .int xq16), (1, .int xq15), (0, .ref (G.2.1 + 78))]) hx hb (dk DX11_well 71 rfl) hl (k := 2) rfl (by rw [exq16]; rfl) (by decide) rfl (fun ls hl => ?_)
            refine lv_goto (tgt := 41) hx hb (dk DX11_well 72 rfl) (by decide) ?_
            exact ihq7 xq15 xq16 mq13 _ _ ls (lv_sub hl [2, 1, 0] rfl) hR hF
          obtain ⟨k104_17, ek104_17, hF⟩ := lt_ex hF
          have J104 : ∀ (mq17 : Mem) (H : Heap) (locs : List Loc) (ls : Array Slot), lv_has ls 5 [(0, .ref (G.2.1 + 78)), (2, .int xq5)] → Rp G mr0 N0 mq17 s H locs → k104_17  mq17 = some (v, m') → W p l e (rmD 11) s mid args below meth c H locs 0 0 (MQ below (QR G mr0 N0 (some (.int v)) m') args s 0 0 (fun q => G.2.1 ≤ q)) (F0 mid 104 ls [.int xq4]) := by
            intro  mq17 H locs ls hl hR hF
            rw [ek104_17] at hF
            refine lv_iconst (v := (1 : Int32)) hx hb (dk DX11_well 66 rfl) (by decide) ?_
            refine lv_goto (tgt := 109) hx hb (dk DX11_well 67 rfl) (by decide) ?_
            exact J109 true mq17 _ _ ls (lv_sub hl [0, 1] rfl) hR hF
          refine l_ifeq (tgt := 104) hx hb (dk DX11_well 44 rfl) (dk DX11_well 45 rfl) (by decide) (fun c66 => ?_) (fun c66 => ?_)
          · have hF := if_t c66 hF
            exact J104 mq8 _ _ ls (lv_sub hl [1, 3] rfl) hR hF
          · have hF := if_f c66 hF
            refine lv_lload_n hx hb (dk DX11_well 46 rfl) rfl (lv_at hl 0 rfl) ?_
            refine lv_lconst (v := (0 : Int64)) hx hb (dk DX11_well 47 rfl) (by decide) ?_
            obtain ⟨k81_19, ek81_19, hF⟩ := lt_ex hF
            have J81 : ∀ (zq19 : Bool) (mq18 : Mem) (H : Heap) (locs : List Loc) (ls : Array Slot), lv_has ls 5 [(0, .ref (G.2.1 + 78)), (2, .int xq5)] → Rp G mr0 N0 mq18 s H locs → k81_19 zq19 mq18 = some (v, m') → W p l e (rmD 11) s mid args below meth c H locs 0 0 (MQ below (QR G mr0 N0 (some (.int v)) m') args s 0 0 (fun q => G.2.1 ≤ q)) (F0 mid 81 ls [.int (b2i zq19), .int xq4]) := by
              intro zq19 mq18 H locs ls hl hR hF
              rw [ek81_19] at hF
              refine lv_aload_n hx hb (dk DX11_well 53 rfl) rfl (lv_at hl 0 rfl) ?_
              refine lv_iload_n hx hb (dk DX11_well 54 rfl) rfl (lv_at hl 1 rfl) ?_
              refine lv_iconst (v := (1 : Int32)) hx hb (dk DX11_well 55 rfl) (by decide) ?_
              obtain ⟨xq22, mq20, hzq21, hF⟩ := bnd_ex hF
              refine r_callVi (As := [.int xq5, .int (1 : Int32)]) (rest := [.int (b2i zq19), .int xq4]) C hR (C_M_ofBook l hl0 G xq5 (1 : Int32) mq18 _ _ hzq21) (by decide) (by decide) ob78 rfl wX11_446 rfl rfl (Nat.le_of_ble_eq_true rfl) hl.1 ⟨Nat.zero_le _, Nat.zero_le _⟩ (dk DX11_well 56 rfl) (fun H locs hR => ?_)
              refine lv_aload_n hx hb (dk DX11_well 57 rfl) rfl (lv_at hl 0 rfl) ?_
              refine lv_iload_n hx hb (dk DX11_well 58 rfl) rfl (lv_at hl 1 rfl) ?_
              refine lv_iconst (v := (0 : Int32)) hx hb (dk DX11_well 59 rfl) (by decide) ?_
              obtain ⟨xq25, mq23, hzq24, hF⟩ := bnd_ex hF
              refine r_callVi (As := [.int xq5, .int (0 : Int32)]) (rest := [.int xq22, .int (b2i zq19), .int xq4]) C hR (C_M_ofBook l hl0 G xq5 (0 : Int32) mq20 _ _ hzq24) (by decide) (by decide) ob78 rfl wX11_446 rfl rfl (Nat.le_of_ble_eq_true rfl) hl.1 ⟨Nat.zero_le _, Nat.zero_le _⟩ (dk DX11_well 60 rfl) (fun H locs hR => ?_)
              obtain ⟨k101_27, ek101_27, hF⟩ := lt_ex hF
              have J101 : ∀ (zq27 : Bool) (mq26 : Mem) (H : Heap) (locs : List Loc) (ls : Array Slot), lv_has ls 5 [(0, .ref (G.2.1 + 78)), (2, .int xq5)] → Rp G mr0 N0 mq26 s H locs → k101_27 zq27 mq26 = some (v, m') → W p l e (rmD 11) s mid args below meth c H locs 0 0 (MQ below (QR G mr0 N0 (some (.int v)) m') args s 0 0 (fun q => G.2.1 ≤ q)) (F0 mid 101 ls [.int (b2i zq27), .int (b2i zq19), .int xq4]) := by
                intro zq27 mq26 H locs ls hl hR hF
                rw [ek101_27] at hF
                refine lv_icmp_ne (tgt := 108) hx hb (dk DX11_well 65 rfl) (by decide) (fun c101 => ?_) (fun c101 => ?_)
                · have hF := if_f c101 hF
                  refine lv_iconst (v := (0 : Int32)) hx hb (dk DX11_well 68 rfl) (by decide) ?_
                  exact J109 false mq26 _ _ ls (lv_sub hl [0, 1] rfl) hR hF
                · have hF := if_t c101 hF
                  exact J104 mq26 _ _ ls (lv_sub hl [0, 1] rfl) hR hF
              refine lv_icmp_ne (tgt := 100) hx hb (dk DX11_well 61 rfl) (by decide) (fun c93 => ?_) (fun c93 => ?_)
              · have hF := if_f c93 hF
                refine lv_iconst (v := (0 : Int32)) hx hb (dk DX11_well 64 rfl) (by decide) ?_
                exact J101 false mq23 _ _ ls (lv_sub hl [0, 1] rfl) hR hF
              · have hF := if_t c93 hF
                refine lv_iconst (v := (1 : Int32)) hx hb (dk DX11_well 62 rfl) (by decide) ?_
                refine lv_goto (tgt := 101) hx hb (dk DX11_well 63 rfl) (by decide) ?_
                exact J101 true mq23 _ _ ls (lv_sub hl [0, 1] rfl) hR hF
            refine l_ifle (tgt := 80) hx hb (dk DX11_well 48 rfl) (dk DX11_well 49 rfl) (by decide) (fun c72 => ?_) (fun c72 => ?_)
            · have hF := if_t c72 hF
              refine lv_iconst (v := (0 : Int32)) hx hb (dk DX11_well 52 rfl) (by decide) ?_
              exact J81 false mq8 _ _ ls (lv_sub hl [1, 3] rfl) hR hF
            · have hF := if_f c72 hF
              refine lv_iconst (v := (1 : Int32)) hx hb (dk DX11_well 50 rfl) (by decide) ?_
              refine lv_goto (tgt := 81) hx hb (dk DX11_well 51 rfl) (by decide) ?_
              exact J81 true mq8 _ _ ls (lv_sub hl [1, 3] rfl) hR hF
    exact L41 1000000 (0 : Int32) (0 : Int32) mq2 _ _ ls (lv_sub hl [2, 1, 0] rfl) hR hF
  have L7 : ∀ (nf : Nat) (xq29 : Int32) (mq28 : Mem) (H : Heap) (locs : List Loc) (ls : Array Slot), lv_has ls 5 [(0, .ref (G.2.1 + 78)), (1, .int xq29)] → Rp G mr0 N0 mq28 s H locs → F_M_well_L7 k37_2 nf xq29 mq28 = some (v, m') → W p l e (rmD 11) s mid args below meth c H locs 0 0 (MQ below (QR G mr0 N0 (some (.int v)) m') args s 0 0 (fun q => G.2.1 ≤ q)) (F0 mid 7 ls []) := by
    intro nf
    induction nf with
    | zero =>
      intro xq29 mq28 H locs ls hl hR hF
      rw [F_M_well_L7] at hF
      cases hF
    | succ nf ihq31 =>
      intro xq29 mq28 H locs ls hl hR hF
      rw [F_M_well_L7] at hF
      refine lv_iload_n hx hb (dk DX11_well 5 rfl) rfl (lv_at hl 1 rfl) ?_
      refine lv_iconst (v := (2 : Int32)) hx hb (dk DX11_well 6 rfl) (by decide) ?_
      refine lv_icmp_ge (tgt := 37) hx hb (dk DX11_well 7 rfl) (by decide) (fun c9 => ?_) (fun c9 => ?_)
      · have hF := if_t c9 hF
        exact J37 mq28 _ _ ls (lv_sub hl [0] rfl) hR hF
      · have hF := if_f c9 hF
        refine lv_aload_n hx hb (dk DX11_well 8 rfl) rfl (lv_at hl 0 rfl) ?_
        refine gX11_49 C hR ob78 rf78_25 (dk DX11_well 9 rfl) ?_
        refine lv_iload_n hx hb (dk DX11_well 10 rfl) rfl (lv_at hl 1 rfl) ?_
        refine lv_aload_n hx hb (dk DX11_well 11 rfl) rfl (lv_at hl 0 rfl) ?_
        refine lv_iload_n hx hb (dk DX11_well 12 rfl) rfl (lv_at hl 1 rfl) ?_
        refine lv_iconst (v := (1 : Int32)) hx hb (dk DX11_well 13 rfl) (by decide) ?_
        obtain ⟨yq34, mq32, hzq33, hF⟩ := bnd_ex hF
        refine r_callVl (As := [.int xq29, .int (b2i true)]) (rest := [.int xq29, .ref (G.2.1 + 89)]) C hR (C_M_tossWorth l hl0 G xq29 true mq28 _ _ hzq33) (by decide) (by decide) ob78 rfl wX11_430 rfl rfl (Nat.le_of_ble_eq_true rfl) hl.1 ⟨Nat.zero_le _, Nat.zero_le _⟩ (dk DX11_well 14 rfl) (fun H locs hR => ?_)
        refine lv_aload_n hx hb (dk DX11_well 15 rfl) rfl (lv_at hl 0 rfl) ?_
        refine lv_iload_n hx hb (dk DX11_well 16 rfl) rfl (lv_at hl 1 rfl) ?_
        refine lv_iconst (v := (0 : Int32)) hx hb (dk DX11_well 17 rfl) (by decide) ?_
        obtain ⟨yq37, mq35, hzq36, hF⟩ := bnd_ex hF
        refine r_callVl (As := [.int xq29, .int (b2i false)]) (rest := [.long yq34, .int xq29, .ref (G.2.1 + 89)]) C hR (C_M_tossWorth l hl0 G xq29 false mq32 _ _ hzq36) (by decide) (by decide) ob78 rfl wX11_430 rfl rfl (Nat.le_of_ble_eq_true rfl) hl.1 ⟨Nat.zero_le _, Nat.zero_le _⟩ (dk DX11_well 18 rfl) (fun H locs hR => ?_)
        refine lv_lsub hx hb (dk DX11_well 19 rfl) ?_
        obtain ⟨hq39, hF⟩ := ckB_ex hF
        refine r_last C hR ob89 hq39 (dk DX11_well 20 rfl) (fun H locs hR => ?_)
        obtain ⟨mq38, emq38, hF⟩ := lt_ex hF
        have hR := Rp_at emq38 hR
        obtain ⟨xq40, exq40, hF⟩ := lt_ex hF
        refine lv_iinc (v := xq40) (lv' := [(1, .int xq40), (0, .ref (G.2.1 + 78))]) hx hb (dk DX11_well 21 rfl) hl (k := 1) rfl (by rw [exq40]; rfl) (by decide) rfl (fun ls hl => ?_)
        refine lv_goto (tgt := 7) hx hb (dk DX11_well 22 rfl) (by decide) ?_
        exact ihq31 xq40 mq38 _ _ ls (lv_sub hl [1, 0] rfl) hR hF
  exact L7 1000000 (0 : Int32) mq1 _ _ ls (lv_sub hl [1, 0] rfl) hR hF
set_option maxHeartbeats 4000000 in
set_option maxRecDepth 100000 in
theorem C_M_when (l : Launch) (hl0 : l.stackTraces = false) (G : GG) (a1 : Int32) (a2 : Int32) (m0 : Mem) (v : Int32) (m' : Mem) (hF : F_M_when a1 a2 m0 = some (v, m')) : Ct l G mr0 N0 yX11_when cX11_when 4 (some .int) 11 [.ref (G.2.1 + 78), .int a1, .int a2] m0 (some (.int v)) m' := by
  refine Ct_of hl0 (by decide) (Nat.le_of_ble_eq_true rfl) ?_
  intro p e s mid args below meth c ls C hrt hl hR
  have hx := C.1.1
  have hb := C.1.2.1
  have hl : lv_has ls 4 [(0, .ref (G.2.1 + 78)), (1, .int a1), (2, .int a2)] := hl
  unfold F_M_when at hF
  refine lv_aload_n hx hb (dk DX11_when 0 rfl) rfl (lv_at hl 0 rfl) ?_
  refine lv_iconst (v := (0 : Int32)) hx hb (dk DX11_when 1 rfl) (by decide) ?_
  refine pX11_3 (x := (0 : Int32)) C hR ob78 (dk DX11_when 2 rfl) (fun H locs hR => ?_)
  obtain ⟨mq1, emq1, hF⟩ := lt_ex hF
  have hR := Rp_at emq1 hR
  refine lv_aload_n hx hb (dk DX11_when 3 rfl) rfl (lv_at hl 0 rfl) ?_
  refine lv_aload_n hx hb (dk DX11_when 4 rfl) rfl (lv_at hl 0 rfl) ?_
  refine lv_iload_n hx hb (dk DX11_when 5 rfl) rfl (lv_at hl 1 rfl) ?_
  obtain ⟨zq4, mq2, hzq3, hF⟩ := bnd_ex hF
  refine r_callVi (As := [.int a1]) (rest := [.ref (G.2.1 + 78)]) C hR (C_M_noPlayed l hl0 G a1 mq1 _ _ hzq3) (by decide) (by decide) ob78 rfl wX11_452 rfl rfl (Nat.le_of_ble_eq_true rfl) hl.1 ⟨Nat.zero_le _, Nat.zero_le _⟩ (dk DX11_when 6 rfl) (fun H locs hR => ?_)
  refine lv_iconst (v := (1 : Int32)) hx hb (dk DX11_when 7 rfl) (by decide) ?_
  obtain ⟨zq7, mq5, hzq6, hF⟩ := bnd_ex hF
  refine r_callVi (As := [.int (b2i zq4), .int (1 : Int32)]) (rest := []) C hR (C_M_throwsIf l hl0 G zq4 (1 : Int32) mq2 _ _ hzq6) (by decide) (by decide) ob78 rfl wX11_227 rfl rfl (Nat.le_of_ble_eq_true rfl) hl.1 ⟨Nat.zero_le _, Nat.zero_le _⟩ (dk DX11_when 8 rfl) (fun H locs hR => ?_)
  refine z_ifne (tgt := 32) hx hb (dk DX11_when 9 rfl) (by decide) (fun c15 => ?_) (fun c15 => ?_)
  · have hF := if_t c15 hF
    refine lv_iconst (v := (0 : Int32)) hx hb (dk DX11_when 18 rfl) (by decide) ?_
    cases hF
    exact r_iret C hrt hR (dk DX11_when 19 rfl)
  · have hF := if_f c15 hF
    refine lv_aload_n hx hb (dk DX11_when 10 rfl) rfl (lv_at hl 0 rfl) ?_
    refine lv_aload_n hx hb (dk DX11_when 11 rfl) rfl (lv_at hl 0 rfl) ?_
    refine lv_iconst (v := (0 : Int32)) hx hb (dk DX11_when 12 rfl) (by decide) ?_
    refine lv_iload_n hx hb (dk DX11_when 13 rfl) rfl (lv_at hl 2 rfl) ?_
    obtain ⟨zq10, mq8, hzq9, hF⟩ := bnd_ex hF
    refine r_callVi (As := [.int (0 : Int32), .int a2]) (rest := [.ref (G.2.1 + 78)]) C hR (C_M_noState l hl0 G (0 : Int32) a2 mq5 _ _ hzq9) (by decide) (by decide) ob78 rfl wX11_455 rfl rfl (Nat.le_of_ble_eq_true rfl) hl.1 ⟨Nat.zero_le _, Nat.zero_le _⟩ (dk DX11_when 14 rfl) (fun H locs hR => ?_)
    refine lv_iconst (v := (2 : Int32)) hx hb (dk DX11_when 15 rfl) (by decide) ?_
    obtain ⟨zq13, mq11, hzq12, hF⟩ := bnd_ex hF
    refine r_callVi (As := [.int (b2i zq10), .int (2 : Int32)]) (rest := []) C hR (C_M_throwsIf l hl0 G zq10 (2 : Int32) mq8 _ _ hzq12) (by decide) (by decide) ob78 rfl wX11_227 rfl rfl (Nat.le_of_ble_eq_true rfl) hl.1 ⟨Nat.zero_le _, Nat.zero_le _⟩ (dk DX11_when 16 rfl) (fun H locs hR => ?_)
    refine z_ifeq (tgt := 34) hx hb (dk DX11_when 17 rfl) (by decide) (fun c29 => ?_) (fun c29 => ?_)
    · have hF := if_f c29 hF
      refine lv_iload_n hx hb (dk DX11_when 20 rfl) rfl (lv_at hl 1 rfl) ?_
      refine lv_aload_n hx hb (dk DX11_when 21 rfl) rfl (lv_at hl 0 rfl) ?_
      obtain ⟨xq16, mq14, hzq15, hF⟩ := bnd_ex hF
      refine r_callVi (As := []) (rest := [.int a1]) C hR (C_M_size l hl0 G mq11 _ _ hzq15) (by decide) (by decide) ob78 rfl wX11_63 rfl rfl (Nat.le_of_ble_eq_true rfl) hl.1 ⟨Nat.zero_le _, Nat.zero_le _⟩ (dk DX11_when 22 rfl) (fun H locs hR => ?_)
      refine lv_icmp_ne (tgt := 45) hx hb (dk DX11_when 23 rfl) (by decide) (fun c39 => ?_) (fun c39 => ?_)
      · have hF := if_f c39 hF
        refine lv_aload_n hx hb (dk DX11_when 26 rfl) rfl (lv_at hl 0 rfl) ?_
        refine lv_iload_n hx hb (dk DX11_when 27 rfl) rfl (lv_at hl 1 rfl) ?_
        refine lv_bipush (v := (81 : Int32)) hx hb (dk DX11_when 28 rfl) (by decide) ?_
        obtain ⟨uq19, mq17, hzq18, hF⟩ := bnd_ex hF
        refine r_callVv (As := [.int a1, .int (81 : Int32)]) (rest := []) C hR (C_M_countsFrom l hl0 G a1 (81 : Int32) mq14 _ _ hzq18) (by decide) (by decide) ob78 rfl wX11_458 rfl rfl (Nat.le_of_ble_eq_true rfl) hl.1 ⟨Nat.zero_le _, Nat.zero_le _⟩ (dk DX11_when 29 rfl) (fun H locs hR => ?_)
        refine lv_bipush (v := (-81 : Int32)) hx hb (dk DX11_when 30 rfl) (by decide) ?_
        refine lv_istore_n (lv' := [(3, .int (-81 : Int32)), (0, .ref (G.2.1 + 78)), (1, .int a1), (2, .int a2)]) hx hb (dk DX11_when 31 rfl) rfl hl (by decide) rfl (fun ls hl => ?_)
        obtain ⟨k78_21, ek78_21, hF⟩ := lt_ex hF
        have J78 : ∀ (xq21 : Int32) (mq20 : Mem) (H : Heap) (locs : List Loc) (ls : Array Slot), lv_has ls 4 [(3, .int xq21)] → Rp G mr0 N0 mq20 s H locs → k78_21 xq21 mq20 = some (v, m') → W p l e (rmD 11) s mid args below meth c H locs 0 0 (MQ below (QR G mr0 N0 (some (.int v)) m') args s 0 0 (fun q => G.2.1 ≤ q)) (F0 mid 78 ls []) := by
          intro xq21 mq20 H locs ls hl hR hF
          rw [ek78_21] at hF
          refine lv_iload_n hx hb (dk DX11_when 44 rfl) rfl (lv_at hl 0 rfl) ?_
          refine lv_bipush (v := (81 : Int32)) hx hb (dk DX11_when 45 rfl) (by decide) ?_
          refine lv_icmp_le (tgt := 89) hx hb (dk DX11_when 46 rfl) (by decide) (fun c81 => ?_) (fun c81 => ?_)
          · have hF := if_t c81 hF
            refine lv_iload_n hx hb (dk DX11_when 49 rfl) rfl (lv_at hl 0 rfl) ?_
            cases hF
            exact r_iret C hrt hR (dk DX11_when 50 rfl)
          · have hF := if_f c81 hF
            refine lv_bipush (v := (-99 : Int32)) hx hb (dk DX11_when 47 rfl) (by decide) ?_
            refine lv_goto (tgt := 90) hx hb (dk DX11_when 48 rfl) (by decide) ?_
            cases hF
            exact r_iret C hrt hR (dk DX11_when 50 rfl)
        have L55 : ∀ (nf : Nat) (xq23 : Int32) (mq22 : Mem) (H : Heap) (locs : List Loc) (ls : Array Slot), lv_has ls 4 [(0, .ref (G.2.1 + 78)), (1, .int a1), (2, .int a2), (3, .int xq23)] → Rp G mr0 N0 mq22 s H locs → F_M_when_L55 a1 a2 k78_21 nf xq23 mq22 = some (v, m') → W p l e (rmD 11) s mid args below meth c H locs 0 0 (MQ below (QR G mr0 N0 (some (.int v)) m') args s 0 0 (fun q => G.2.1 ≤ q)) (F0 mid 55 ls []) := by
          intro nf
          induction nf with
          | zero =>
            intro xq23 mq22 H locs ls hl hR hF
            rw [F_M_when_L55] at hF
            cases hF
          | succ nf ihq25 =>
            intro xq23 mq22 H locs ls hl hR hF
            rw [F_M_when_L55] at hF
            refine lv_iload_n hx hb (dk DX11_when 32 rfl) rfl (lv_at hl 3 rfl) ?_
            refine lv_bipush (v := (81 : Int32)) hx hb (dk DX11_when 33 rfl) (by decide) ?_
            refine lv_icmp_gt (tgt := 78) hx hb (dk DX11_when 34 rfl) (by decide) (fun c58 => ?_) (fun c58 => ?_)
            · have hF := if_t c58 hF
              exact J78 xq23 mq22 _ _ ls (lv_sub hl [3] rfl) hR hF
            · have hF := if_f c58 hF
              refine lv_aload_n hx hb (dk DX11_when 35 rfl) rfl (lv_at hl 0 rfl) ?_
              refine lv_iload_n hx hb (dk DX11_when 36 rfl) rfl (lv_at hl 1 rfl) ?_
              refine lv_iconst (v := (2 : Int32)) hx hb (dk DX11_when 37 rfl) (by decide) ?_
              refine lv_iload_n hx hb (dk DX11_when 38 rfl) rfl (lv_at hl 2 rfl) ?_
              refine lv_iload_n hx hb (dk DX11_when 39 rfl) rfl (lv_at hl 3 rfl) ?_
              obtain ⟨zq28, mq26, hzq27, hF⟩ := bnd_ex hF
              refine r_callVi (As := [.int a1, .int (2 : Int32), .int a2, .int xq23]) (rest := []) C hR (C_M_isChosen l hl0 G a1 (2 : Int32) a2 xq23 mq22 _ _ hzq27) (by decide) (by decide) ob78 rfl wX11_461 rfl rfl (Nat.le_of_ble_eq_true rfl) hl.1 ⟨Nat.zero_le _, Nat.zero_le _⟩ (dk DX11_when 40 rfl) (fun H locs hR => ?_)
              refine z_ifne (tgt := 78) hx hb (dk DX11_when 41 rfl) (by decide) (fun c69 => ?_) (fun c69 => ?_)
              · have hF := if_t c69 hF
                exact J78 xq23 mq26 _ _ ls (lv_sub hl [3] rfl) hR hF
              · have hF := if_f c69 hF
                obtain ⟨xq29, exq29, hF⟩ := lt_ex hF
                refine lv_iinc (v := xq29) (lv' := [(3, .int xq29), (0, .ref (G.2.1 + 78)), (1, .int a1), (2, .int a2)]) hx hb (dk DX11_when 42 rfl) hl (k := 3) rfl (by rw [exq29]; rfl) (by decide) rfl (fun ls hl => ?_)
                refine lv_goto (tgt := 55) hx hb (dk DX11_when 43 rfl) (by decide) ?_
                exact ihq25 xq29 mq26 _ _ ls (lv_sub hl [1, 2, 3, 0] rfl) hR hF
        exact L55 1000000 (-81 : Int32) mq17 _ _ ls (lv_sub hl [1, 2, 3, 0] rfl) hR hF
      · have hF := if_t c39 hF
        refine lv_bipush (v := (-99 : Int32)) hx hb (dk DX11_when 24 rfl) (by decide) ?_
        cases hF
        exact r_iret C hrt hR (dk DX11_when 25 rfl)
    · have hF := if_t c29 hF
      refine lv_iconst (v := (0 : Int32)) hx hb (dk DX11_when 18 rfl) (by decide) ?_
      cases hF
      exact r_iret C hrt hR (dk DX11_when 19 rfl)
set_option maxHeartbeats 4000000 in
set_option maxRecDepth 100000 in
theorem C_M_wins (l : Launch) (hl0 : l.stackTraces = false) (G : GG) (a1 : Int32) (a2 : Int32) (a3 : Bool) (a4 : Int32) (a5 : Int32) (a6 : Int32) (m0 : Mem) (v : Int64) (m' : Mem) (hF : F_M_wins a1 a2 a3 a4 a5 a6 m0 = some (v, m')) : Ct l G mr0 N0 yX11_wins cX11_wins 7 (some .long) 11 [.ref (G.2.1 + 78), .int a1, .int a2, .int (b2i a3), .int a4, .int a5, .int a6] m0 (some (.long v)) m' := by
  refine Ct_of hl0 (by decide) (Nat.le_of_ble_eq_true rfl) ?_
  intro p e s mid args below meth c ls C hrt hl hR
  have hx := C.1.1
  have hb := C.1.2.1
  have hl : lv_has ls 7 [(0, .ref (G.2.1 + 78)), (1, .int a1), (2, .int a2), (3, .int (b2i a3)), (4, .int a4), (5, .int a5), (6, .int a6)] := hl
  unfold F_M_wins at hF
  refine lv_aload_n hx hb (dk DX11_wins 0 rfl) rfl (lv_at hl 0 rfl) ?_
  refine lv_iconst (v := (0 : Int32)) hx hb (dk DX11_wins 1 rfl) (by decide) ?_
  refine pX11_3 (x := (0 : Int32)) C hR ob78 (dk DX11_wins 2 rfl) (fun H locs hR => ?_)
  obtain ⟨mq1, emq1, hF⟩ := lt_ex hF
  have hR := Rp_at emq1 hR
  refine lv_aload_n hx hb (dk DX11_wins 3 rfl) rfl (lv_at hl 0 rfl) ?_
  refine lv_aload_n hx hb (dk DX11_wins 4 rfl) rfl (lv_at hl 0 rfl) ?_
  refine lv_iload_n hx hb (dk DX11_wins 5 rfl) rfl (lv_at hl 1 rfl) ?_
  obtain ⟨zq4, mq2, hzq3, hF⟩ := bnd_ex hF
  refine r_callVi (As := [.int a1]) (rest := [.ref (G.2.1 + 78)]) C hR (C_M_noPlayed l hl0 G a1 mq1 _ _ hzq3) (by decide) (by decide) ob78 rfl wX11_452 rfl rfl (Nat.le_of_ble_eq_true rfl) hl.1 ⟨Nat.zero_le _, Nat.zero_le _⟩ (dk DX11_wins 6 rfl) (fun H locs hR => ?_)
  obtain ⟨k26_6, ek26_6, hF⟩ := lt_ex hF
  have J26 : ∀ (zq6 : Bool) (mq5 : Mem) (H : Heap) (locs : List Loc) (ls : Array Slot), lv_has ls 7 [(0, .ref (G.2.1 + 78)), (1, .int a1), (2, .int a2), (3, .int (b2i a3)), (4, .int a4), (5, .int a5), (6, .int a6)] → Rp G mr0 N0 mq5 s H locs → k26_6 zq6 mq5 = some (v, m') → W p l e (rmD 11) s mid args below meth c H locs 0 0 (MQ below (QR G mr0 N0 (some (.long v)) m') args s 0 0 (fun q => G.2.1 ≤ q)) (F0 mid 26 ls [.int (b2i zq6), .ref (G.2.1 + 78)]) := by
    intro zq6 mq5 H locs ls hl hR hF
    rw [ek26_6] at hF
    refine lv_iconst (v := (1 : Int32)) hx hb (dk DX11_wins 14 rfl) (by decide) ?_
    obtain ⟨zq9, mq7, hzq8, hF⟩ := bnd_ex hF
    refine r_callVi (As := [.int (b2i zq6), .int (1 : Int32)]) (rest := []) C hR (C_M_throwsIf l hl0 G zq6 (1 : Int32) mq5 _ _ hzq8) (by decide) (by decide) ob78 rfl wX11_227 rfl rfl (Nat.le_of_ble_eq_true rfl) hl.1 ⟨Nat.zero_le _, Nat.zero_le _⟩ (dk DX11_wins 15 rfl) (fun H locs hR => ?_)
    refine z_ifne (tgt := 72) hx hb (dk DX11_wins 16 rfl) (by decide) (fun c30 => ?_) (fun c30 => ?_)
    · have hF := if_t c30 hF
      refine lv_lconst (v := (0 : Int64)) hx hb (dk DX11_wins 37 rfl) (by decide) ?_
      cases hF
      exact r_lret C hrt hR (dk DX11_wins 38 rfl)
    · have hF := if_f c30 hF
      refine lv_aload_n hx hb (dk DX11_wins 17 rfl) rfl (lv_at hl 0 rfl) ?_
      refine lv_aload_n hx hb (dk DX11_wins 18 rfl) rfl (lv_at hl 0 rfl) ?_
      refine lv_iload hx hb (dk DX11_wins 19 rfl) (lv_at hl 4 rfl) ?_
      refine lv_iload hx hb (dk DX11_wins 20 rfl) (lv_at hl 5 rfl) ?_
      obtain ⟨zq12, mq10, hzq11, hF⟩ := bnd_ex hF
      refine r_callVi (As := [.int a4, .int a5]) (rest := [.ref (G.2.1 + 78)]) C hR (C_M_noState l hl0 G a4 a5 mq7 _ _ hzq11) (by decide) (by decide) ob78 rfl wX11_455 rfl rfl (Nat.le_of_ble_eq_true rfl) hl.1 ⟨Nat.zero_le _, Nat.zero_le _⟩ (dk DX11_wins 21 rfl) (fun H locs hR => ?_)
      refine lv_iconst (v := (2 : Int32)) hx hb (dk DX11_wins 22 rfl) (by decide) ?_
      obtain ⟨zq15, mq13, hzq14, hF⟩ := bnd_ex hF
      refine r_callVi (As := [.int (b2i zq12), .int (2 : Int32)]) (rest := []) C hR (C_M_throwsIf l hl0 G zq12 (2 : Int32) mq10 _ _ hzq14) (by decide) (by decide) ob78 rfl wX11_227 rfl rfl (Nat.le_of_ble_eq_true rfl) hl.1 ⟨Nat.zero_le _, Nat.zero_le _⟩ (dk DX11_wins 23 rfl) (fun H locs hR => ?_)
      refine z_ifne (tgt := 72) hx hb (dk DX11_wins 24 rfl) (by decide) (fun c46 => ?_) (fun c46 => ?_)
      · have hF := if_t c46 hF
        refine lv_lconst (v := (0 : Int64)) hx hb (dk DX11_wins 37 rfl) (by decide) ?_
        cases hF
        exact r_lret C hrt hR (dk DX11_wins 38 rfl)
      · have hF := if_f c46 hF
        refine lv_aload_n hx hb (dk DX11_wins 25 rfl) rfl (lv_at hl 0 rfl) ?_
        refine lv_iload hx hb (dk DX11_wins 26 rfl) (lv_at hl 6 rfl) ?_
        refine lv_iconst (v := (0 : Int32)) hx hb (dk DX11_wins 27 rfl) (by decide) ?_
        refine lv_iconst (v := (2 : Int32)) hx hb (dk DX11_wins 28 rfl) (by decide) ?_
        obtain ⟨zq18, mq16, hzq17, hF⟩ := bnd_ex hF
        refine r_callSi (As := [.int a6, .int (0 : Int32), .int (2 : Int32)]) (rest := [.ref (G.2.1 + 78)]) C hR (C_M_in l hl0 G a6 (0 : Int32) (2 : Int32) mq13 _ _ hzq17) (by decide) (by decide) wX11_67 rfl rfl (Nat.le_of_ble_eq_true rfl) hl.1 ⟨Nat.zero_le _, Nat.zero_le _⟩ (dk DX11_wins 29 rfl) (fun H locs hR => ?_)
        obtain ⟨k65_20, ek65_20, hF⟩ := lt_ex hF
        have J65 : ∀ (zq20 : Bool) (mq19 : Mem) (H : Heap) (locs : List Loc) (ls : Array Slot), lv_has ls 7 [(0, .ref (G.2.1 + 78)), (1, .int a1), (2, .int a2), (3, .int (b2i a3)), (4, .int a4), (5, .int a5), (6, .int a6)] → Rp G mr0 N0 mq19 s H locs → k65_20 zq20 mq19 = some (v, m') → W p l e (rmD 11) s mid args below meth c H locs 0 0 (MQ below (QR G mr0 N0 (some (.long v)) m') args s 0 0 (fun q => G.2.1 ≤ q)) (F0 mid 65 ls [.int (b2i zq20), .ref (G.2.1 + 78)]) := by
          intro zq20 mq19 H locs ls hl hR hF
          rw [ek65_20] at hF
          refine lv_iconst (v := (3 : Int32)) hx hb (dk DX11_wins 34 rfl) (by decide) ?_
          obtain ⟨zq23, mq21, hzq22, hF⟩ := bnd_ex hF
          refine r_callVi (As := [.int (b2i zq20), .int (3 : Int32)]) (rest := []) C hR (C_M_throwsIf l hl0 G zq20 (3 : Int32) mq19 _ _ hzq22) (by decide) (by decide) ob78 rfl wX11_227 rfl rfl (Nat.le_of_ble_eq_true rfl) hl.1 ⟨Nat.zero_le _, Nat.zero_le _⟩ (dk DX11_wins 35 rfl) (fun H locs hR => ?_)
          refine z_ifeq (tgt := 74) hx hb (dk DX11_wins 36 rfl) (by decide) (fun c69 => ?_) (fun c69 => ?_)
          · have hF := if_f c69 hF
            refine lv_aload_n hx hb (dk DX11_wins 39 rfl) rfl (lv_at hl 0 rfl) ?_
            refine lv_iload_n hx hb (dk DX11_wins 40 rfl) rfl (lv_at hl 1 rfl) ?_
            refine lv_iload hx hb (dk DX11_wins 41 rfl) (lv_at hl 4 rfl) ?_
            obtain ⟨uq26, mq24, hzq25, hF⟩ := bnd_ex hF
            refine r_callVv (As := [.int a1, .int a4]) (rest := []) C hR (C_M_countsFrom l hl0 G a1 a4 mq21 _ _ hzq25) (by decide) (by decide) ob78 rfl wX11_458 rfl rfl (Nat.le_of_ble_eq_true rfl) hl.1 ⟨Nat.zero_le _, Nat.zero_le _⟩ (dk DX11_wins 42 rfl) (fun H locs hR => ?_)
            refine lv_aload_n hx hb (dk DX11_wins 43 rfl) rfl (lv_at hl 0 rfl) ?_
            refine lv_iconst (v := (0 : Int32)) hx hb (dk DX11_wins 44 rfl) (by decide) ?_
            refine pX11_340 (x := (0 : Int32)) C hR ob78 (dk DX11_wins 45 rfl) (fun H locs hR => ?_)
            obtain ⟨mq27, emq27, hF⟩ := lt_ex hF
            have hR := Rp_at emq27 hR
            refine lv_aload_n hx hb (dk DX11_wins 46 rfl) rfl (lv_at hl 0 rfl) ?_
            refine lv_iconst (v := (0 : Int32)) hx hb (dk DX11_wins 47 rfl) (by decide) ?_
            refine pX11_343 (x := (0 : Int32)) C hR ob78 (dk DX11_wins 48 rfl) (fun H locs hR => ?_)
            obtain ⟨mq28, emq28, hF⟩ := lt_ex hF
            have hR := Rp_at emq28 hR
            refine lv_iload_n hx hb (dk DX11_wins 49 rfl) rfl (lv_at hl 1 rfl) ?_
            refine lv_aload_n hx hb (dk DX11_wins 50 rfl) rfl (lv_at hl 0 rfl) ?_
            obtain ⟨xq31, mq29, hzq30, hF⟩ := bnd_ex hF
            refine r_callVi (As := []) (rest := [.int a1]) C hR (C_M_size l hl0 G mq28 _ _ hzq30) (by decide) (by decide) ob78 rfl wX11_63 rfl rfl (Nat.le_of_ble_eq_true rfl) hl.1 ⟨Nat.zero_le _, Nat.zero_le _⟩ (dk DX11_wins 51 rfl) (fun H locs hR => ?_)
            obtain ⟨k113_32, ek113_32, hF⟩ := lt_ex hF
            have J113 : ∀ (mq32 : Mem) (H : Heap) (locs : List Loc) (ls : Array Slot), lv_has ls 7 [(0, .ref (G.2.1 + 78)), (1, .int a1), (6, .int a6)] → Rp G mr0 N0 mq32 s H locs → k113_32  mq32 = some (v, m') → W p l e (rmD 11) s mid args below meth c H locs 0 0 (MQ below (QR G mr0 N0 (some (.long v)) m') args s 0 0 (fun q => G.2.1 ≤ q)) (F0 mid 113 ls []) := by
              intro  mq32 H locs ls hl hR hF
              rw [ek113_32] at hF
              refine lv_aload_n hx hb (dk DX11_wins 61 rfl) rfl (lv_at hl 0 rfl) ?_
              refine lv_iload hx hb (dk DX11_wins 62 rfl) (lv_at hl 2 rfl) ?_
              refine lv_iload_n hx hb (dk DX11_wins 63 rfl) rfl (lv_at hl 1 rfl) ?_
              refine lv_iconst (v := (0 : Int32)) hx hb (dk DX11_wins 64 rfl) (by decide) ?_
              obtain ⟨yq35, mq33, hzq34, hF⟩ := bnd_ex hF
              refine r_callVl (As := [.int a6, .int a1, .int (0 : Int32)]) (rest := []) C hR (C_M_waysOf l hl0 G a6 a1 (0 : Int32) mq32 _ _ hzq34) (by decide) (by decide) ob78 rfl wX11_427 rfl rfl (Nat.le_of_ble_eq_true rfl) hl.1 ⟨Nat.zero_le _, Nat.zero_le _⟩ (dk DX11_wins 65 rfl) (fun H locs hR => ?_)
              cases hF
              exact r_lret C hrt hR (dk DX11_wins 66 rfl)
            refine lv_icmp_ge (tgt := 113) hx hb (dk DX11_wins 52 rfl) (by decide) (fun c96 => ?_) (fun c96 => ?_)
            · have hF := if_t c96 hF
              exact J113 mq29 _ _ ls (lv_sub hl [0, 1, 6] rfl) hR hF
            · have hF := if_f c96 hF
              refine lv_aload_n hx hb (dk DX11_wins 53 rfl) rfl (lv_at hl 0 rfl) ?_
              refine lv_iload_n hx hb (dk DX11_wins 54 rfl) rfl (lv_at hl 1 rfl) ?_
              refine lv_iload_n hx hb (dk DX11_wins 55 rfl) rfl (lv_at hl 2 rfl) ?_
              refine lv_iload_n hx hb (dk DX11_wins 56 rfl) rfl (lv_at hl 3 rfl) ?_
              obtain ⟨xq38, mq36, hzq37, hF⟩ := bnd_ex hF
              refine r_callSi (As := [.int a2, .int (b2i a3)]) (rest := [.int a1, .ref (G.2.1 + 78)]) C hR (C_M_kindOf l hl0 G a2 a3 mq29 _ _ hzq37) (by decide) (by decide) wX11_406 rfl rfl (Nat.le_of_ble_eq_true rfl) hl.1 ⟨Nat.zero_le _, Nat.zero_le _⟩ (dk DX11_wins 57 rfl) (fun H locs hR => ?_)
              refine lv_iload hx hb (dk DX11_wins 58 rfl) (lv_at hl 5 rfl) ?_
              refine lv_iload hx hb (dk DX11_wins 59 rfl) (lv_at hl 4 rfl) ?_
              obtain ⟨uq41, mq39, hzq40, hF⟩ := bnd_ex hF
              refine r_callVv (As := [.int a1, .int xq38, .int a5, .int a4]) (rest := []) C hR (C_M_takes l hl0 G a1 xq38 a5 a4 mq36 _ _ hzq40) (by decide) (by decide) ob78 rfl wX11_421 rfl rfl (Nat.le_of_ble_eq_true rfl) hl.1 ⟨Nat.zero_le _, Nat.zero_le _⟩ (dk DX11_wins 60 rfl) (fun H locs hR => ?_)
              exact J113 mq39 _ _ ls (lv_sub hl [0, 1, 6] rfl) hR hF
          · have hF := if_t c69 hF
            refine lv_lconst (v := (0 : Int64)) hx hb (dk DX11_wins 37 rfl) (by decide) ?_
            cases hF
            exact r_lret C hrt hR (dk DX11_wins 38 rfl)
        refine z_ifne (tgt := 64) hx hb (dk DX11_wins 30 rfl) (by decide) (fun c57 => ?_) (fun c57 => ?_)
        · have hF := if_t c57 hF
          refine lv_iconst (v := (0 : Int32)) hx hb (dk DX11_wins 33 rfl) (by decide) ?_
          exact J65 false mq16 _ _ ls (lv_sub hl [0, 1, 2, 3, 4, 5, 6] rfl) hR hF
        · have hF := if_f c57 hF
          refine lv_iconst (v := (1 : Int32)) hx hb (dk DX11_wins 31 rfl) (by decide) ?_
          refine lv_goto (tgt := 65) hx hb (dk DX11_wins 32 rfl) (by decide) ?_
          exact J65 true mq16 _ _ ls (lv_sub hl [0, 1, 2, 3, 4, 5, 6] rfl) hR hF
  obtain ⟨k21_42, ek21_42, hF⟩ := lt_ex hF
  have J21 : ∀ (mq42 : Mem) (H : Heap) (locs : List Loc) (ls : Array Slot), lv_has ls 7 [(0, .ref (G.2.1 + 78)), (1, .int a1), (2, .int a2), (3, .int (b2i a3)), (4, .int a4), (5, .int a5), (6, .int a6)] → Rp G mr0 N0 mq42 s H locs → k21_42  mq42 = some (v, m') → W p l e (rmD 11) s mid args below meth c H locs 0 0 (MQ below (QR G mr0 N0 (some (.long v)) m') args s 0 0 (fun q => G.2.1 ≤ q)) (F0 mid 21 ls [.ref (G.2.1 + 78)]) := by
    intro  mq42 H locs ls hl hR hF
    rw [ek21_42] at hF
    refine lv_iconst (v := (1 : Int32)) hx hb (dk DX11_wins 11 rfl) (by decide) ?_
    refine lv_goto (tgt := 26) hx hb (dk DX11_wins 12 rfl) (by decide) ?_
    exact J26 true mq42 _ _ ls (lv_sub hl [0, 1, 2, 3, 4, 5, 6] rfl) hR hF
  refine z_ifne (tgt := 21) hx hb (dk DX11_wins 7 rfl) (by decide) (fun c11 => ?_) (fun c11 => ?_)
  · have hF := if_t c11 hF
    exact J21 mq2 _ _ ls (lv_sub hl [0, 1, 2, 3, 4, 5, 6] rfl) hR hF
  · have hF := if_f c11 hF
    refine lv_iload_n hx hb (dk DX11_wins 8 rfl) rfl (lv_at hl 2 rfl) ?_
    obtain ⟨zq45, mq43, hzq44, hF⟩ := bnd_ex hF
    refine r_callSi (As := [.int a2]) (rest := [.ref (G.2.1 + 78)]) C hR (C_M_noInnings l hl0 G a2 mq2 _ _ hzq44) (by decide) (by decide) wX11_256 rfl rfl (Nat.le_of_ble_eq_true rfl) hl.1 ⟨Nat.zero_le _, Nat.zero_le _⟩ (dk DX11_wins 9 rfl) (fun H locs hR => ?_)
    refine z_ifeq (tgt := 25) hx hb (dk DX11_wins 10 rfl) (by decide) (fun c18 => ?_) (fun c18 => ?_)
    · have hF := if_f c18 hF
      refine lv_iconst (v := (0 : Int32)) hx hb (dk DX11_wins 13 rfl) (by decide) ?_
      exact J26 false mq43 _ _ ls (lv_sub hl [0, 1, 2, 3, 4, 5, 6] rfl) hR hF
    · have hF := if_t c18 hF
      exact J21 mq43 _ _ ls (lv_sub hl [0, 1, 2, 3, 4, 5, 6] rfl) hR hF
