set_option maxHeartbeats 4000000 in
set_option maxRecDepth 100000 in
theorem C_LT_readLine (l : Launch) (hl0 : l.stackTraces = false) (G : GG) (m0 : Mem) (v : Unit) (m' : Mem) (hF : F_LT_readLine m0 = some (v, m')) : Ct l G mr0 N0 yX4_readLine cX4_readLine 2 none 39 [.ref (G.2.1 + 52)] m0 none m' := by
  refine Ct_of hl0 (by decide) (Nat.le_of_ble_eq_true rfl) ?_
  intro p e s mid args below meth c ls C hrt hl hR
  have hx := C.1.1
  have hb := C.1.2.1
  have hl : lv_has ls 2 [(0, .ref (G.2.1 + 52))] := hl
  unfold F_LT_readLine at hF
  refine lv_aload_n hx hb (dk DX4_readLine 0 rfl) rfl (lv_at hl 0 rfl) ?_
  refine r_lds C (strm_X4_32) (dk DX4_readLine 1 rfl) ?_
  obtain ⟨uq3, mq1, hzq2, hF⟩ := bnd_ex hF
  refine r_callUv (As := [.ref (G.2.2.2.2.2.2 ("hard"))]) (rest := []) C hR (C_Tx_mustTakeL l hl0 G ("hard") m0 txm_13 _ _ hzq2) (by decide) (by decide) ob52 rfl wX4_34_4 rfl rfl (Nat.le_of_ble_eq_true rfl) hl.1 ⟨Nat.zero_le _, Nat.zero_le _⟩ (dk DX4_readLine 2 rfl) (fun H locs hR => ?_)
  refine lv_aload_n hx hb (dk DX4_readLine 3 rfl) rfl (lv_at hl 0 rfl) ?_
  refine lv_iconst (v := (0 : Int32)) hx hb (dk DX4_readLine 4 rfl) (by decide) ?_
  refine lv_bipush (v := (9 : Int32)) hx hb (dk DX4_readLine 5 rfl) (by decide) ?_
  obtain ⟨xq6, mq4, hzq5, hF⟩ := bnd_ex hF
  refine r_callUi (As := [.int (0 : Int32), .int (9 : Int32)]) (rest := []) C hR (C_Tx_numberL l hl0 G (0 : Int32) (9 : Int32) mq1 _ _ hzq5) (by decide) (by decide) ob52 rfl wX4_38_4 rfl rfl (Nat.le_of_ble_eq_true rfl) hl.1 ⟨Nat.zero_le _, Nat.zero_le _⟩ (dk DX4_readLine 6 rfl) (fun H locs hR => ?_)
  refine lv_istore_n (lv' := [(1, .int xq6), (0, .ref (G.2.1 + 52))]) hx hb (dk DX4_readLine 7 rfl) rfl hl (by decide) rfl (fun ls hl => ?_)
  refine lv_aload_n hx hb (dk DX4_readLine 8 rfl) rfl (lv_at hl 1 rfl) ?_
  refine r_lds C (strm_X4_42) (dk DX4_readLine 9 rfl) ?_
  obtain ⟨zq9, mq7, hzq8, hF⟩ := bnd_ex hF
  refine r_callUi (As := [.ref (G.2.2.2.2.2.2 ("if"))]) (rest := []) C hR (C_Tx_takesWordL l hl0 G ("if") mq4 txm_14 _ _ hzq8) (by decide) (by decide) ob52 rfl wX4_44_4 rfl rfl (Nat.le_of_ble_eq_true rfl) hl.1 ⟨Nat.zero_le _, Nat.zero_le _⟩ (dk DX4_readLine 10 rfl) (fun H locs hR => ?_)
  obtain ⟨k39_10, ek39_10, hF⟩ := lt_ex hF
  have J39 : ∀ (mq10 : Mem) (H : Heap) (locs : List Loc) (ls : Array Slot), lv_has ls 2 [(0, .ref (G.2.1 + 52)), (1, .int xq6)] → Rp G mr0 N0 mq10 s H locs → k39_10  mq10 = some (v, m') → W p l e (rmD 39) s mid args below meth c H locs 0 0 (MQ below (QR G mr0 N0 none m') args s 0 0 (fun q => G.2.1 ≤ q)) (F0 mid 39 ls []) := by
    intro  mq10 H locs ls hl hR hF
    rw [ek39_10] at hF
    refine lv_aload_n hx hb (dk DX4_readLine 20 rfl) rfl (lv_at hl 0 rfl) ?_
    refine gX4_12 C hR ob52 rf52_7 (dk DX4_readLine 21 rfl) ?_
    refine lv_sipush (v := (2000 : Int32)) hx hb (dk DX4_readLine 22 rfl) (by decide) ?_
    refine lv_iload_n hx hb (dk DX4_readLine 23 rfl) rfl (lv_at hl 1 rfl) ?_
    refine lv_iadd hx hb (dk DX4_readLine 24 rfl) ?_
    obtain ⟨uq13, mq11, hzq12, hF⟩ := bnd_ex hF
    refine r_callVv (As := [.int ((2000 : Int32) + xq6)]) (rest := []) C hR (C_Lw_add l hl0 G ((2000 : Int32) + xq6) mq10 _ _ hzq12) (by decide) (by decide) ob57 rfl wX4_52 rfl rfl (Nat.le_of_ble_eq_true rfl) hl.1 ⟨Nat.zero_le _, Nat.zero_le _⟩ (dk DX4_readLine 25 rfl) (fun H locs hR => ?_)
    cases hF
    exact r_vret C hrt hR (dk DX4_readLine 26 rfl)
  refine z_ifeq (tgt := 31) hx hb (dk DX4_readLine 11 rfl) (by decide) (fun c20 => ?_) (fun c20 => ?_)
  · have hF := if_f c20 hF
    refine lv_aload_n hx hb (dk DX4_readLine 16 rfl) rfl (lv_at hl 1 rfl) ?_
    refine gX4_12 C hR ob52 rf52_7 (dk DX4_readLine 17 rfl) ?_
    refine lv_iconst (v := (1 : Int32)) hx hb (dk DX4_readLine 18 rfl) (by decide) ?_
    obtain ⟨uq16, mq14, hzq15, hF⟩ := bnd_ex hF
    refine r_callVv (As := [.int (1 : Int32)]) (rest := []) C hR (C_Lw_add l hl0 G (1 : Int32) mq7 _ _ hzq15) (by decide) (by decide) ob57 rfl wX4_52 rfl rfl (Nat.le_of_ble_eq_true rfl) hl.1 ⟨Nat.zero_le _, Nat.zero_le _⟩ (dk DX4_readLine 19 rfl) (fun H locs hR => ?_)
    exact J39 mq14 _ _ ls (lv_sub hl [1, 0] rfl) hR hF
  · have hF := if_t c20 hF
    refine lv_aload_n hx hb (dk DX4_readLine 12 rfl) rfl (lv_at hl 1 rfl) ?_
    refine lv_iconst (v := (0 : Int32)) hx hb (dk DX4_readLine 13 rfl) (by decide) ?_
    obtain ⟨uq19, mq17, hzq18, hF⟩ := bnd_ex hF
    refine r_callVv (As := [.int (0 : Int32)]) (rest := []) C hR (C_LT_readAny l hl0 G _ (F_LT_readAtom 8) (C_LT_readAtom l hl0 G 8) (by omega) (0 : Int32) mq7 _ _ hzq18) (by decide) (by decide) ob52 rfl wX4_48 rfl rfl (Nat.le_of_ble_eq_true rfl) hl.1 ⟨Nat.zero_le _, Nat.zero_le _⟩ (dk DX4_readLine 14 rfl) (fun H locs hR => ?_)
    refine lv_goto (tgt := 39) hx hb (dk DX4_readLine 15 rfl) (by decide) ?_
    exact J39 mq17 _ _ ls (lv_sub hl [1, 0] rfl) hR hF
set_option maxHeartbeats 4000000 in
set_option maxRecDepth 100000 in
theorem C_Tx_readLinesL (l : Launch) (hl0 : l.stackTraces = false) (G : GG) (a2 : Int32) (a3 : Int32) (m0 : Mem) (v : Int32) (m' : Mem) (hF : F_Tx_readLinesL a2 a3 m0 = some (v, m')) : Ct l G mr0 N0 yX9_readLines cX9_readLines 5 (some .int) 40 [.ref (G.2.1 + 52), .ref (G.2.1 + 1), .int a2, .int a3] m0 (some (.int v)) m' := by
  refine Ct_of hl0 (by decide) (Nat.le_of_ble_eq_true rfl) ?_
  intro p e s mid args below meth c ls C hrt hl hR
  have hx := C.1.1
  have hb := C.1.2.1
  have hl : lv_has ls 5 [(0, .ref (G.2.1 + 52)), (1, .ref (G.2.1 + 1)), (2, .int a2), (3, .int a3)] := hl
  unfold F_Tx_readLinesL at hF
  refine lv_aload_n hx hb (dk DX9_readLines 0 rfl) rfl (lv_at hl 0 rfl) ?_
  refine lv_aload_n hx hb (dk DX9_readLines 1 rfl) rfl (lv_at hl 1 rfl) ?_
  refine lv_iload_n hx hb (dk DX9_readLines 2 rfl) rfl (lv_at hl 2 rfl) ?_
  refine lv_aload_n hx hb (dk DX9_readLines 3 rfl) rfl (lv_at hl 1 rfl) ?_
  refine r_aleni (v := (400 : Int32)) C hR ob1 rfl (dk DX9_readLines 4 rfl) ?_
  refine lv_sipush (v := (400 : Int32)) hx hb (dk DX9_readLines 5 rfl) (by decide) ?_
  refine r_mnI C (gd q801 rfl) (by decide) (Nat.le_of_ble_eq_true rfl) hl.1 ⟨Nat.zero_le _, Nat.zero_le _⟩ (dk DX9_readLines 6 rfl) ?_
  refine r_mnI C (gd q801 rfl) (by decide) (Nat.le_of_ble_eq_true rfl) hl.1 ⟨Nat.zero_le _, Nat.zero_le _⟩ (dk DX9_readLines 7 rfl) ?_
  obtain ⟨uq3, mq1, hzq2, hF⟩ := bnd_ex hF
  refine r_callVv (As := [.ref (G.2.1 + 1), .int (mnI a2 (mnI (400 : Int32) (400 : Int32)))]) (rest := []) C hR (C_Tx_cutL l hl0 G (mnI a2 (mnI (400 : Int32) (400 : Int32))) m0 _ _ hzq2) (by decide) (by decide) ob52 rfl wX9_40_4 rfl rfl (Nat.le_of_ble_eq_true rfl) hl.1 ⟨Nat.zero_le _, Nat.zero_le _⟩ (dk DX9_readLines 8 rfl) (fun H locs hR => ?_)
  refine lv_aload_n hx hb (dk DX9_readLines 9 rfl) rfl (lv_at hl 0 rfl) ?_
  refine lv_iconst (v := (0 : Int32)) hx hb (dk DX9_readLines 10 rfl) (by decide) ?_
  refine pX9_28_4 (x := (0 : Int32)) C hR ob52 (dk DX9_readLines 11 rfl) (fun H locs hR => ?_)
  obtain ⟨mq4, emq4, hF⟩ := lt_ex hF
  have hR := Rp_at emq4 hR
  refine lv_aload_n hx hb (dk DX9_readLines 12 rfl) rfl (lv_at hl 0 rfl) ?_
  refine lv_iconst (v := (-1 : Int32)) hx hb (dk DX9_readLines 13 rfl) (by decide) ?_
  refine pX9_31_4 (x := (-1 : Int32)) C hR ob52 (dk DX9_readLines 14 rfl) (fun H locs hR => ?_)
  obtain ⟨mq5, emq5, hF⟩ := lt_ex hF
  have hR := Rp_at emq5 hR
  refine lv_aload_n hx hb (dk DX9_readLines 15 rfl) rfl (lv_at hl 0 rfl) ?_
  refine lv_iconst (v := (3 : Int32)) hx hb (dk DX9_readLines 16 rfl) (by decide) ?_
  obtain ⟨zq8, mq6, hzq7, hF⟩ := bnd_ex hF
  refine r_callVi (As := [.int (3 : Int32)]) (rest := []) C hR (C_Tx_isAtL l hl0 G (3 : Int32) mq5 _ _ hzq7) (by decide) (by decide) ob52 rfl wX9_44_4 rfl rfl (Nat.le_of_ble_eq_true rfl) hl.1 ⟨Nat.zero_le _, Nat.zero_le _⟩ (dk DX9_readLines 17 rfl) (fun H locs hR => ?_)
  refine z_ifeq (tgt := 37) hx hb (dk DX9_readLines 18 rfl) (by decide) (fun c32 => ?_) (fun c32 => ?_)
  · have hF := if_f c32 hF
    refine lv_iconst (v := (1 : Int32)) hx hb (dk DX9_readLines 21 rfl) (by decide) ?_
    refine lv_istore (lv' := [(4, .int (1 : Int32)), (0, .ref (G.2.1 + 52)), (1, .ref (G.2.1 + 1)), (2, .int a2), (3, .int a3)]) hx hb (dk DX9_readLines 22 rfl) hl (by decide) rfl (fun ls hl => ?_)
    obtain ⟨k78_10, ek78_10, hF⟩ := lt_ex hF
    have J78 : ∀ (xq10 : Int32) (mq9 : Mem) (H : Heap) (locs : List Loc) (ls : Array Slot), lv_has ls 5 [(0, .ref (G.2.1 + 52)), (4, .int xq10)] → Rp G mr0 N0 mq9 s H locs → k78_10 xq10 mq9 = some (v, m') → W p l e (rmD 40) s mid args below meth c H locs 0 0 (MQ below (QR G mr0 N0 (some (.int v)) m') args s 0 0 (fun q => G.2.1 ≤ q)) (F0 mid 78 ls []) := by
      intro xq10 mq9 H locs ls hl hR hF
      rw [ek78_10] at hF
      refine lv_aload_n hx hb (dk DX9_readLines 42 rfl) rfl (lv_at hl 0 rfl) ?_
      obtain ⟨uq13, mq11, hzq12, hF⟩ := bnd_ex hF
      refine r_callVv (As := []) (rest := []) C hR (C_Tx_setWrongL l hl0 G mq9 _ _ hzq12) (by decide) (by decide) ob52 rfl wX9_55_4 rfl rfl (Nat.le_of_ble_eq_true rfl) hl.1 ⟨Nat.zero_le _, Nat.zero_le _⟩ (dk DX9_readLines 43 rfl) (fun H locs hR => ?_)
      refine lv_iload hx hb (dk DX9_readLines 44 rfl) (lv_at hl 1 rfl) ?_
      cases hF
      exact r_iret C hrt hR (dk DX9_readLines 45 rfl)
    obtain ⟨k91_14, ek91_14, hF⟩ := lt_ex hF
    have J91 : ∀ (mq14 : Mem) (H : Heap) (locs : List Loc) (ls : Array Slot), lv_has ls 5 [(0, .ref (G.2.1 + 52)), (3, .int a3)] → Rp G mr0 N0 mq14 s H locs → k91_14  mq14 = some (v, m') → W p l e (rmD 40) s mid args below meth c H locs 0 0 (MQ below (QR G mr0 N0 (some (.int v)) m') args s 0 0 (fun q => G.2.1 ≤ q)) (F0 mid 91 ls []) := by
      intro  mq14 H locs ls hl hR hF
      rw [ek91_14] at hF
      refine lv_aload_n hx hb (dk DX9_readLines 48 rfl) rfl (lv_at hl 0 rfl) ?_
      obtain ⟨uq17, mq15, hzq16, hF⟩ := bnd_ex hF
      refine r_callVv (As := []) (rest := []) C hR (C_Tx_setWrongL l hl0 G mq14 _ _ hzq16) (by decide) (by decide) ob52 rfl wX9_55_4 rfl rfl (Nat.le_of_ble_eq_true rfl) hl.1 ⟨Nat.zero_le _, Nat.zero_le _⟩ (dk DX9_readLines 49 rfl) (fun H locs hR => ?_)
      refine lv_iload_n hx hb (dk DX9_readLines 50 rfl) rfl (lv_at hl 1 rfl) ?_
      cases hF
      exact r_iret C hrt hR (dk DX9_readLines 51 rfl)
    have L40 : ∀ (nf : Nat) (xq19 : Int32) (mq18 : Mem) (H : Heap) (locs : List Loc) (ls : Array Slot), lv_has ls 5 [(0, .ref (G.2.1 + 52)), (3, .int a3), (4, .int xq19)] → Rp G mr0 N0 mq18 s H locs → F_Tx_readLinesL_L40 a3 k78_10 k91_14 nf xq19 mq18 = some (v, m') → W p l e (rmD 40) s mid args below meth c H locs 0 0 (MQ below (QR G mr0 N0 (some (.int v)) m') args s 0 0 (fun q => G.2.1 ≤ q)) (F0 mid 40 ls []) := by
      intro nf
      induction nf with
      | zero =>
        intro xq19 mq18 H locs ls hl hR hF
        rw [F_Tx_readLinesL_L40] at hF
        cases hF
      | succ nf ihq21 =>
        intro xq19 mq18 H locs ls hl hR hF
        rw [F_Tx_readLinesL_L40] at hF
        refine lv_iload hx hb (dk DX9_readLines 23 rfl) (lv_at hl 2 rfl) ?_
        refine lv_iload_n hx hb (dk DX9_readLines 24 rfl) rfl (lv_at hl 1 rfl) ?_
        refine lv_icmp_gt (tgt := 91) hx hb (dk DX9_readLines 25 rfl) (by decide) (fun c43 => ?_) (fun c43 => ?_)
        · have hF := if_t c43 hF
          exact J91 mq18 _ _ ls (lv_sub hl [0, 1] rfl) hR hF
        · have hF := if_f c43 hF
          refine lv_aload_n hx hb (dk DX9_readLines 26 rfl) rfl (lv_at hl 0 rfl) ?_
          obtain ⟨uq24, mq22, hzq23, hF⟩ := bnd_ex hF
          refine r_callOv (As := []) (rest := []) C hR (C_LT_readLine l hl0 G mq18 _ _ hzq23) (by decide) (by decide) ob52 rfl wX9_48_4 rfl rfl (Nat.le_of_ble_eq_true rfl) hl.1 ⟨Nat.zero_le _, Nat.zero_le _⟩ (dk DX9_readLines 27 rfl) (fun H locs hR => ?_)
          refine lv_aload_n hx hb (dk DX9_readLines 28 rfl) rfl (lv_at hl 0 rfl) ?_
          refine gX9_31_4 C hR ob52 (dk DX9_readLines 29 rfl) ?_
          refine lv_iconst (v := (-1 : Int32)) hx hb (dk DX9_readLines 30 rfl) (by decide) ?_
          refine lv_icmp_ne (tgt := 66) hx hb (dk DX9_readLines 31 rfl) (by decide) (fun c55 => ?_) (fun c55 => ?_)
          · have hF := if_f c55 hF
            refine lv_iload hx hb (dk DX9_readLines 36 rfl) (lv_at hl 2 rfl) ?_
            cases hF
            exact r_iret C hrt hR (dk DX9_readLines 37 rfl)
          · have hF := if_t c55 hF
            refine lv_aload_n hx hb (dk DX9_readLines 32 rfl) rfl (lv_at hl 0 rfl) ?_
            refine lv_iconst (v := (3 : Int32)) hx hb (dk DX9_readLines 33 rfl) (by decide) ?_
            obtain ⟨zq27, mq25, hzq26, hF⟩ := bnd_ex hF
            refine r_callVi (As := [.int (3 : Int32)]) (rest := []) C hR (C_Tx_isAtL l hl0 G (3 : Int32) mq22 _ _ hzq26) (by decide) (by decide) ob52 rfl wX9_44_4 rfl rfl (Nat.le_of_ble_eq_true rfl) hl.1 ⟨Nat.zero_le _, Nat.zero_le _⟩ (dk DX9_readLines 34 rfl) (fun H locs hR => ?_)
            refine z_ifeq (tgt := 69) hx hb (dk DX9_readLines 35 rfl) (by decide) (fun c63 => ?_) (fun c63 => ?_)
            · have hF := if_f c63 hF
              refine lv_aload_n hx hb (dk DX9_readLines 38 rfl) rfl (lv_at hl 0 rfl) ?_
              refine lv_bipush (v := (59 : Int32)) hx hb (dk DX9_readLines 39 rfl) (by decide) ?_
              obtain ⟨zq30, mq28, hzq29, hF⟩ := bnd_ex hF
              refine r_callVi (As := [.int (59 : Int32)]) (rest := []) C hR (C_Tx_takesSignL l hl0 G (59 : Int32) mq25 _ _ hzq29) (by decide) (by decide) ob52 rfl wX9_51_4 rfl rfl (Nat.le_of_ble_eq_true rfl) hl.1 ⟨Nat.zero_le _, Nat.zero_le _⟩ (dk DX9_readLines 40 rfl) (fun H locs hR => ?_)
              refine z_ifne (tgt := 85) hx hb (dk DX9_readLines 41 rfl) (by decide) (fun c75 => ?_) (fun c75 => ?_)
              · have hF := if_t c75 hF
                obtain ⟨xq31, exq31, hF⟩ := lt_ex hF
                refine lv_iinc (v := xq31) (lv' := [(4, .int xq31), (0, .ref (G.2.1 + 52)), (3, .int a3)]) hx hb (dk DX9_readLines 46 rfl) hl (k := 2) rfl (by rw [exq31]; rfl) (by decide) rfl (fun ls hl => ?_)
                refine lv_goto (tgt := 40) hx hb (dk DX9_readLines 47 rfl) (by decide) ?_
                exact ihq21 xq31 mq28 _ _ ls (lv_sub hl [1, 2, 0] rfl) hR hF
              · have hF := if_f c75 hF
                exact J78 xq19 mq28 _ _ ls (lv_sub hl [0, 2] rfl) hR hF
            · have hF := if_t c63 hF
              refine lv_iload hx hb (dk DX9_readLines 36 rfl) (lv_at hl 2 rfl) ?_
              cases hF
              exact r_iret C hrt hR (dk DX9_readLines 37 rfl)
    exact L40 1000000 (1 : Int32) mq6 _ _ ls (lv_sub hl [1, 4, 0] rfl) hR hF
  · have hF := if_t c32 hF
    refine lv_iconst (v := (0 : Int32)) hx hb (dk DX9_readLines 19 rfl) (by decide) ?_
    cases hF
    exact r_iret C hrt hR (dk DX9_readLines 20 rfl)
set_option maxHeartbeats 4000000 in
set_option maxRecDepth 100000 in
theorem C_LT_readLaw (l : Launch) (hl0 : l.stackTraces = false) (G : GG) (a2 : Int32) (m0 : Mem) (v : Int32) (m' : Mem) (hF : F_LT_readLaw a2 m0 = some (v, m')) : Ct l G mr0 N0 yX4_readLaw cX4_readLaw 3 (some .int) 41 [.ref (G.2.1 + 52), .ref (G.2.1 + 1), .int a2] m0 (some (.int v)) m' := by
  refine Ct_of hl0 (by decide) (Nat.le_of_ble_eq_true rfl) ?_
  intro p e s mid args below meth c ls C hrt hl hR
  have hx := C.1.1
  have hb := C.1.2.1
  have hl : lv_has ls 3 [(0, .ref (G.2.1 + 52)), (1, .ref (G.2.1 + 1)), (2, .int a2)] := hl
  unfold F_LT_readLaw at hF
  refine lv_aload_n hx hb (dk DX4_readLaw 0 rfl) rfl (lv_at hl 0 rfl) ?_
  refine gX4_12 C hR ob52 rf52_7 (dk DX4_readLaw 1 rfl) ?_
  refine lv_iconst (v := (0 : Int32)) hx hb (dk DX4_readLaw 2 rfl) (by decide) ?_
  refine pX4_18 (x := (0 : Int32)) C hR ob57 (dk DX4_readLaw 3 rfl) (fun H locs hR => ?_)
  obtain ⟨mq1, emq1, hF⟩ := lt_ex hF
  have hR := Rp_at emq1 hR
  refine lv_aload_n hx hb (dk DX4_readLaw 4 rfl) rfl (lv_at hl 0 rfl) ?_
  refine gX4_12 C hR ob52 rf52_7 (dk DX4_readLaw 5 rfl) ?_
  refine lv_aload_n hx hb (dk DX4_readLaw 6 rfl) rfl (lv_at hl 0 rfl) ?_
  refine lv_aload_n hx hb (dk DX4_readLaw 7 rfl) rfl (lv_at hl 1 rfl) ?_
  refine lv_iload_n hx hb (dk DX4_readLaw 8 rfl) rfl (lv_at hl 2 rfl) ?_
  refine lv_bipush (v := (12 : Int32)) hx hb (dk DX4_readLaw 9 rfl) (by decide) ?_
  obtain ⟨xq4, mq2, hzq3, hF⟩ := bnd_ex hF
  refine r_callUi (As := [.ref (G.2.1 + 1), .int a2, .int (12 : Int32)]) (rest := [.ref (G.2.1 + 57)]) C hR (C_Tx_readLinesL l hl0 G a2 (12 : Int32) mq1 _ _ hzq3) (by decide) (by decide) ob52 rfl wX4_22_4 rfl rfl (Nat.le_of_ble_eq_true rfl) hl.1 ⟨Nat.zero_le _, Nat.zero_le _⟩ (dk DX4_readLaw 10 rfl) (fun H locs hR => ?_)
  refine pX4_26 (x := xq4) C hR ob57 (dk DX4_readLaw 11 rfl) (fun H locs hR => ?_)
  obtain ⟨mq5, emq5, hF⟩ := lt_ex hF
  have hR := Rp_at emq5 hR
  refine lv_aload_n hx hb (dk DX4_readLaw 12 rfl) rfl (lv_at hl 0 rfl) ?_
  refine gX4_29 C hR ob52 (dk DX4_readLaw 13 rfl) ?_
  cases hF
  exact r_iret C hrt hR (dk DX4_readLaw 14 rfl)
set_option maxHeartbeats 4000000 in
set_option maxRecDepth 100000 in
theorem C_Lw_copyFrom_3 (l : Launch) (hl0 : l.stackTraces = false) (G : GG) (m0 : Mem) (v : Unit) (m' : Mem) (hF : F_Lw_copyFrom_3 m0 = some (v, m')) : Ct l G mr0 N0 yX3_copyFrom cX3_copyFrom 3 none 1 [.ref (G.2.1 + 8), .ref (G.2.1 + 57)] m0 none m' := by
  refine Ct_of hl0 (by decide) (Nat.le_of_ble_eq_true rfl) ?_
  intro p e s mid args below meth c ls C hrt hl hR
  have hx := C.1.1
  have hb := C.1.2.1
  have hl : lv_has ls 3 [(0, .ref (G.2.1 + 8)), (1, .ref (G.2.1 + 57))] := hl
  unfold F_Lw_copyFrom_3 at hF
  refine lv_aload_n hx hb (dk DX3_copyFrom 0 rfl) rfl (lv_at hl 0 rfl) ?_
  refine lv_aload_n hx hb (dk DX3_copyFrom 1 rfl) rfl (lv_at hl 1 rfl) ?_
  refine gX3_9 C hR ob57 (dk DX3_copyFrom 2 rfl) ?_
  refine pX3_9 (x := gI m0 57 0) C hR ob8 (dk DX3_copyFrom 3 rfl) (fun H locs hR => ?_)
  obtain ⟨mq1, emq1, hF⟩ := lt_ex hF
  have hR := Rp_at emq1 hR
  refine lv_aload_n hx hb (dk DX3_copyFrom 4 rfl) rfl (lv_at hl 0 rfl) ?_
  refine lv_aload_n hx hb (dk DX3_copyFrom 5 rfl) rfl (lv_at hl 1 rfl) ?_
  refine gX3_15 C hR ob57 (dk DX3_copyFrom 6 rfl) ?_
  refine pX3_15 (x := gI mq1 57 1) C hR ob8 (dk DX3_copyFrom 7 rfl) (fun H locs hR => ?_)
  obtain ⟨mq2, emq2, hF⟩ := lt_ex hF
  have hR := Rp_at emq2 hR
  refine lv_iconst (v := (0 : Int32)) hx hb (dk DX3_copyFrom 8 rfl) (by decide) ?_
  refine lv_istore_n (lv' := [(2, .int (0 : Int32)), (0, .ref (G.2.1 + 8)), (1, .ref (G.2.1 + 57))]) hx hb (dk DX3_copyFrom 9 rfl) rfl hl (by decide) rfl (fun ls hl => ?_)
  have L18 : ∀ (nf : Nat) (xq4 : Int32) (mq3 : Mem) (H : Heap) (locs : List Loc) (ls : Array Slot), lv_has ls 3 [(0, .ref (G.2.1 + 8)), (1, .ref (G.2.1 + 57)), (2, .int xq4)] → Rp G mr0 N0 mq3 s H locs → F_Lw_copyFrom_3_L18 nf xq4 mq3 = some (v, m') → W p l e (rmD 1) s mid args below meth c H locs 0 0 (MQ below (QR G mr0 N0 none m') args s 0 0 (fun q => G.2.1 ≤ q)) (F0 mid 18 ls []) := by
    intro nf
    induction nf with
    | zero =>
      intro xq4 mq3 H locs ls hl hR hF
      rw [F_Lw_copyFrom_3_L18] at hF
      cases hF
    | succ nf ihq6 =>
      intro xq4 mq3 H locs ls hl hR hF
      rw [F_Lw_copyFrom_3_L18] at hF
      refine lv_iload_n hx hb (dk DX3_copyFrom 10 rfl) rfl (lv_at hl 2 rfl) ?_
      refine lv_sipush (v := (400 : Int32)) hx hb (dk DX3_copyFrom 11 rfl) (by decide) ?_
      refine lv_icmp_ge (tgt := 43) hx hb (dk DX3_copyFrom 12 rfl) (by decide) (fun c22 => ?_) (fun c22 => ?_)
      · have hF := if_t c22 hF
        cases hF
        exact r_vret C hrt hR (dk DX3_copyFrom 23 rfl)
      · have hF := if_f c22 hF
        refine lv_aload_n hx hb (dk DX3_copyFrom 13 rfl) rfl (lv_at hl 0 rfl) ?_
        refine gX3_18 C hR ob8 rf8_2 (dk DX3_copyFrom 14 rfl) ?_
        refine lv_iload_n hx hb (dk DX3_copyFrom 15 rfl) rfl (lv_at hl 2 rfl) ?_
        refine lv_aload_n hx hb (dk DX3_copyFrom 16 rfl) rfl (lv_at hl 1 rfl) ?_
        refine gX3_18 C hR ob57 rf57_2 (dk DX3_copyFrom 17 rfl) ?_
        refine lv_iload_n hx hb (dk DX3_copyFrom 18 rfl) rfl (lv_at hl 2 rfl) ?_
        obtain ⟨hq7, hF⟩ := ckB_ex hF
        refine r_iald C hR ob58 hq7 (dk DX3_copyFrom 19 rfl) ?_
        refine lv_topi (fun xq8 exq8 => ?_)
        have hF := lt_at exq8 hF
        obtain ⟨hq10, hF⟩ := ckB_ex hF
        refine r_iast C hR ob9 hq10 (dk DX3_copyFrom 20 rfl) (fun H locs hR => ?_)
        obtain ⟨mq9, emq9, hF⟩ := lt_ex hF
        have hR := Rp_at emq9 hR
        obtain ⟨xq11, exq11, hF⟩ := lt_ex hF
        refine lv_iinc (v := xq11) (lv' := [(2, .int xq11), (0, .ref (G.2.1 + 8)), (1, .ref (G.2.1 + 57))]) hx hb (dk DX3_copyFrom 21 rfl) hl (k := 2) rfl (by rw [exq11]; rfl) (by decide) rfl (fun ls hl => ?_)
        refine lv_goto (tgt := 18) hx hb (dk DX3_copyFrom 22 rfl) (by decide) ?_
        exact ihq6 xq11 mq9 _ _ ls (lv_sub hl [1, 2, 0] rfl) hR hF
  exact L18 1000000 (0 : Int32) mq2 _ _ ls (lv_sub hl [1, 2, 0] rfl) hR hF
set_option maxHeartbeats 4000000 in
set_option maxRecDepth 100000 in
theorem C_T_law (l : Launch) (hl0 : l.stackTraces = false) (G : GG) (m0 : Mem) (v : Nat ⊕ Int32) (m' : Mem) (hF : F_T_law m0 = some (v, m')) : CtX l G mr0 N0 yX10_law cX10_law 1 (some .int) 42 [.ref (G.2.1 + 0)] m0 (ouI v) m' := by
  refine CtX_of hl0 (by decide) (Nat.le_of_ble_eq_true rfl) ?_
  intro p e s mid args below meth c ls C hrt hex hl hR
  have hx := C.1.1
  have hb := C.1.2.1
  have hl : lv_has ls 1 [(0, .ref (G.2.1 + 0))] := hl
  unfold F_T_law at hF
  refine lv_aload_n hx hb (dk DX10_law 0 rfl) rfl (lv_at hl 0 rfl) ?_
  refine lv_aload_n hx hb (dk DX10_law 1 rfl) rfl (lv_at hl 0 rfl) ?_
  refine gX10_61 C hR ob0 rf0_9 (dk DX10_law 2 rfl) ?_
  refine lv_aload_n hx hb (dk DX10_law 3 rfl) rfl (lv_at hl 0 rfl) ?_
  refine gX10_9 C hR ob0 rf0_0 (dk DX10_law 4 rfl) ?_
  refine lv_aload_n hx hb (dk DX10_law 5 rfl) rfl (lv_at hl 0 rfl) ?_
  obtain ⟨xq3, mq1, hzq2, hF⟩ := bnd_ex hF
  refine r_callVi (As := []) (rest := [.ref (G.2.1 + 1), .ref (G.2.1 + 52), .ref (G.2.1 + 0)]) C hR (C_T_useTape l hl0 G m0 _ _ hzq2) (by decide) (by decide) ob0 rfl wX10_89 rfl rfl (Nat.le_of_ble_eq_true rfl) hl.1 ⟨Nat.zero_le _, Nat.zero_le _⟩ (dk DX10_law 6 rfl) (fun H locs hR => ?_)
  obtain ⟨xq6, mq4, hzq5, hF⟩ := bnd_ex hF
  refine r_callVi (As := [.ref (G.2.1 + 1), .int xq3]) (rest := [.ref (G.2.1 + 0)]) C hR (C_LT_readLaw l hl0 G xq3 mq1 _ _ hzq5) (by decide) (by decide) ob52 rfl wX10_131 rfl rfl (Nat.le_of_ble_eq_true rfl) hl.1 ⟨Nat.zero_le _, Nat.zero_le _⟩ (dk DX10_law 7 rfl) (fun H locs hR => ?_)
  refine pX10_17 (x := xq6) C hR ob0 (dk DX10_law 8 rfl) (fun H locs hR => ?_)
  obtain ⟨mq7, emq7, hF⟩ := lt_ex hF
  have hR := Rp_at emq7 hR
  refine lv_aload_n hx hb (dk DX10_law 9 rfl) rfl (lv_at hl 0 rfl) ?_
  refine gX10_17 C hR ob0 (dk DX10_law 10 rfl) ?_
  refine lv_iconst (v := (-1 : Int32)) hx hb (dk DX10_law 11 rfl) (by decide) ?_
  refine lv_icmp_eq (tgt := 37) hx hb (dk DX10_law 12 rfl) (by decide) (fun c24 => ?_) (fun c24 => ?_)
  · have hF := if_t c24 hF
    refine lv_aload_n hx hb (dk DX10_law 18 rfl) rfl (lv_at hl 0 rfl) ?_
    refine gX10_31 C hR ob0 rf0_4 (dk DX10_law 19 rfl) ?_
    refine gX10_135 C hR ob3 rf3_11 (dk DX10_law 20 rfl) ?_
    refine lv_aload_n hx hb (dk DX10_law 21 rfl) rfl (lv_at hl 0 rfl) ?_
    refine gX10_61 C hR ob0 rf0_9 (dk DX10_law 22 rfl) ?_
    refine gX10_139 C hR ob52 rf52_7 (dk DX10_law 23 rfl) ?_
    obtain ⟨uq10, mq8, hzq9, hF⟩ := bnd_ex hF
    refine r_callVv (As := [.ref (G.2.1 + 57)]) (rest := []) C hR (C_Lw_copyFrom_3 l hl0 G mq7 _ _ hzq9) (by decide) (by decide) ob8 rfl wX10_140 rfl rfl (Nat.le_of_ble_eq_true rfl) hl.1 ⟨Nat.zero_le _, Nat.zero_le _⟩ (dk DX10_law 24 rfl) (fun H locs hR => ?_)
    refine lv_aload_n hx hb (dk DX10_law 25 rfl) rfl (lv_at hl 0 rfl) ?_
    obtain ⟨uq13, mq11, hzq12, hF⟩ := bnd_ex hF
    refine r_callVv (As := []) (rest := []) C hR (C_T_startAfresh l hl0 G mq8 _ _ hzq12) (by decide) (by decide) ob0 rfl wX10_128 rfl rfl (Nat.le_of_ble_eq_true rfl) hl.1 ⟨Nat.zero_le _, Nat.zero_le _⟩ (dk DX10_law 26 rfl) (fun H locs hR => ?_)
    refine lv_aload_n hx hb (dk DX10_law 27 rfl) rfl (lv_at hl 0 rfl) ?_
    refine gX10_31 C hR ob0 rf0_4 (dk DX10_law 28 rfl) ?_
    refine gX10_135 C hR ob3 rf3_11 (dk DX10_law 29 rfl) ?_
    refine gX10_146 C hR ob8 (dk DX10_law 30 rfl) ?_
    cases hF
    exact x_iret C hrt hR (dk DX10_law 31 rfl)
  · have hF := if_f c24 hF
    cases hF
    exact r_throw (d := 42) (k := 1) C hex hR tX10_113 strm_X10_111 (by decide) (Nat.le_of_ble_eq_true rfl) hl.1 (dk DX10_law 13 rfl) (dk DX10_law 14 rfl) (dk DX10_law 15 rfl) (dk DX10_law 16 rfl) (dk DX10_law 17 rfl)
set_option maxHeartbeats 4000000 in
set_option maxRecDepth 100000 in
theorem C_T_level (l : Launch) (hl0 : l.stackTraces = false) (G : GG) (a1 : Int32) (a2 : Int32) (a3 : Int32) (m0 : Mem) (v : Nat ⊕ Int32) (m' : Mem) (hF : F_T_level a1 a2 a3 m0 = some (v, m')) : CtX l G mr0 N0 yX10_level cX10_level 4 (some .int) 9 [.ref (G.2.1 + 0), .int a1, .int a2, .int a3] m0 (ouI v) m' := by
  refine CtX_of hl0 (by decide) (Nat.le_of_ble_eq_true rfl) ?_
  intro p e s mid args below meth c ls C hrt hex hl hR
  have hx := C.1.1
  have hb := C.1.2.1
  have hl : lv_has ls 4 [(0, .ref (G.2.1 + 0)), (1, .int a1), (2, .int a2), (3, .int a3)] := hl
  unfold F_T_level at hF
  refine lv_aload_n hx hb (dk DX10_level 0 rfl) rfl (lv_at hl 0 rfl) ?_
  refine lv_iload_n hx hb (dk DX10_level 1 rfl) rfl (lv_at hl 1 rfl) ?_
  refine lv_aload_n hx hb (dk DX10_level 2 rfl) rfl (lv_at hl 0 rfl) ?_
  refine gX10_31 C hR ob0 rf0_4 (dk DX10_level 3 rfl) ?_
  refine gX10_167 C hR ob3 (dk DX10_level 4 rfl) ?_
  rcases bndX_ex hF with ⟨ke, mq1, hzq2, hF⟩ | ⟨uq3, mq1, hzq2, hF⟩
  · have hM := C_T_mustBeBelow l hl0 G a1 (gI m0 3 0) m0 (Sum.inl ke) mq1 hzq2
    rw [show ouV (Sum.inl ke) = (Sum.inl ke : Ou) from rfl] at hM
    cases hF
    exact x_passV (d := 9) (k := ke) (As := [.int a1, .int (gI m0 3 0)]) (rest := []) C hex hR hM (by decide) (by decide) ob0 rfl wX10_149 rfl rfl (Nat.le_of_ble_eq_true rfl) hl.1 (dk DX10_level 5 rfl)
  · have hM := C_T_mustBeBelow l hl0 G a1 (gI m0 3 0) m0 (Sum.inr uq3) mq1 hzq2
    rw [show ouV (Sum.inr uq3) = (Sum.inr none : Ou) from rfl] at hM
    refine x_callVv (As := [.int a1, .int (gI m0 3 0)]) (rest := []) C hR hM (by decide) (by decide) ob0 rfl wX10_149 rfl rfl (Nat.le_of_ble_eq_true rfl) hl.1 ⟨Nat.zero_le _, Nat.zero_le _⟩ (dk DX10_level 5 rfl) (fun H locs hR => ?_)
    refine lv_aload_n hx hb (dk DX10_level 6 rfl) rfl (lv_at hl 0 rfl) ?_
    refine lv_iload_n hx hb (dk DX10_level 7 rfl) rfl (lv_at hl 2 rfl) ?_
    refine lv_iconst (v := (4 : Int32)) hx hb (dk DX10_level 8 rfl) (by decide) ?_
    rcases bndX_ex hF with ⟨ke, mq4, hzq5, hF⟩ | ⟨uq6, mq4, hzq5, hF⟩
    · have hM := C_T_mustBeBelow l hl0 G a2 (4 : Int32) mq1 (Sum.inl ke) mq4 hzq5
      rw [show ouV (Sum.inl ke) = (Sum.inl ke : Ou) from rfl] at hM
      cases hF
      exact x_passV (d := 9) (k := ke) (As := [.int a2, .int (4 : Int32)]) (rest := []) C hex hR hM (by decide) (by decide) ob0 rfl wX10_149 rfl rfl (Nat.le_of_ble_eq_true rfl) hl.1 (dk DX10_level 9 rfl)
    · have hM := C_T_mustBeBelow l hl0 G a2 (4 : Int32) mq1 (Sum.inr uq6) mq4 hzq5
      rw [show ouV (Sum.inr uq6) = (Sum.inr none : Ou) from rfl] at hM
      refine x_callVv (As := [.int a2, .int (4 : Int32)]) (rest := []) C hR hM (by decide) (by decide) ob0 rfl wX10_149 rfl rfl (Nat.le_of_ble_eq_true rfl) hl.1 ⟨Nat.zero_le _, Nat.zero_le _⟩ (dk DX10_level 9 rfl) (fun H locs hR => ?_)
      refine lv_aload_n hx hb (dk DX10_level 10 rfl) rfl (lv_at hl 0 rfl) ?_
      refine lv_iload_n hx hb (dk DX10_level 11 rfl) rfl (lv_at hl 3 rfl) ?_
      refine lv_iconst (v := (2 : Int32)) hx hb (dk DX10_level 12 rfl) (by decide) ?_
      rcases bndX_ex hF with ⟨ke, mq7, hzq8, hF⟩ | ⟨uq9, mq7, hzq8, hF⟩
      · have hM := C_T_mustBeBelow l hl0 G a3 (2 : Int32) mq4 (Sum.inl ke) mq7 hzq8
        rw [show ouV (Sum.inl ke) = (Sum.inl ke : Ou) from rfl] at hM
        cases hF
        exact x_passV (d := 9) (k := ke) (As := [.int a3, .int (2 : Int32)]) (rest := []) C hex hR hM (by decide) (by decide) ob0 rfl wX10_149 rfl rfl (Nat.le_of_ble_eq_true rfl) hl.1 (dk DX10_level 13 rfl)
      · have hM := C_T_mustBeBelow l hl0 G a3 (2 : Int32) mq4 (Sum.inr uq9) mq7 hzq8
        rw [show ouV (Sum.inr uq9) = (Sum.inr none : Ou) from rfl] at hM
        refine x_callVv (As := [.int a3, .int (2 : Int32)]) (rest := []) C hR hM (by decide) (by decide) ob0 rfl wX10_149 rfl rfl (Nat.le_of_ble_eq_true rfl) hl.1 ⟨Nat.zero_le _, Nat.zero_le _⟩ (dk DX10_level 13 rfl) (fun H locs hR => ?_)
        refine lv_aload_n hx hb (dk DX10_level 14 rfl) rfl (lv_at hl 0 rfl) ?_
        refine gX10_31 C hR ob0 rf0_4 (dk DX10_level 15 rfl) ?_
        refine lv_iload_n hx hb (dk DX10_level 16 rfl) rfl (lv_at hl 1 rfl) ?_
        refine lv_iload_n hx hb (dk DX10_level 17 rfl) rfl (lv_at hl 2 rfl) ?_
        refine lv_iload_n hx hb (dk DX10_level 18 rfl) rfl (lv_at hl 3 rfl) ?_
        obtain ⟨xq12, mq10, hzq11, hF⟩ := bnd_ex hF
        refine r_callVi (As := [.int a1, .int a2, .int a3]) (rest := []) C hR (C_Gr_levelOf l hl0 G a1 a2 a3 mq7 _ _ hzq11) (by decide) (by decide) ob3 rfl wX10_187 rfl rfl (Nat.le_of_ble_eq_true rfl) hl.1 ⟨Nat.zero_le _, Nat.zero_le _⟩ (dk DX10_level 19 rfl) (fun H locs hR => ?_)
        cases hF
        exact x_iret C hrt hR (dk DX10_level 20 rfl)
set_option maxHeartbeats 4000000 in
set_option maxRecDepth 100000 in
theorem C_T_line (l : Launch) (hl0 : l.stackTraces = false) (G : GG) (a1 : Int32) (a2 : Int32) (a3 : Bool) (a4 : Int32) (a5 : Int32) (m0 : Mem) (v : Nat ⊕ Int32) (m' : Mem) (hF : F_T_line a1 a2 a3 a4 a5 m0 = some (v, m')) : CtX l G mr0 N0 yX10_line cX10_line 8 (some .int) 293 [.ref (G.2.1 + 0), .int a1, .int a2, .int (b2i a3), .int a4, .int a5] m0 (ouI v) m' := by
  refine CtX_of hl0 (by decide) (Nat.le_of_ble_eq_true rfl) ?_
  intro p e s mid args below meth c ls C hrt hex hl hR
  have hx := C.1.1
  have hb := C.1.2.1
  have hl : lv_has ls 8 [(0, .ref (G.2.1 + 0)), (1, .int a1), (2, .int a2), (3, .int (b2i a3)), (4, .int a4), (5, .int a5)] := hl
  unfold F_T_line at hF
  refine lv_aload_n hx hb (dk DX10_line 0 rfl) rfl (lv_at hl 0 rfl) ?_
  refine lv_iload_n hx hb (dk DX10_line 1 rfl) rfl (lv_at hl 1 rfl) ?_
  refine lv_iload_n hx hb (dk DX10_line 2 rfl) rfl (lv_at hl 2 rfl) ?_
  refine lv_iload hx hb (dk DX10_line 3 rfl) (lv_at hl 4 rfl) ?_
  refine lv_iload hx hb (dk DX10_line 4 rfl) (lv_at hl 5 rfl) ?_
  rcases bndX_ex hF with ⟨ke, mq1, hzq2, hF⟩ | ⟨uq3, mq1, hzq2, hF⟩
  · have hM := C_T_mustBeState l hl0 G a1 a2 a4 a5 m0 (Sum.inl ke) mq1 hzq2
    rw [show ouV (Sum.inl ke) = (Sum.inl ke : Ou) from rfl] at hM
    cases hF
    exact x_passV (d := 293) (k := ke) (As := [.int a1, .int a2, .int a4, .int a5]) (rest := []) C hex hR hM (by decide) (by decide) ob0 rfl wX10_361 rfl rfl (Nat.le_of_ble_eq_true rfl) hl.1 (dk DX10_line 5 rfl)
  · have hM := C_T_mustBeState l hl0 G a1 a2 a4 a5 m0 (Sum.inr uq3) mq1 hzq2
    rw [show ouV (Sum.inr uq3) = (Sum.inr none : Ou) from rfl] at hM
    refine x_callVv (As := [.int a1, .int a2, .int a4, .int a5]) (rest := []) C hR hM (by decide) (by decide) ob0 rfl wX10_361 rfl rfl (Nat.le_of_ble_eq_true rfl) hl.1 ⟨Nat.zero_le _, Nat.zero_le _⟩ (dk DX10_line 5 rfl) (fun H locs hR => ?_)
    refine lv_iload_n hx hb (dk DX10_line 6 rfl) rfl (lv_at hl 2 rfl) ?_
    refine lv_iconst (v := (3 : Int32)) hx hb (dk DX10_line 7 rfl) (by decide) ?_
    refine lv_icmp_ne (tgt := 17) hx hb (dk DX10_line 8 rfl) (by decide) (fun c12 => ?_) (fun c12 => ?_)
    · have hF := if_f c12 hF
      refine lv_iload_n hx hb (dk DX10_line 11 rfl) rfl (lv_at hl 2 rfl) ?_
      refine lv_iload_n hx hb (dk DX10_line 12 rfl) rfl (lv_at hl 3 rfl) ?_
      obtain ⟨xq6, mq4, hzq5, hF⟩ := bnd_ex hF
      refine r_callSi (As := [.int a2, .int (b2i a3)]) (rest := []) C hR (C_Od_kindOf l hl0 G a2 a3 mq1 _ _ hzq5) (by decide) (by decide) wX10_365 rfl rfl (Nat.le_of_ble_eq_true rfl) hl.1 ⟨Nat.zero_le _, Nat.zero_le _⟩ (dk DX10_line 13 rfl) (fun H locs hR => ?_)
      refine lv_istore (lv' := [(6, .int xq6), (0, .ref (G.2.1 + 0)), (1, .int a1), (2, .int a2), (3, .int (b2i a3)), (4, .int a4), (5, .int a5)]) hx hb (dk DX10_line 14 rfl) hl (by decide) rfl (fun ls hl => ?_)
      refine lv_iconst (v := (0 : Int32)) hx hb (dk DX10_line 15 rfl) (by decide) ?_
      refine lv_istore (lv' := [(7, .int (0 : Int32)), (6, .int xq6), (0, .ref (G.2.1 + 0)), (1, .int a1), (2, .int a2), (3, .int (b2i a3)), (4, .int a4), (5, .int a5)]) hx hb (dk DX10_line 16 rfl) hl (by decide) rfl (fun ls hl => ?_)
      obtain ⟨k62_8, ek62_8, hF⟩ := lt_ex hF
      have J62 : ∀ (xq8 : Int32) (mq7 : Mem) (H : Heap) (locs : List Loc) (ls : Array Slot), lv_has ls 8 [(7, .int xq8)] → Rp G mr0 N0 mq7 s H locs → k62_8 xq8 mq7 = some (v, m') → W p l e (rmX 293 (ouI v)) s mid args below meth c H locs 0 0 (ZX below G mr0 N0 (ouI v) m' args s) (F0 mid 62 ls []) := by
        intro xq8 mq7 H locs ls hl hR hF
        rw [ek62_8] at hF
        refine lv_iload hx hb (dk DX10_line 34 rfl) (lv_at hl 0 rfl) ?_
        refine lv_if_ne (tgt := 71) hx hb (dk DX10_line 35 rfl) (by decide) (fun c64 => ?_) (fun c64 => ?_)
        · have hF := if_f c64 hF
          refine lv_iload hx hb (dk DX10_line 38 rfl) (lv_at hl 0 rfl) ?_
          cases hF
          exact x_iret C hrt hR (dk DX10_line 39 rfl)
        · have hF := if_t c64 hF
          refine lv_iconst (v := (-1 : Int32)) hx hb (dk DX10_line 36 rfl) (by decide) ?_
          refine lv_goto (tgt := 73) hx hb (dk DX10_line 37 rfl) (by decide) ?_
          cases hF
          exact x_iret C hrt hR (dk DX10_line 39 rfl)
      have L27 : ∀ (nf : Nat) (xq10 : Int32) (mq9 : Mem) (H : Heap) (locs : List Loc) (ls : Array Slot), lv_has ls 8 [(0, .ref (G.2.1 + 0)), (1, .int a1), (4, .int a4), (5, .int a5), (6, .int xq6), (7, .int xq10)] → Rp G mr0 N0 mq9 s H locs → F_T_line_L27 a1 a4 a5 xq6 k62_8 nf xq10 mq9 = some (v, m') → W p l e (rmX 293 (ouI v)) s mid args below meth c H locs 0 0 (ZX below G mr0 N0 (ouI v) m' args s) (F0 mid 27 ls []) := by
        intro nf
        induction nf with
        | zero =>
          intro xq10 mq9 H locs ls hl hR hF
          rw [F_T_line_L27] at hF
          cases hF
        | succ nf ihq12 =>
          intro xq10 mq9 H locs ls hl hR hF
          rw [F_T_line_L27] at hF
          refine lv_iload hx hb (dk DX10_line 17 rfl) (lv_at hl 5 rfl) ?_
          refine lv_bipush (v := (100 : Int32)) hx hb (dk DX10_line 18 rfl) (by decide) ?_
          refine lv_icmp_gt (tgt := 80) hx hb (dk DX10_line 19 rfl) (by decide) (fun c31 => ?_) (fun c31 => ?_)
          · have hF := if_t c31 hF
            refine lv_iconst (v := (-1 : Int32)) hx hb (dk DX10_line 42 rfl) (by decide) ?_
            cases hF
            exact x_iret C hrt hR (dk DX10_line 43 rfl)
          · have hF := if_f c31 hF
            refine lv_aload_n hx hb (dk DX10_line 20 rfl) rfl (lv_at hl 0 rfl) ?_
            refine gX10_23 C hR ob0 rf0_3 (dk DX10_line 21 rfl) ?_
            refine lv_iconst (v := (0 : Int32)) hx hb (dk DX10_line 22 rfl) (by decide) ?_
            refine lv_iload hx hb (dk DX10_line 23 rfl) (lv_at hl 5 rfl) ?_
            refine lv_iconst (v := (0 : Int32)) hx hb (dk DX10_line 24 rfl) (by decide) ?_
            obtain ⟨uq15, mq13, hzq14, hF⟩ := bnd_ex hF
            refine r_callVv (As := [.int (0 : Int32), .int xq10, .int (b2i false)]) (rest := []) C hR (C_Od_ready l hl0 G (0 : Int32) xq10 false mq9 _ _ hzq14) (by decide) (by decide) ob2 rfl wX10_327 rfl rfl (Nat.le_of_ble_eq_true rfl) hl.1 ⟨Nat.zero_le _, Nat.zero_le _⟩ (dk DX10_line 25 rfl) (fun H locs hR => ?_)
            refine lv_aload_n hx hb (dk DX10_line 26 rfl) rfl (lv_at hl 0 rfl) ?_
            refine gX10_23 C hR ob0 rf0_3 (dk DX10_line 27 rfl) ?_
            refine lv_iload_n hx hb (dk DX10_line 28 rfl) rfl (lv_at hl 1 rfl) ?_
            refine lv_iload hx hb (dk DX10_line 29 rfl) (lv_at hl 4 rfl) ?_
            refine lv_iload hx hb (dk DX10_line 30 rfl) (lv_at hl 2 rfl) ?_
            refine lv_iload hx hb (dk DX10_line 31 rfl) (lv_at hl 3 rfl) ?_
            obtain ⟨zq18, mq16, hzq17, hF⟩ := bnd_ex hF
            refine r_callVi (As := [.int a1, .int xq6, .int a4, .int a5]) (rest := []) C hR (C_Od_choosesTold l hl0 G a1 xq6 a4 a5 mq13 _ _ hzq17) (by decide) (by decide) ob2 rfl wX10_373 rfl rfl (Nat.le_of_ble_eq_true rfl) hl.1 ⟨Nat.zero_le _, Nat.zero_le _⟩ (dk DX10_line 32 rfl) (fun H locs hR => ?_)
            refine z_ifne (tgt := 74) hx hb (dk DX10_line 33 rfl) (by decide) (fun c59 => ?_) (fun c59 => ?_)
            · have hF := if_t c59 hF
              obtain ⟨xq19, exq19, hF⟩ := lt_ex hF
              refine lv_iinc (v := xq19) (lv' := [(7, .int xq19), (0, .ref (G.2.1 + 0)), (1, .int a1), (4, .int a4), (5, .int a5), (6, .int xq6)]) hx hb (dk DX10_line 40 rfl) hl (k := 5) rfl (by rw [exq19]; rfl) (by decide) rfl (fun ls hl => ?_)
              refine lv_goto (tgt := 27) hx hb (dk DX10_line 41 rfl) (by decide) ?_
              exact ihq12 xq19 mq16 _ _ ls (lv_sub hl [1, 2, 3, 4, 5, 0] rfl) hR hF
            · have hF := if_f c59 hF
              exact J62 xq10 mq16 _ _ ls (lv_sub hl [5] rfl) hR hF
      exact L27 1000000 (0 : Int32) mq4 _ _ ls (lv_sub hl [2, 3, 6, 7, 1, 0] rfl) hR hF
    · have hF := if_t c12 hF
      refine lv_iconst (v := (-1 : Int32)) hx hb (dk DX10_line 9 rfl) (by decide) ?_
      cases hF
      exact x_iret C hrt hR (dk DX10_line 10 rfl)
set_option maxHeartbeats 4000000 in
set_option maxRecDepth 100000 in
theorem C_T_log (l : Launch) (hl0 : l.stackTraces = false) (G : GG) (a1 : Int32) (a2 : Int32) (m0 : Mem) (v : Nat ⊕ Int32) (m' : Mem) (hF : F_T_log a1 a2 m0 = some (v, m')) : CtX l G mr0 N0 yX10_log cX10_log 3 (some .int) 8 [.ref (G.2.1 + 0), .int a1, .int a2] m0 (ouI v) m' := by
  refine CtX_of hl0 (by decide) (Nat.le_of_ble_eq_true rfl) ?_
  intro p e s mid args below meth c ls C hrt hex hl hR
  have hx := C.1.1
  have hb := C.1.2.1
  have hl : lv_has ls 3 [(0, .ref (G.2.1 + 0)), (1, .int a1), (2, .int a2)] := hl
  unfold F_T_log at hF
  refine lv_iload_n hx hb (dk DX10_log 0 rfl) rfl (lv_at hl 2 rfl) ?_
  obtain ⟨k10_1, ek10_1, hF⟩ := lt_ex hF
  have J10 : ∀ (mq1 : Mem) (H : Heap) (locs : List Loc) (ls : Array Slot), lv_has ls 3 [] → Rp G mr0 N0 mq1 s H locs → k10_1  mq1 = some (v, m') → W p l e (rmX 8 (ouI v)) s mid args below meth c H locs 0 0 (ZX below G mr0 N0 (ouI v) m' args s) (F0 mid 10 ls []) := by
    intro  mq1 H locs ls hl hR hF
    rw [ek10_1] at hF
    cases hF
    exact r_throw (d := 8) (k := 4) C hex hR tX10_186 strm_X10_184 (by decide) (Nat.le_of_ble_eq_true rfl) hl.1 (dk DX10_log 5 rfl) (dk DX10_log 6 rfl) (dk DX10_log 7 rfl) (dk DX10_log 8 rfl) (dk DX10_log 9 rfl)
  refine lv_if_lt (tgt := 10) hx hb (dk DX10_log 1 rfl) (by decide) (fun c1 => ?_) (fun c1 => ?_)
  · have hF := if_t c1 hF
    exact J10 m0 _ _ ls (lv_sub hl [] rfl) hR hF
  · have hF := if_f c1 hF
    refine lv_iload_n hx hb (dk DX10_log 2 rfl) rfl (lv_at hl 2 rfl) ?_
    refine lv_bipush (v := (7 : Int32)) hx hb (dk DX10_log 3 rfl) (by decide) ?_
    refine lv_icmp_lt (tgt := 20) hx hb (dk DX10_log 4 rfl) (by decide) (fun c7 => ?_) (fun c7 => ?_)
    · have hF := if_t c7 hF
      refine lv_aload_n hx hb (dk DX10_log 10 rfl) rfl (lv_at hl 0 rfl) ?_
      refine gX10_37 C hR ob0 rf0_5 (dk DX10_log 11 rfl) ?_
      refine lv_iload_n hx hb (dk DX10_log 12 rfl) rfl (lv_at hl 1 rfl) ?_
      refine lv_iload_n hx hb (dk DX10_log 13 rfl) rfl (lv_at hl 2 rfl) ?_
      obtain ⟨xq4, mq2, hzq3, hF⟩ := bnd_ex hF
      refine r_callVi (As := [.int a1, .int a2]) (rest := []) C hR (C_Ma_logged l hl0 G a1 a2 m0 _ _ hzq3) (by decide) (by decide) ob16 rfl wX10_289 rfl rfl (Nat.le_of_ble_eq_true rfl) hl.1 ⟨Nat.zero_le _, Nat.zero_le _⟩ (dk DX10_log 14 rfl) (fun H locs hR => ?_)
      cases hF
      exact x_iret C hrt hR (dk DX10_log 15 rfl)
    · have hF := if_f c7 hF
      exact J10 m0 _ _ ls (lv_sub hl [] rfl) hR hF
set_option maxHeartbeats 4000000 in
set_option maxRecDepth 100000 in
theorem C_Ma_runsOf (l : Launch) (hl0 : l.stackTraces = false) (G : GG) (a1 : Int32) (m0 : Mem) (v : Int32) (m' : Mem) (hF : F_Ma_runsOf a1 m0 = some (v, m')) : Ct l G mr0 N0 yX5_runsOf cX5_runsOf 2 (some .int) 1 [.ref (G.2.1 + 16), .int a1] m0 (some (.int v)) m' := by
  refine Ct_of hl0 (by decide) (Nat.le_of_ble_eq_true rfl) ?_
  intro p e s mid args below meth c ls C hrt hl hR
  have hx := C.1.1
  have hb := C.1.2.1
  have hl : lv_has ls 2 [(0, .ref (G.2.1 + 16)), (1, .int a1)] := hl
  unfold F_Ma_runsOf at hF
  refine lv_iload_n hx hb (dk DX5_runsOf 0 rfl) rfl (lv_at hl 1 rfl) ?_
  refine lv_if_ne (tgt := 11) hx hb (dk DX5_runsOf 1 rfl) (by decide) (fun c1 => ?_) (fun c1 => ?_)
  · have hF := if_f c1 hF
    refine lv_aload_n hx hb (dk DX5_runsOf 5 rfl) rfl (lv_at hl 0 rfl) ?_
    refine gX5_40 C hR ob16 (dk DX5_runsOf 6 rfl) ?_
    cases hF
    exact r_iret C hrt hR (dk DX5_runsOf 7 rfl)
  · have hF := if_t c1 hF
    refine lv_aload_n hx hb (dk DX5_runsOf 2 rfl) rfl (lv_at hl 0 rfl) ?_
    refine gX5_37 C hR ob16 (dk DX5_runsOf 3 rfl) ?_
    refine lv_goto (tgt := 15) hx hb (dk DX5_runsOf 4 rfl) (by decide) ?_
    cases hF
    exact r_iret C hrt hR (dk DX5_runsOf 7 rfl)
set_option maxHeartbeats 4000000 in
set_option maxRecDepth 100000 in
theorem C_T_match (l : Launch) (hl0 : l.stackTraces = false) (G : GG) (a1 : Int32) (m0 : Mem) (v : Nat ⊕ Int32) (m' : Mem) (hF : F_T_match a1 m0 = some (v, m')) : CtX l G mr0 N0 yX10_match cX10_match 2 (some .int) 8 [.ref (G.2.1 + 0), .int a1] m0 (ouI v) m' := by
  refine CtX_of hl0 (by decide) (Nat.le_of_ble_eq_true rfl) ?_
  intro p e s mid args below meth c ls C hrt hex hl hR
  have hx := C.1.1
  have hb := C.1.2.1
  have hl : lv_has ls 2 [(0, .ref (G.2.1 + 0)), (1, .int a1)] := hl
  unfold F_T_match at hF
  refine lv_iload_n hx hb (dk DX10_match 0 rfl) rfl (lv_at hl 1 rfl) ?_
  by_cases d0 : a1 = (0 : Int32)
  · have hF := if_t d0 hF
    refine lv_tableIn (tgt := 60) hx hb (dk DX10_match 1 rfl) (by rw [d0]; decide) (by rw [d0]; decide) (by rw [d0]; rfl) (by decide) ?_
    refine lv_aload_n hx hb (dk DX10_match 2 rfl) rfl (lv_at hl 0 rfl) ?_
    refine gX10_37 C hR ob0 rf0_5 (dk DX10_match 3 rfl) ?_
    refine gX10_93 C hR ob16 (dk DX10_match 4 rfl) ?_
    cases hF
    exact x_iret C hrt hR (dk DX10_match 5 rfl)
  · have hF := if_f d0 hF
    by_cases d1 : a1 = (1 : Int32)
    · have hF := if_t d1 hF
      refine lv_tableIn (tgt := 68) hx hb (dk DX10_match 1 rfl) (by rw [d1]; decide) (by rw [d1]; decide) (by rw [d1]; rfl) (by decide) ?_
      refine lv_aload_n hx hb (dk DX10_match 6 rfl) rfl (lv_at hl 0 rfl) ?_
      refine gX10_37 C hR ob0 rf0_5 (dk DX10_match 7 rfl) ?_
      refine gX10_207 C hR ob16 (dk DX10_match 8 rfl) ?_
      cases hF
      exact x_iret C hrt hR (dk DX10_match 9 rfl)
    · have hF := if_f d1 hF
      by_cases d2 : a1 = (2 : Int32)
      · have hF := if_t d2 hF
        refine lv_tableIn (tgt := 76) hx hb (dk DX10_match 1 rfl) (by rw [d2]; decide) (by rw [d2]; decide) (by rw [d2]; rfl) (by decide) ?_
        refine lv_aload_n hx hb (dk DX10_match 10 rfl) rfl (lv_at hl 0 rfl) ?_
        refine gX10_37 C hR ob0 rf0_5 (dk DX10_match 11 rfl) ?_
        refine gX10_210 C hR ob16 (dk DX10_match 12 rfl) ?_
        cases hF
        exact x_iret C hrt hR (dk DX10_match 13 rfl)
      · have hF := if_f d2 hF
        by_cases d3 : a1 = (3 : Int32)
        · have hF := if_t d3 hF
          refine lv_tableIn (tgt := 84) hx hb (dk DX10_match 1 rfl) (by rw [d3]; decide) (by rw [d3]; decide) (by rw [d3]; rfl) (by decide) ?_
          refine lv_aload_n hx hb (dk DX10_match 14 rfl) rfl (lv_at hl 0 rfl) ?_
          refine gX10_37 C hR ob0 rf0_5 (dk DX10_match 15 rfl) ?_
          refine lv_iconst (v := (0 : Int32)) hx hb (dk DX10_match 16 rfl) (by decide) ?_
          obtain ⟨xq3, mq1, hzq2, hF⟩ := bnd_ex hF
          refine r_callVi (As := [.int (0 : Int32)]) (rest := []) C hR (C_Ma_runsOf l hl0 G (0 : Int32) m0 _ _ hzq2) (by decide) (by decide) ob16 rfl wX10_213 rfl rfl (Nat.le_of_ble_eq_true rfl) hl.1 ⟨Nat.zero_le _, Nat.zero_le _⟩ (dk DX10_match 17 rfl) (fun H locs hR => ?_)
          cases hF
          exact x_iret C hrt hR (dk DX10_match 18 rfl)
        · have hF := if_f d3 hF
          by_cases d4 : a1 = (4 : Int32)
          · have hF := if_t d4 hF
            refine lv_tableIn (tgt := 93) hx hb (dk DX10_match 1 rfl) (by rw [d4]; decide) (by rw [d4]; decide) (by rw [d4]; rfl) (by decide) ?_
            refine lv_aload_n hx hb (dk DX10_match 19 rfl) rfl (lv_at hl 0 rfl) ?_
            refine gX10_37 C hR ob0 rf0_5 (dk DX10_match 20 rfl) ?_
            refine lv_iconst (v := (1 : Int32)) hx hb (dk DX10_match 21 rfl) (by decide) ?_
            obtain ⟨xq6, mq4, hzq5, hF⟩ := bnd_ex hF
            refine r_callVi (As := [.int (1 : Int32)]) (rest := []) C hR (C_Ma_runsOf l hl0 G (1 : Int32) m0 _ _ hzq5) (by decide) (by decide) ob16 rfl wX10_213 rfl rfl (Nat.le_of_ble_eq_true rfl) hl.1 ⟨Nat.zero_le _, Nat.zero_le _⟩ (dk DX10_match 22 rfl) (fun H locs hR => ?_)
            cases hF
            exact x_iret C hrt hR (dk DX10_match 23 rfl)
          · have hF := if_f d4 hF
            by_cases d5 : a1 = (5 : Int32)
            · have hF := if_t d5 hF
              refine lv_tableIn (tgt := 102) hx hb (dk DX10_match 1 rfl) (by rw [d5]; decide) (by rw [d5]; decide) (by rw [d5]; rfl) (by decide) ?_
              refine lv_aload_n hx hb (dk DX10_match 24 rfl) rfl (lv_at hl 0 rfl) ?_
              refine gX10_37 C hR ob0 rf0_5 (dk DX10_match 25 rfl) ?_
              obtain ⟨zq9, mq7, hzq8, hF⟩ := bnd_ex hF
              refine r_callVi (As := []) (rest := []) C hR (C_Ma_isOn l hl0 G m0 _ _ hzq8) (by decide) (by decide) ob16 rfl wX10_215 rfl rfl (Nat.le_of_ble_eq_true rfl) hl.1 ⟨Nat.zero_le _, Nat.zero_le _⟩ (dk DX10_match 26 rfl) (fun H locs hR => ?_)
              refine z_ifeq (tgt := 122) hx hb (dk DX10_match 27 rfl) (by decide) (fun c109 => ?_) (fun c109 => ?_)
              · have hF := if_f c109 hF
                refine lv_iconst (v := (-1 : Int32)) hx hb (dk DX10_match 32 rfl) (by decide) ?_
                cases hF
                exact x_iret C hrt hR (dk DX10_match 33 rfl)
              · have hF := if_t c109 hF
                refine lv_aload_n hx hb (dk DX10_match 28 rfl) rfl (lv_at hl 0 rfl) ?_
                refine gX10_37 C hR ob0 rf0_5 (dk DX10_match 29 rfl) ?_
                obtain ⟨xq12, mq10, hzq11, hF⟩ := bnd_ex hF
                refine r_callVi (As := []) (rest := []) C hR (C_Ma_batting l hl0 G mq7 _ _ hzq11) (by decide) (by decide) ob16 rfl wX10_219 rfl rfl (Nat.le_of_ble_eq_true rfl) hl.1 ⟨Nat.zero_le _, Nat.zero_le _⟩ (dk DX10_match 30 rfl) (fun H locs hR => ?_)
                refine lv_goto (tgt := 123) hx hb (dk DX10_match 31 rfl) (by decide) ?_
                cases hF
                exact x_iret C hrt hR (dk DX10_match 33 rfl)
            · have hF := if_f d5 hF
              by_cases d6 : a1 = (6 : Int32)
              · have hF := if_t d6 hF
                refine lv_tableIn (tgt := 124) hx hb (dk DX10_match 1 rfl) (by rw [d6]; decide) (by rw [d6]; decide) (by rw [d6]; rfl) (by decide) ?_
                refine lv_aload_n hx hb (dk DX10_match 34 rfl) rfl (lv_at hl 0 rfl) ?_
                refine gX10_37 C hR ob0 rf0_5 (dk DX10_match 35 rfl) ?_
                refine gX10_203 C hR ob16 (dk DX10_match 36 rfl) ?_
                cases hF
                exact x_iret C hrt hR (dk DX10_match 37 rfl)
              · have hF := if_f d6 hF
                by_cases d7 : a1 = (7 : Int32)
                · have hF := if_t d7 hF
                  refine lv_tableIn (tgt := 132) hx hb (dk DX10_match 1 rfl) (by rw [d7]; decide) (by rw [d7]; decide) (by rw [d7]; rfl) (by decide) ?_
                  refine lv_aload_n hx hb (dk DX10_match 38 rfl) rfl (lv_at hl 0 rfl) ?_
                  refine gX10_37 C hR ob0 rf0_5 (dk DX10_match 39 rfl) ?_
                  refine gX10_222 C hR ob16 (dk DX10_match 40 rfl) ?_
                  refine z_ifeq (tgt := 146) hx hb (dk DX10_match 41 rfl) (by decide) (fun c139 => ?_) (fun c139 => ?_)
                  · have hF := if_f c139 hF
                    refine lv_iconst (v := (0 : Int32)) hx hb (dk DX10_match 44 rfl) (by decide) ?_
                    cases hF
                    exact x_iret C hrt hR (dk DX10_match 45 rfl)
                  · have hF := if_t c139 hF
                    refine lv_iconst (v := (1 : Int32)) hx hb (dk DX10_match 42 rfl) (by decide) ?_
                    refine lv_goto (tgt := 147) hx hb (dk DX10_match 43 rfl) (by decide) ?_
                    cases hF
                    exact x_iret C hrt hR (dk DX10_match 45 rfl)
                · have hF := if_f d7 hF
                  by_cases d8 : a1 = (8 : Int32)
                  · have hF := if_t d8 hF
                    refine lv_tableIn (tgt := 148) hx hb (dk DX10_match 1 rfl) (by rw [d8]; decide) (by rw [d8]; decide) (by rw [d8]; rfl) (by decide) ?_
                    refine lv_aload_n hx hb (dk DX10_match 46 rfl) rfl (lv_at hl 0 rfl) ?_
                    refine gX10_37 C hR ob0 rf0_5 (dk DX10_match 47 rfl) ?_
                    refine gX10_225 C hR ob16 (dk DX10_match 48 rfl) ?_
                    cases hF
                    exact x_iret C hrt hR (dk DX10_match 49 rfl)
                  · have hF := if_f d8 hF
                    by_cases d9 : a1 = (9 : Int32)
                    · have hF := if_t d9 hF
                      refine lv_tableIn (tgt := 156) hx hb (dk DX10_match 1 rfl) (by rw [d9]; decide) (by rw [d9]; decide) (by rw [d9]; rfl) (by decide) ?_
                      refine lv_aload_n hx hb (dk DX10_match 50 rfl) rfl (lv_at hl 0 rfl) ?_
                      refine gX10_37 C hR ob0 rf0_5 (dk DX10_match 51 rfl) ?_
                      refine lv_aload_n hx hb (dk DX10_match 52 rfl) rfl (lv_at hl 0 rfl) ?_
                      refine gX10_31 C hR ob0 rf0_4 (dk DX10_match 53 rfl) ?_
                      refine gX10_197 C hR ob3 (dk DX10_match 54 rfl) ?_
                      obtain ⟨zq15, mq13, hzq14, hF⟩ := bnd_ex hF
                      refine r_callVi (As := [.int (gI m0 3 4)]) (rest := []) C hR (C_Ma_mayFollow l hl0 G (gI m0 3 4) m0 _ _ hzq14) (by decide) (by decide) ob16 rfl wX10_228 rfl rfl (Nat.le_of_ble_eq_true rfl) hl.1 ⟨Nat.zero_le _, Nat.zero_le _⟩ (dk DX10_match 55 rfl) (fun H locs hR => ?_)
                      refine z_ifeq (tgt := 177) hx hb (dk DX10_match 56 rfl) (by decide) (fun c170 => ?_) (fun c170 => ?_)
                      · have hF := if_f c170 hF
                        refine lv_iconst (v := (0 : Int32)) hx hb (dk DX10_match 59 rfl) (by decide) ?_
                        cases hF
                        exact x_iret C hrt hR (dk DX10_match 60 rfl)
                      · have hF := if_t c170 hF
                        refine lv_iconst (v := (1 : Int32)) hx hb (dk DX10_match 57 rfl) (by decide) ?_
                        refine lv_goto (tgt := 178) hx hb (dk DX10_match 58 rfl) (by decide) ?_
                        cases hF
                        exact x_iret C hrt hR (dk DX10_match 60 rfl)
                    · have hF := if_f d9 hF
                      by_cases d10 : a1 = (10 : Int32)
                      · have hF := if_t d10 hF
                        refine lv_tableIn (tgt := 179) hx hb (dk DX10_match 1 rfl) (by rw [d10]; decide) (by rw [d10]; decide) (by rw [d10]; rfl) (by decide) ?_
                        refine lv_aload_n hx hb (dk DX10_match 61 rfl) rfl (lv_at hl 0 rfl) ?_
                        refine gX10_37 C hR ob0 rf0_5 (dk DX10_match 62 rfl) ?_
                        refine gX10_232 C hR ob16 (dk DX10_match 63 rfl) ?_
                        refine z_ifeq (tgt := 193) hx hb (dk DX10_match 64 rfl) (by decide) (fun c186 => ?_) (fun c186 => ?_)
                        · have hF := if_f c186 hF
                          refine lv_iconst (v := (0 : Int32)) hx hb (dk DX10_match 67 rfl) (by decide) ?_
                          cases hF
                          exact x_iret C hrt hR (dk DX10_match 68 rfl)
                        · have hF := if_t c186 hF
                          refine lv_iconst (v := (1 : Int32)) hx hb (dk DX10_match 65 rfl) (by decide) ?_
                          refine lv_goto (tgt := 194) hx hb (dk DX10_match 66 rfl) (by decide) ?_
                          cases hF
                          exact x_iret C hrt hR (dk DX10_match 68 rfl)
                      · have hF := if_f d10 hF
                        have n0 := i32_ne d0 (z := 0) rfl
                        have n1 := i32_ne d1 (z := 1) rfl
                        have n2 := i32_ne d2 (z := 2) rfl
                        have n3 := i32_ne d3 (z := 3) rfl
                        have n4 := i32_ne d4 (z := 4) rfl
                        have n5 := i32_ne d5 (z := 5) rfl
                        have n6 := i32_ne d6 (z := 6) rfl
                        have n7 := i32_ne d7 (z := 7) rfl
                        have n8 := i32_ne d8 (z := 8) rfl
                        have n9 := i32_ne d9 (z := 9) rfl
                        have n10 := i32_ne d10 (z := 10) rfl
                        refine lv_tableOut (tgt := 195) hx hb (dk DX10_match 1 rfl) (by omega) (by decide) ?_
                        cases hF
                        exact r_throw (d := 8) (k := 4) C hex hR tX10_186 strm_X10_184 (by decide) (Nat.le_of_ble_eq_true rfl) hl.1 (dk DX10_match 69 rfl) (dk DX10_match 70 rfl) (dk DX10_match 71 rfl) (dk DX10_match 72 rfl) (dk DX10_match 73 rfl)
set_option maxHeartbeats 4000000 in
set_option maxRecDepth 100000 in
theorem C_Ma_drawSlot (l : Launch) (hl0 : l.stackTraces = false) (G : GG) (m0 : Mem) (v : Int32) (m' : Mem) (hF : F_Ma_drawSlot m0 = some (v, m')) : Ct l G mr0 N0 yX5_drawSlot cX5_drawSlot 1 (some .int) 1 [.ref (G.2.1 + 16)] m0 (some (.int v)) m' := by
  refine Ct_of hl0 (by decide) (Nat.le_of_ble_eq_true rfl) ?_
  intro p e s mid args below meth c ls C hrt hl hR
  have hx := C.1.1
  have hb := C.1.2.1
  have hl : lv_has ls 1 [(0, .ref (G.2.1 + 16))] := hl
  unfold F_Ma_drawSlot at hF
  refine lv_aload_n hx hb (dk DX5_drawSlot 0 rfl) rfl (lv_at hl 0 rfl) ?_
  refine lv_ldc (v := (1103515245 : Int32)) hx hb C.1.2.2.2.1 (C.1.2.2.2.2 _ (gd q1275 rfl)) (dk DX5_drawSlot 1 rfl) ?_
  refine lv_aload_n hx hb (dk DX5_drawSlot 2 rfl) rfl (lv_at hl 0 rfl) ?_
  refine gX5_34 C hR ob16 (dk DX5_drawSlot 3 rfl) ?_
  refine lv_imul hx hb (dk DX5_drawSlot 4 rfl) ?_
  refine lv_sipush (v := (12345 : Int32)) hx hb (dk DX5_drawSlot 5 rfl) (by decide) ?_
  refine lv_iadd hx hb (dk DX5_drawSlot 6 rfl) ?_
  refine lv_topi (fun xq1 exq1 => ?_)
  have hF := lt_at exq1 hF
  refine pX5_34 (x := xq1) C hR ob16 (dk DX5_drawSlot 7 rfl) (fun H locs hR => ?_)
  obtain ⟨mq2, emq2, hF⟩ := lt_ex hF
  have hR := Rp_at emq2 hR
  refine lv_aload_n hx hb (dk DX5_drawSlot 8 rfl) rfl (lv_at hl 0 rfl) ?_
  refine gX5_34 C hR ob16 (dk DX5_drawSlot 9 rfl) ?_
  refine lv_bipush (v := (16 : Int32)) hx hb (dk DX5_drawSlot 10 rfl) (by decide) ?_
  refine lv_iushr hx hb (dk DX5_drawSlot 11 rfl) rfl ?_
  refine lv_topi (fun xq3 exq3 => ?_)
  have hF := lt_at exq3 hF
  refine lv_sipush (v := (32767 : Int32)) hx hb (dk DX5_drawSlot 12 rfl) (by decide) ?_
  refine lv_iand hx hb (dk DX5_drawSlot 13 rfl) ?_
  refine lv_iconst (v := (4 : Int32)) hx hb (dk DX5_drawSlot 14 rfl) (by decide) ?_
  refine lv_irem hx hb (dk DX5_drawSlot 15 rfl) (by decide) ?_
  refine lv_topi (fun xq4 exq4 => ?_)
  have hF := lt_at exq4 hF
  cases hF
  exact r_iret C hrt hR (dk DX5_drawSlot 16 rfl)
set_option maxHeartbeats 4000000 in
set_option maxRecDepth 100000 in
theorem C_T_play (l : Launch) (hl0 : l.stackTraces = false) (G : GG) (m0 : Mem) (v : Nat ⊕ Int32) (m' : Mem) (hF : F_T_play m0 = some (v, m')) : CtX l G mr0 N0 yX10_play cX10_play 2 (some .int) 9 [.ref (G.2.1 + 0)] m0 (ouI v) m' := by
  refine CtX_of hl0 (by decide) (Nat.le_of_ble_eq_true rfl) ?_
  intro p e s mid args below meth c ls C hrt hex hl hR
  have hx := C.1.1
  have hb := C.1.2.1
  have hl : lv_has ls 2 [(0, .ref (G.2.1 + 0))] := hl
  unfold F_T_play at hF
  refine lv_aload_n hx hb (dk DX10_play 0 rfl) rfl (lv_at hl 0 rfl) ?_
  rcases bndX_ex hF with ⟨ke, mq1, hzq2, hF⟩ | ⟨uq3, mq1, hzq2, hF⟩
  · have hM := C_T_mustBeOn l hl0 G m0 (Sum.inl ke) mq1 hzq2
    rw [show ouV (Sum.inl ke) = (Sum.inl ke : Ou) from rfl] at hM
    cases hF
    exact x_passV (d := 9) (k := ke) (As := []) (rest := []) C hex hR hM (by decide) (by decide) ob0 rfl wX10_247 rfl rfl (Nat.le_of_ble_eq_true rfl) hl.1 (dk DX10_play 1 rfl)
  · have hM := C_T_mustBeOn l hl0 G m0 (Sum.inr uq3) mq1 hzq2
    rw [show ouV (Sum.inr uq3) = (Sum.inr none : Ou) from rfl] at hM
    refine x_callVv (As := []) (rest := []) C hR hM (by decide) (by decide) ob0 rfl wX10_247 rfl rfl (Nat.le_of_ble_eq_true rfl) hl.1 ⟨Nat.zero_le _, Nat.zero_le _⟩ (dk DX10_play 1 rfl) (fun H locs hR => ?_)
    refine lv_aload_n hx hb (dk DX10_play 2 rfl) rfl (lv_at hl 0 rfl) ?_
    refine gX10_47 C hR ob0 rf0_7 (dk DX10_play 3 rfl) ?_
    refine lv_aload_n hx hb (dk DX10_play 4 rfl) rfl (lv_at hl 0 rfl) ?_
    refine gX10_37 C hR ob0 rf0_5 (dk DX10_play 5 rfl) ?_
    obtain ⟨uq6, mq4, hzq5, hF⟩ := bnd_ex hF
    refine r_callVv (As := [.ref (G.2.1 + 16)]) (rest := []) C hR (C_Pa_remember l hl0 G mq1 _ _ hzq5) (by decide) (by decide) ob20 rfl wX10_240 rfl rfl (Nat.le_of_ble_eq_true rfl) hl.1 ⟨Nat.zero_le _, Nat.zero_le _⟩ (dk DX10_play 6 rfl) (fun H locs hR => ?_)
    refine lv_aload_n hx hb (dk DX10_play 7 rfl) rfl (lv_at hl 0 rfl) ?_
    refine gX10_37 C hR ob0 rf0_5 (dk DX10_play 8 rfl) ?_
    obtain ⟨xq9, mq7, hzq8, hF⟩ := bnd_ex hF
    refine r_callVi (As := []) (rest := []) C hR (C_Ma_drawSlot l hl0 G mq4 _ _ hzq8) (by decide) (by decide) ob16 rfl wX10_250 rfl rfl (Nat.le_of_ble_eq_true rfl) hl.1 ⟨Nat.zero_le _, Nat.zero_le _⟩ (dk DX10_play 9 rfl) (fun H locs hR => ?_)
    refine lv_istore_n (lv' := [(1, .int xq9), (0, .ref (G.2.1 + 0))]) hx hb (dk DX10_play 10 rfl) rfl hl (by decide) rfl (fun ls hl => ?_)
    refine lv_aload_n hx hb (dk DX10_play 11 rfl) rfl (lv_at hl 1 rfl) ?_
    refine gX10_37 C hR ob0 rf0_5 (dk DX10_play 12 rfl) ?_
    refine lv_aload_n hx hb (dk DX10_play 13 rfl) rfl (lv_at hl 1 rfl) ?_
    refine gX10_31 C hR ob0 rf0_4 (dk DX10_play 14 rfl) ?_
    refine lv_iload_n hx hb (dk DX10_play 15 rfl) rfl (lv_at hl 0 rfl) ?_
    refine lv_iconst (v := (0 : Int32)) hx hb (dk DX10_play 16 rfl) (by decide) ?_
    obtain ⟨uq12, mq10, hzq11, hF⟩ := bnd_ex hF
    refine r_callVv (As := [.ref (G.2.1 + 3), .int xq9, .int (b2i false)]) (rest := []) C hR (C_Ma_playSession l hl0 G xq9 false mq7 _ _ hzq11) (by decide) (by decide) ob16 rfl wX10_253 rfl rfl (Nat.le_of_ble_eq_true rfl) hl.1 ⟨Nat.zero_le _, Nat.zero_le _⟩ (dk DX10_play 17 rfl) (fun H locs hR => ?_)
    refine lv_iload_n hx hb (dk DX10_play 18 rfl) rfl (lv_at hl 0 rfl) ?_
    cases hF
    exact x_iret C hrt hR (dk DX10_play 19 rfl)
set_option maxHeartbeats 4000000 in
set_option maxRecDepth 100000 in
theorem C_T_seed (l : Launch) (hl0 : l.stackTraces = false) (G : GG) (a1 : Int32) (m0 : Mem) (v : Int32) (m' : Mem) (hF : F_T_seed a1 m0 = some (v, m')) : Ct l G mr0 N0 yX10_seed cX10_seed 3 (some .int) 1 [.ref (G.2.1 + 0), .int a1] m0 (some (.int v)) m' := by
  refine Ct_of hl0 (by decide) (Nat.le_of_ble_eq_true rfl) ?_
  intro p e s mid args below meth c ls C hrt hl hR
  have hx := C.1.1
  have hb := C.1.2.1
  have hl : lv_has ls 3 [(0, .ref (G.2.1 + 0)), (1, .int a1)] := hl
  unfold F_T_seed at hF
  refine lv_aload_n hx hb (dk DX10_seed 0 rfl) rfl (lv_at hl 0 rfl) ?_
  refine gX10_37 C hR ob0 rf0_5 (dk DX10_seed 1 rfl) ?_
  refine gX10_276 C hR ob16 (dk DX10_seed 2 rfl) ?_
  refine lv_topi (fun xq1 exq1 => ?_)
  have hF := lt_at exq1 hF
  refine lv_istore_n (lv' := [(2, .int xq1), (0, .ref (G.2.1 + 0)), (1, .int a1)]) hx hb (dk DX10_seed 3 rfl) rfl hl (by decide) rfl (fun ls hl => ?_)
  refine lv_aload_n hx hb (dk DX10_seed 4 rfl) rfl (lv_at hl 1 rfl) ?_
  refine gX10_37 C hR ob0 rf0_5 (dk DX10_seed 5 rfl) ?_
  refine lv_iload_n hx hb (dk DX10_seed 6 rfl) rfl (lv_at hl 2 rfl) ?_
  refine pX10_276 (x := a1) C hR ob16 (dk DX10_seed 7 rfl) (fun H locs hR => ?_)
  obtain ⟨mq2, emq2, hF⟩ := lt_ex hF
  have hR := Rp_at emq2 hR
  refine lv_iload_n hx hb (dk DX10_seed 8 rfl) rfl (lv_at hl 0 rfl) ?_
  cases hF
  exact r_iret C hrt hR (dk DX10_seed 9 rfl)
set_option maxHeartbeats 4000000 in
set_option maxRecDepth 100000 in
theorem C_T_session (l : Launch) (hl0 : l.stackTraces = false) (G : GG) (a1 : Int32) (a2 : Int32) (m0 : Mem) (v : Nat ⊕ Int32) (m' : Mem) (hF : F_T_session a1 a2 m0 = some (v, m')) : CtX l G mr0 N0 yX10_session cX10_session 3 (some .int) 9 [.ref (G.2.1 + 0), .int a1, .int a2] m0 (ouI v) m' := by
  refine CtX_of hl0 (by decide) (Nat.le_of_ble_eq_true rfl) ?_
  intro p e s mid args below meth c ls C hrt hex hl hR
  have hx := C.1.1
  have hb := C.1.2.1
  have hl : lv_has ls 3 [(0, .ref (G.2.1 + 0)), (1, .int a1), (2, .int a2)] := hl
  unfold F_T_session at hF
  refine lv_aload_n hx hb (dk DX10_session 0 rfl) rfl (lv_at hl 0 rfl) ?_
  refine lv_iload_n hx hb (dk DX10_session 1 rfl) rfl (lv_at hl 1 rfl) ?_
  refine lv_aload_n hx hb (dk DX10_session 2 rfl) rfl (lv_at hl 0 rfl) ?_
  refine gX10_31 C hR ob0 rf0_4 (dk DX10_session 3 rfl) ?_
  refine gX10_167 C hR ob3 (dk DX10_session 4 rfl) ?_
  rcases bndX_ex hF with ⟨ke, mq1, hzq2, hF⟩ | ⟨uq3, mq1, hzq2, hF⟩
  · have hM := C_T_mustBeBelow l hl0 G a1 (gI m0 3 0) m0 (Sum.inl ke) mq1 hzq2
    rw [show ouV (Sum.inl ke) = (Sum.inl ke : Ou) from rfl] at hM
    cases hF
    exact x_passV (d := 9) (k := ke) (As := [.int a1, .int (gI m0 3 0)]) (rest := []) C hex hR hM (by decide) (by decide) ob0 rfl wX10_149 rfl rfl (Nat.le_of_ble_eq_true rfl) hl.1 (dk DX10_session 5 rfl)
  · have hM := C_T_mustBeBelow l hl0 G a1 (gI m0 3 0) m0 (Sum.inr uq3) mq1 hzq2
    rw [show ouV (Sum.inr uq3) = (Sum.inr none : Ou) from rfl] at hM
    refine x_callVv (As := [.int a1, .int (gI m0 3 0)]) (rest := []) C hR hM (by decide) (by decide) ob0 rfl wX10_149 rfl rfl (Nat.le_of_ble_eq_true rfl) hl.1 ⟨Nat.zero_le _, Nat.zero_le _⟩ (dk DX10_session 5 rfl) (fun H locs hR => ?_)
    refine lv_iload_n hx hb (dk DX10_session 6 rfl) rfl (lv_at hl 2 rfl) ?_
    by_cases d0 : a2 = (0 : Int32)
    · have hF := if_t d0 hF
      refine lv_tableIn (tgt := 44) hx hb (dk DX10_session 7 rfl) (by rw [d0]; decide) (by rw [d0]; decide) (by rw [d0]; rfl) (by decide) ?_
      refine lv_iload_n hx hb (dk DX10_session 8 rfl) rfl (lv_at hl 1 rfl) ?_
      refine lv_iconst (v := (3 : Int32)) hx hb (dk DX10_session 9 rfl) (by decide) ?_
      refine lv_idiv hx hb (dk DX10_session 10 rfl) (by decide) ?_
      cases hF
      exact x_iret C hrt hR (dk DX10_session 11 rfl)
    · have hF := if_f d0 hF
      by_cases d1 : a2 = (1 : Int32)
      · have hF := if_t d1 hF
        refine lv_tableIn (tgt := 48) hx hb (dk DX10_session 7 rfl) (by rw [d1]; decide) (by rw [d1]; decide) (by rw [d1]; rfl) (by decide) ?_
        refine lv_aload_n hx hb (dk DX10_session 12 rfl) rfl (lv_at hl 0 rfl) ?_
        refine gX10_31 C hR ob0 rf0_4 (dk DX10_session 13 rfl) ?_
        refine gX10_170 C hR ob3 (dk DX10_session 14 rfl) ?_
        refine lv_iload_n hx hb (dk DX10_session 15 rfl) rfl (lv_at hl 1 rfl) ?_
        obtain ⟨xq6, mq4, hzq5, hF⟩ := bnd_ex hF
        refine r_callSi (As := [.int (gI mq1 3 1), .int a1]) (rest := []) C hR (C_T_bitOf l hl0 G (gI mq1 3 1) a1 mq1 _ _ hzq5) (by decide) (by decide) wX10_173 rfl rfl (Nat.le_of_ble_eq_true rfl) hl.1 ⟨Nat.zero_le _, Nat.zero_le _⟩ (dk DX10_session 16 rfl) (fun H locs hR => ?_)
        cases hF
        exact x_iret C hrt hR (dk DX10_session 17 rfl)
      · have hF := if_f d1 hF
        by_cases d2 : a2 = (2 : Int32)
        · have hF := if_t d2 hF
          refine lv_tableIn (tgt := 60) hx hb (dk DX10_session 7 rfl) (by rw [d2]; decide) (by rw [d2]; decide) (by rw [d2]; rfl) (by decide) ?_
          refine lv_aload_n hx hb (dk DX10_session 18 rfl) rfl (lv_at hl 0 rfl) ?_
          refine gX10_31 C hR ob0 rf0_4 (dk DX10_session 19 rfl) ?_
          refine gX10_176 C hR ob3 (dk DX10_session 20 rfl) ?_
          refine lv_iload_n hx hb (dk DX10_session 21 rfl) rfl (lv_at hl 1 rfl) ?_
          obtain ⟨xq9, mq7, hzq8, hF⟩ := bnd_ex hF
          refine r_callSi (As := [.int (gI mq1 3 2), .int a1]) (rest := []) C hR (C_T_bitOf l hl0 G (gI mq1 3 2) a1 mq1 _ _ hzq8) (by decide) (by decide) wX10_173 rfl rfl (Nat.le_of_ble_eq_true rfl) hl.1 ⟨Nat.zero_le _, Nat.zero_le _⟩ (dk DX10_session 22 rfl) (fun H locs hR => ?_)
          cases hF
          exact x_iret C hrt hR (dk DX10_session 23 rfl)
        · have hF := if_f d2 hF
          by_cases d3 : a2 = (3 : Int32)
          · have hF := if_t d3 hF
            refine lv_tableIn (tgt := 72) hx hb (dk DX10_session 7 rfl) (by rw [d3]; decide) (by rw [d3]; decide) (by rw [d3]; rfl) (by decide) ?_
            refine lv_aload_n hx hb (dk DX10_session 24 rfl) rfl (lv_at hl 0 rfl) ?_
            refine gX10_31 C hR ob0 rf0_4 (dk DX10_session 25 rfl) ?_
            refine gX10_179 C hR ob3 (dk DX10_session 26 rfl) ?_
            refine lv_iload_n hx hb (dk DX10_session 27 rfl) rfl (lv_at hl 1 rfl) ?_
            obtain ⟨xq12, mq10, hzq11, hF⟩ := bnd_ex hF
            refine r_callSi (As := [.int (gI mq1 3 3), .int a1]) (rest := []) C hR (C_T_bitOf l hl0 G (gI mq1 3 3) a1 mq1 _ _ hzq11) (by decide) (by decide) wX10_173 rfl rfl (Nat.le_of_ble_eq_true rfl) hl.1 ⟨Nat.zero_le _, Nat.zero_le _⟩ (dk DX10_session 28 rfl) (fun H locs hR => ?_)
            cases hF
            exact x_iret C hrt hR (dk DX10_session 29 rfl)
          · have hF := if_f d3 hF
            have n0 := i32_ne d0 (z := 0) rfl
            have n1 := i32_ne d1 (z := 1) rfl
            have n2 := i32_ne d2 (z := 2) rfl
            have n3 := i32_ne d3 (z := 3) rfl
            refine lv_tableOut (tgt := 84) hx hb (dk DX10_session 7 rfl) (by omega) (by decide) ?_
            cases hF
            exact r_throw (d := 9) (k := 4) C hex hR tX10_186 strm_X10_184 (by decide) (Nat.le_of_ble_eq_true rfl) hl.1 (dk DX10_session 30 rfl) (dk DX10_session 31 rfl) (dk DX10_session 32 rfl) (dk DX10_session 33 rfl) (dk DX10_session 34 rfl)
set_option maxHeartbeats 4000000 in
set_option maxRecDepth 100000 in
theorem C_T_share (l : Launch) (hl0 : l.stackTraces = false) (G : GG) (a1 : Int32) (a2 : Int32) (m0 : Mem) (v : Nat ⊕ Int32) (m' : Mem) (hF : F_T_share a1 a2 m0 = some (v, m')) : CtX l G mr0 N0 yX10_share cX10_share 4 (some .int) 8 [.ref (G.2.1 + 0), .int a1, .int a2] m0 (ouI v) m' := by
  refine CtX_of hl0 (by decide) (Nat.le_of_ble_eq_true rfl) ?_
  intro p e s mid args below meth c ls C hrt hex hl hR
  have hx := C.1.1
  have hb := C.1.2.1
  have hl : lv_has ls 4 [(0, .ref (G.2.1 + 0)), (1, .int a1), (2, .int a2)] := hl
  unfold F_T_share at hF
  refine lv_iload_n hx hb (dk DX10_share 0 rfl) rfl (lv_at hl 1 rfl) ?_
  obtain ⟨k18_1, ek18_1, hF⟩ := lt_ex hF
  have J18 : ∀ (mq1 : Mem) (H : Heap) (locs : List Loc) (ls : Array Slot), lv_has ls 4 [] → Rp G mr0 N0 mq1 s H locs → k18_1  mq1 = some (v, m') → W p l e (rmX 8 (ouI v)) s mid args below meth c H locs 0 0 (ZX below G mr0 N0 (ouI v) m' args s) (F0 mid 18 ls []) := by
    intro  mq1 H locs ls hl hR hF
    rw [ek18_1] at hF
    cases hF
    exact r_throw (d := 8) (k := 4) C hex hR tX10_186 strm_X10_184 (by decide) (Nat.le_of_ble_eq_true rfl) hl.1 (dk DX10_share 10 rfl) (dk DX10_share 11 rfl) (dk DX10_share 12 rfl) (dk DX10_share 13 rfl) (dk DX10_share 14 rfl)
  refine lv_if_lt (tgt := 18) hx hb (dk DX10_share 1 rfl) (by decide) (fun c1 => ?_) (fun c1 => ?_)
  · have hF := if_t c1 hF
    exact J18 m0 _ _ ls (lv_sub hl [] rfl) hR hF
  · have hF := if_f c1 hF
    refine lv_iload_n hx hb (dk DX10_share 2 rfl) rfl (lv_at hl 1 rfl) ?_
    refine lv_iconst (v := (5 : Int32)) hx hb (dk DX10_share 3 rfl) (by decide) ?_
    refine lv_icmp_gt (tgt := 18) hx hb (dk DX10_share 4 rfl) (by decide) (fun c6 => ?_) (fun c6 => ?_)
    · have hF := if_t c6 hF
      exact J18 m0 _ _ ls (lv_sub hl [] rfl) hR hF
    · have hF := if_f c6 hF
      refine lv_iload_n hx hb (dk DX10_share 5 rfl) rfl (lv_at hl 2 rfl) ?_
      refine lv_if_lt (tgt := 18) hx hb (dk DX10_share 6 rfl) (by decide) (fun c10 => ?_) (fun c10 => ?_)
      · have hF := if_t c10 hF
        exact J18 m0 _ _ ls (lv_sub hl [] rfl) hR hF
      · have hF := if_f c10 hF
        refine lv_iload_n hx hb (dk DX10_share 7 rfl) rfl (lv_at hl 2 rfl) ?_
        refine lv_iconst (v := (5 : Int32)) hx hb (dk DX10_share 8 rfl) (by decide) ?_
        refine lv_icmp_le (tgt := 28) hx hb (dk DX10_share 9 rfl) (by decide) (fun c15 => ?_) (fun c15 => ?_)
        · have hF := if_t c15 hF
          refine lv_aload_n hx hb (dk DX10_share 15 rfl) rfl (lv_at hl 0 rfl) ?_
          refine gX10_31 C hR ob0 rf0_4 (dk DX10_share 16 rfl) ?_
          refine gX10_96 C hR ob3 rf3_12 (dk DX10_share 17 rfl) ?_
          refine lv_iload_n hx hb (dk DX10_share 18 rfl) rfl (lv_at hl 2 rfl) ?_
          obtain ⟨xq4, mq2, hzq3, hF⟩ := bnd_ex hF
          refine r_callVi (As := [.int a2]) (rest := []) C hR (C_Bk_tally l hl0 G a2 m0 _ _ hzq3) (by decide) (by decide) ob12 rfl wX10_380 rfl rfl (Nat.le_of_ble_eq_true rfl) hl.1 ⟨Nat.zero_le _, Nat.zero_le _⟩ (dk DX10_share 19 rfl) (fun H locs hR => ?_)
          refine lv_istore_n (lv' := [(3, .int xq4), (0, .ref (G.2.1 + 0)), (1, .int a1), (2, .int a2)]) hx hb (dk DX10_share 20 rfl) rfl hl (by decide) rfl (fun ls hl => ?_)
          refine lv_iload_n hx hb (dk DX10_share 21 rfl) rfl (lv_at hl 0 rfl) ?_
          refine lv_if_gt (tgt := 48) hx hb (dk DX10_share 22 rfl) (by decide) (fun c41 => ?_) (fun c41 => ?_)
          · have hF := if_t c41 hF
            refine lv_aload_n hx hb (dk DX10_share 25 rfl) rfl (lv_at hl 1 rfl) ?_
            refine gX10_31 C hR ob0 rf0_4 (dk DX10_share 26 rfl) ?_
            refine gX10_96 C hR ob3 rf3_12 (dk DX10_share 27 rfl) ?_
            refine lv_iload_n hx hb (dk DX10_share 28 rfl) rfl (lv_at hl 2 rfl) ?_
            obtain ⟨xq7, mq5, hzq6, hF⟩ := bnd_ex hF
            refine r_callVi (As := [.int a1]) (rest := []) C hR (C_Bk_tally l hl0 G a1 mq2 _ _ hzq6) (by decide) (by decide) ob12 rfl wX10_380 rfl rfl (Nat.le_of_ble_eq_true rfl) hl.1 ⟨Nat.zero_le _, Nat.zero_le _⟩ (dk DX10_share 29 rfl) (fun H locs hR => ?_)
            refine lv_sipush (v := (10000 : Int32)) hx hb (dk DX10_share 30 rfl) (by decide) ?_
            refine lv_imul hx hb (dk DX10_share 31 rfl) ?_
            refine lv_iload_n hx hb (dk DX10_share 32 rfl) rfl (lv_at hl 0 rfl) ?_
            obtain ⟨hq8, hF⟩ := ckB_ex hF
            refine lv_idiv hx hb (dk DX10_share 33 rfl) (by simpa using hq8) ?_
            cases hF
            exact x_iret C hrt hR (dk DX10_share 34 rfl)
          · have hF := if_f c41 hF
            refine lv_iconst (v := (0 : Int32)) hx hb (dk DX10_share 23 rfl) (by decide) ?_
            refine lv_goto (tgt := 65) hx hb (dk DX10_share 24 rfl) (by decide) ?_
            cases hF
            exact x_iret C hrt hR (dk DX10_share 34 rfl)
        · have hF := if_f c15 hF
          exact J18 m0 _ _ ls (lv_sub hl [] rfl) hR hF
set_option maxHeartbeats 4000000 in
set_option maxRecDepth 100000 in
theorem C_T_side (l : Launch) (hl0 : l.stackTraces = false) (G : GG) (a1 : Int32) (a2 : Bool) (m0 : Mem) (v : Nat ⊕ Int32) (m' : Mem) (hF : F_T_side a1 a2 m0 = some (v, m')) : CtX l G mr0 N0 yX10_side cX10_side 3 (some .int) 9 [.ref (G.2.1 + 0), .int a1, .int (b2i a2)] m0 (ouI v) m' := by
  refine CtX_of hl0 (by decide) (Nat.le_of_ble_eq_true rfl) ?_
  intro p e s mid args below meth c ls C hrt hex hl hR
  have hx := C.1.1
  have hb := C.1.2.1
  have hl : lv_has ls 3 [(0, .ref (G.2.1 + 0)), (1, .int a1), (2, .int (b2i a2))] := hl
  unfold F_T_side at hF
  refine lv_aload_n hx hb (dk DX10_side 0 rfl) rfl (lv_at hl 0 rfl) ?_
  refine lv_iload_n hx hb (dk DX10_side 1 rfl) rfl (lv_at hl 1 rfl) ?_
  refine lv_iconst (v := (2 : Int32)) hx hb (dk DX10_side 2 rfl) (by decide) ?_
  rcases bndX_ex hF with ⟨ke, mq1, hzq2, hF⟩ | ⟨uq3, mq1, hzq2, hF⟩
  · have hM := C_T_mustBeBelow l hl0 G a1 (2 : Int32) m0 (Sum.inl ke) mq1 hzq2
    rw [show ouV (Sum.inl ke) = (Sum.inl ke : Ou) from rfl] at hM
    cases hF
    exact x_passV (d := 9) (k := ke) (As := [.int a1, .int (2 : Int32)]) (rest := []) C hex hR hM (by decide) (by decide) ob0 rfl wX10_149 rfl rfl (Nat.le_of_ble_eq_true rfl) hl.1 (dk DX10_side 3 rfl)
  · have hM := C_T_mustBeBelow l hl0 G a1 (2 : Int32) m0 (Sum.inr uq3) mq1 hzq2
    rw [show ouV (Sum.inr uq3) = (Sum.inr none : Ou) from rfl] at hM
    refine x_callVv (As := [.int a1, .int (2 : Int32)]) (rest := []) C hR hM (by decide) (by decide) ob0 rfl wX10_149 rfl rfl (Nat.le_of_ble_eq_true rfl) hl.1 ⟨Nat.zero_le _, Nat.zero_le _⟩ (dk DX10_side 3 rfl) (fun H locs hR => ?_)
    refine lv_iload_n hx hb (dk DX10_side 4 rfl) rfl (lv_at hl 2 rfl) ?_
    refine z_ifeq (tgt := 21) hx hb (dk DX10_side 5 rfl) (by decide) (fun c7 => ?_) (fun c7 => ?_)
    · have hF := if_f c7 hF
      refine lv_aload_n hx hb (dk DX10_side 11 rfl) rfl (lv_at hl 0 rfl) ?_
      refine gX10_31 C hR ob0 rf0_4 (dk DX10_side 12 rfl) ?_
      refine lv_iload_n hx hb (dk DX10_side 13 rfl) rfl (lv_at hl 1 rfl) ?_
      obtain ⟨xq6, mq4, hzq5, hF⟩ := bnd_ex hF
      refine r_callVi (As := [.int a1]) (rest := []) C hR (C_Gr_batOf l hl0 G a1 mq1 _ _ hzq5) (by decide) (by decide) ob3 rfl wX10_157 rfl rfl (Nat.le_of_ble_eq_true rfl) hl.1 ⟨Nat.zero_le _, Nat.zero_le _⟩ (dk DX10_side 14 rfl) (fun H locs hR => ?_)
      cases hF
      exact x_iret C hrt hR (dk DX10_side 15 rfl)
    · have hF := if_t c7 hF
      refine lv_aload_n hx hb (dk DX10_side 6 rfl) rfl (lv_at hl 0 rfl) ?_
      refine gX10_31 C hR ob0 rf0_4 (dk DX10_side 7 rfl) ?_
      refine lv_iload_n hx hb (dk DX10_side 8 rfl) rfl (lv_at hl 1 rfl) ?_
      obtain ⟨xq9, mq7, hzq8, hF⟩ := bnd_ex hF
      refine r_callVi (As := [.int a1]) (rest := []) C hR (C_Gr_bowlOf l hl0 G a1 mq1 _ _ hzq8) (by decide) (by decide) ob3 rfl wX10_153 rfl rfl (Nat.le_of_ble_eq_true rfl) hl.1 ⟨Nat.zero_le _, Nat.zero_le _⟩ (dk DX10_side 9 rfl) (fun H locs hR => ?_)
      refine lv_goto (tgt := 29) hx hb (dk DX10_side 10 rfl) (by decide) ?_
      cases hF
      exact x_iret C hrt hR (dk DX10_side 15 rfl)
set_option maxHeartbeats 4000000 in
set_option maxRecDepth 100000 in
theorem C_Mo_swungWith (l : Launch) (hl0 : l.stackTraces = false) (G : GG) (a1 : Int32) (m0 : Mem) (v : Int32) (m' : Mem) (hF : F_Mo_swungWith a1 m0 = some (v, m')) : Ct l G mr0 N0 yX6_swungWith cX6_swungWith 2 (some .int) 1 [.ref (G.2.1 + 61), .int a1] m0 (some (.int v)) m' := by
  refine Ct_of hl0 (by decide) (Nat.le_of_ble_eq_true rfl) ?_
  intro p e s mid args below meth c ls C hrt hl hR
  have hx := C.1.1
  have hb := C.1.2.1
  have hl : lv_has ls 2 [(0, .ref (G.2.1 + 61)), (1, .int a1)] := hl
  unfold F_Mo_swungWith at hF
  refine lv_iload_n hx hb (dk DX6_swungWith 0 rfl) rfl (lv_at hl 1 rfl) ?_
  refine lv_if_lt (tgt := 10) hx hb (dk DX6_swungWith 1 rfl) (by decide) (fun c1 => ?_) (fun c1 => ?_)
  · have hF := if_t c1 hF
    refine lv_iconst (v := (0 : Int32)) hx hb (dk DX6_swungWith 5 rfl) (by decide) ?_
    refine lv_goto (tgt := 20) hx hb (dk DX6_swungWith 6 rfl) (by decide) ?_
    cases hF
    exact r_iret C hrt hR (dk DX6_swungWith 11 rfl)
  · have hF := if_f c1 hF
    refine lv_iload_n hx hb (dk DX6_swungWith 2 rfl) rfl (lv_at hl 1 rfl) ?_
    refine lv_bipush (v := (16 : Int32)) hx hb (dk DX6_swungWith 3 rfl) (by decide) ?_
    refine lv_icmp_lt (tgt := 14) hx hb (dk DX6_swungWith 4 rfl) (by decide) (fun c7 => ?_) (fun c7 => ?_)
    · have hF := if_t c7 hF
      refine lv_aload_n hx hb (dk DX6_swungWith 7 rfl) rfl (lv_at hl 0 rfl) ?_
      refine gX6_9 C hR ob61 rf61_0 (dk DX6_swungWith 8 rfl) ?_
      refine lv_iload_n hx hb (dk DX6_swungWith 9 rfl) rfl (lv_at hl 1 rfl) ?_
      obtain ⟨hq1, hF⟩ := ckB_ex hF
      refine r_iald C hR ob62 hq1 (dk DX6_swungWith 10 rfl) ?_
      refine lv_topi (fun xq2 exq2 => ?_)
      have hF := lt_at exq2 hF
      cases hF
      exact r_iret C hrt hR (dk DX6_swungWith 11 rfl)
    · have hF := if_f c7 hF
      refine lv_iconst (v := (0 : Int32)) hx hb (dk DX6_swungWith 5 rfl) (by decide) ?_
      refine lv_goto (tgt := 20) hx hb (dk DX6_swungWith 6 rfl) (by decide) ?_
      cases hF
      exact r_iret C hrt hR (dk DX6_swungWith 11 rfl)
set_option maxHeartbeats 4000000 in
set_option maxRecDepth 100000 in
theorem C_Mo_stillWith (l : Launch) (hl0 : l.stackTraces = false) (G : GG) (a1 : Int32) (m0 : Mem) (v : Int32) (m' : Mem) (hF : F_Mo_stillWith a1 m0 = some (v, m')) : Ct l G mr0 N0 yX6_stillWith cX6_stillWith 2 (some .int) 1 [.ref (G.2.1 + 61), .int a1] m0 (some (.int v)) m' := by
  refine Ct_of hl0 (by decide) (Nat.le_of_ble_eq_true rfl) ?_
  intro p e s mid args below meth c ls C hrt hl hR
  have hx := C.1.1
  have hb := C.1.2.1
  have hl : lv_has ls 2 [(0, .ref (G.2.1 + 61)), (1, .int a1)] := hl
  unfold F_Mo_stillWith at hF
  refine lv_iload_n hx hb (dk DX6_stillWith 0 rfl) rfl (lv_at hl 1 rfl) ?_
  refine lv_if_lt (tgt := 10) hx hb (dk DX6_stillWith 1 rfl) (by decide) (fun c1 => ?_) (fun c1 => ?_)
  · have hF := if_t c1 hF
    refine lv_iconst (v := (0 : Int32)) hx hb (dk DX6_stillWith 5 rfl) (by decide) ?_
    refine lv_goto (tgt := 20) hx hb (dk DX6_stillWith 6 rfl) (by decide) ?_
    cases hF
    exact r_iret C hrt hR (dk DX6_stillWith 11 rfl)
  · have hF := if_f c1 hF
    refine lv_iload_n hx hb (dk DX6_stillWith 2 rfl) rfl (lv_at hl 1 rfl) ?_
    refine lv_bipush (v := (16 : Int32)) hx hb (dk DX6_stillWith 3 rfl) (by decide) ?_
    refine lv_icmp_lt (tgt := 14) hx hb (dk DX6_stillWith 4 rfl) (by decide) (fun c7 => ?_) (fun c7 => ?_)
    · have hF := if_t c7 hF
      refine lv_aload_n hx hb (dk DX6_stillWith 7 rfl) rfl (lv_at hl 0 rfl) ?_
      refine gX6_13 C hR ob61 rf61_1 (dk DX6_stillWith 8 rfl) ?_
      refine lv_iload_n hx hb (dk DX6_stillWith 9 rfl) rfl (lv_at hl 1 rfl) ?_
      obtain ⟨hq1, hF⟩ := ckB_ex hF
      refine r_iald C hR ob63 hq1 (dk DX6_stillWith 10 rfl) ?_
      refine lv_topi (fun xq2 exq2 => ?_)
      have hF := lt_at exq2 hF
      cases hF
      exact r_iret C hrt hR (dk DX6_stillWith 11 rfl)
    · have hF := if_f c7 hF
      refine lv_iconst (v := (0 : Int32)) hx hb (dk DX6_stillWith 5 rfl) (by decide) ?_
      refine lv_goto (tgt := 20) hx hb (dk DX6_stillWith 6 rfl) (by decide) ?_
      cases hF
      exact r_iret C hrt hR (dk DX6_stillWith 11 rfl)
set_option maxHeartbeats 4000000 in
set_option maxRecDepth 100000 in
theorem C_T_signs (l : Launch) (hl0 : l.stackTraces = false) (G : GG) (a1 : Int32) (a2 : Int32) (a3 : Bool) (m0 : Mem) (v : Nat ⊕ Int32) (m' : Mem) (hF : F_T_signs a1 a2 a3 m0 = some (v, m')) : CtX l G mr0 N0 yX10_signs cX10_signs 5 (some .int) 8 [.ref (G.2.1 + 0), .int a1, .int a2, .int (b2i a3)] m0 (ouI v) m' := by
  refine CtX_of hl0 (by decide) (Nat.le_of_ble_eq_true rfl) ?_
  intro p e s mid args below meth c ls C hrt hex hl hR
  have hx := C.1.1
  have hb := C.1.2.1
  have hl : lv_has ls 5 [(0, .ref (G.2.1 + 0)), (1, .int a1), (2, .int a2), (3, .int (b2i a3))] := hl
  unfold F_T_signs at hF
  refine lv_aload_n hx hb (dk DX10_signs 0 rfl) rfl (lv_at hl 0 rfl) ?_
  obtain ⟨xq3, mq1, hzq2, hF⟩ := bnd_ex hF
  refine r_callVi (As := []) (rest := []) C hR (C_T_useTape l hl0 G m0 _ _ hzq2) (by decide) (by decide) ob0 rfl wX10_89 rfl rfl (Nat.le_of_ble_eq_true rfl) hl.1 ⟨Nat.zero_le _, Nat.zero_le _⟩ (dk DX10_signs 1 rfl) (fun H locs hR => ?_)
  refine lv_istore (lv' := [(4, .int xq3), (0, .ref (G.2.1 + 0)), (1, .int a1), (2, .int a2), (3, .int (b2i a3))]) hx hb (dk DX10_signs 2 rfl) hl (by decide) rfl (fun ls hl => ?_)
  refine lv_aload_n hx hb (dk DX10_signs 3 rfl) rfl (lv_at hl 1 rfl) ?_
  refine lv_iload hx hb (dk DX10_signs 4 rfl) (lv_at hl 0 rfl) ?_
  obtain ⟨zq6, mq4, hzq5, hF⟩ := bnd_ex hF
  refine r_callVi (As := [.int xq3]) (rest := []) C hR (C_T_tapeIsMornings l hl0 G xq3 mq1 _ _ hzq5) (by decide) (by decide) ob0 rfl wX10_386 rfl rfl (Nat.le_of_ble_eq_true rfl) hl.1 ⟨Nat.zero_le _, Nat.zero_le _⟩ (dk DX10_signs 5 rfl) (fun H locs hR => ?_)
  obtain ⟨k33_7, ek33_7, hF⟩ := lt_ex hF
  have J33 : ∀ (mq7 : Mem) (H : Heap) (locs : List Loc) (ls : Array Slot), lv_has ls 5 [] → Rp G mr0 N0 mq7 s H locs → k33_7  mq7 = some (v, m') → W p l e (rmX 8 (ouI v)) s mid args below meth c H locs 0 0 (ZX below G mr0 N0 (ouI v) m' args s) (F0 mid 33 ls []) := by
    intro  mq7 H locs ls hl hR hF
    rw [ek33_7] at hF
    cases hF
    exact r_throwW (d := 8) (k := 1) C hex hR tX10_113 strm_X10_389 (by decide) (Nat.le_of_ble_eq_true rfl) hl.1 (dk DX10_signs 17 rfl) (dk DX10_signs 18 rfl) (dk DX10_signs 19 rfl) (dk DX10_signs 20 rfl) (dk DX10_signs 21 rfl)
  refine z_ifeq (tgt := 33) hx hb (dk DX10_signs 6 rfl) (by decide) (fun c12 => ?_) (fun c12 => ?_)
  · have hF := if_f c12 hF
    exact J33 mq4 _ _ ls (lv_sub hl [] rfl) hR hF
  · have hF := if_t c12 hF
    refine lv_iload_n hx hb (dk DX10_signs 7 rfl) rfl (lv_at hl 2 rfl) ?_
    refine lv_if_lt (tgt := 33) hx hb (dk DX10_signs 8 rfl) (by decide) (fun c16 => ?_) (fun c16 => ?_)
    · have hF := if_t c16 hF
      exact J33 mq4 _ _ ls (lv_sub hl [] rfl) hR hF
    · have hF := if_f c16 hF
      refine lv_iload_n hx hb (dk DX10_signs 9 rfl) rfl (lv_at hl 2 rfl) ?_
      refine lv_iconst (v := (2 : Int32)) hx hb (dk DX10_signs 10 rfl) (by decide) ?_
      refine lv_icmp_gt (tgt := 33) hx hb (dk DX10_signs 11 rfl) (by decide) (fun c21 => ?_) (fun c21 => ?_)
      · have hF := if_t c21 hF
        exact J33 mq4 _ _ ls (lv_sub hl [] rfl) hR hF
      · have hF := if_f c21 hF
        refine lv_iload_n hx hb (dk DX10_signs 12 rfl) rfl (lv_at hl 3 rfl) ?_
        refine lv_if_lt (tgt := 33) hx hb (dk DX10_signs 13 rfl) (by decide) (fun c25 => ?_) (fun c25 => ?_)
        · have hF := if_t c25 hF
          exact J33 mq4 _ _ ls (lv_sub hl [] rfl) hR hF
        · have hF := if_f c25 hF
          refine lv_iload_n hx hb (dk DX10_signs 14 rfl) rfl (lv_at hl 3 rfl) ?_
          refine lv_iconst (v := (3 : Int32)) hx hb (dk DX10_signs 15 rfl) (by decide) ?_
          refine lv_icmp_le (tgt := 44) hx hb (dk DX10_signs 16 rfl) (by decide) (fun c30 => ?_) (fun c30 => ?_)
          · have hF := if_t c30 hF
            refine lv_aload_n hx hb (dk DX10_signs 22 rfl) rfl (lv_at hl 1 rfl) ?_
            refine gX10_68 C hR ob0 rf0_10 (dk DX10_signs 23 rfl) ?_
            refine lv_aload_n hx hb (dk DX10_signs 24 rfl) rfl (lv_at hl 1 rfl) ?_
            refine gX10_9 C hR ob0 rf0_0 (dk DX10_signs 25 rfl) ?_
            refine lv_iload hx hb (dk DX10_signs 26 rfl) (lv_at hl 0 rfl) ?_
            refine lv_iload_n hx hb (dk DX10_signs 27 rfl) rfl (lv_at hl 2 rfl) ?_
            refine lv_iload_n hx hb (dk DX10_signs 28 rfl) rfl (lv_at hl 2 rfl) ?_
            obtain ⟨uq10, mq8, hzq9, hF⟩ := bnd_ex hF
            refine r_callVv (As := [.ref (G.2.1 + 1), .int xq3, .int a1, .int a1]) (rest := []) C hR (C_Mo_sort l hl0 G xq3 a1 a1 mq4 _ _ hzq9) (by decide) (by decide) ob61 rfl wX10_391 rfl rfl (Nat.le_of_ble_eq_true rfl) hl.1 ⟨Nat.zero_le _, Nat.zero_le _⟩ (dk DX10_signs 29 rfl) (fun H locs hR => ?_)
            refine lv_aload_n hx hb (dk DX10_signs 30 rfl) rfl (lv_at hl 1 rfl) ?_
            refine gX10_68 C hR ob0 rf0_10 (dk DX10_signs 31 rfl) ?_
            refine lv_iload_n hx hb (dk DX10_signs 32 rfl) rfl (lv_at hl 3 rfl) ?_
            obtain ⟨xq13, mq11, hzq12, hF⟩ := bnd_ex hF
            refine r_callVi (As := [.int a2]) (rest := []) C hR (C_Mo_swungWith l hl0 G a2 mq8 _ _ hzq12) (by decide) (by decide) ob61 rfl wX10_395 rfl rfl (Nat.le_of_ble_eq_true rfl) hl.1 ⟨Nat.zero_le _, Nat.zero_le _⟩ (dk DX10_signs 33 rfl) (fun H locs hR => ?_)
            refine lv_iload_n hx hb (dk DX10_signs 34 rfl) rfl (lv_at hl 4 rfl) ?_
            obtain ⟨k83_15, ek83_15, hF⟩ := lt_ex hF
            have J83 : ∀ (xq15 : Int32) (mq14 : Mem) (H : Heap) (locs : List Loc) (ls : Array Slot), lv_has ls 5 [] → Rp G mr0 N0 mq14 s H locs → k83_15 xq15 mq14 = some (v, m') → W p l e (rmX 8 (ouI v)) s mid args below meth c H locs 0 0 (ZX below G mr0 N0 (ouI v) m' args s) (F0 mid 83 ls [.int xq15, .int xq13]) := by
              intro xq15 mq14 H locs ls hl hR hF
              rw [ek83_15] at hF
              refine lv_iadd hx hb (dk DX10_signs 42 rfl) ?_
              cases hF
              exact x_iret C hrt hR (dk DX10_signs 43 rfl)
            refine z_ifeq (tgt := 75) hx hb (dk DX10_signs 35 rfl) (by decide) (fun c68 => ?_) (fun c68 => ?_)
            · have hF := if_f c68 hF
              refine lv_aload_n hx hb (dk DX10_signs 38 rfl) rfl (lv_at hl 1 rfl) ?_
              refine gX10_68 C hR ob0 rf0_10 (dk DX10_signs 39 rfl) ?_
              refine lv_iload_n hx hb (dk DX10_signs 40 rfl) rfl (lv_at hl 3 rfl) ?_
              obtain ⟨xq18, mq16, hzq17, hF⟩ := bnd_ex hF
              refine r_callVi (As := [.int a2]) (rest := [.int xq13]) C hR (C_Mo_stillWith l hl0 G a2 mq11 _ _ hzq17) (by decide) (by decide) ob61 rfl wX10_398 rfl rfl (Nat.le_of_ble_eq_true rfl) hl.1 ⟨Nat.zero_le _, Nat.zero_le _⟩ (dk DX10_signs 41 rfl) (fun H locs hR => ?_)
              exact J83 xq18 mq16 _ _ ls (lv_sub hl [] rfl) hR hF
            · have hF := if_t c68 hF
              refine lv_iconst (v := (0 : Int32)) hx hb (dk DX10_signs 36 rfl) (by decide) ?_
              refine lv_goto (tgt := 83) hx hb (dk DX10_signs 37 rfl) (by decide) ?_
              exact J83 (0 : Int32) mq11 _ _ ls (lv_sub hl [] rfl) hR hF
          · have hF := if_f c30 hF
            exact J33 mq4 _ _ ls (lv_sub hl [] rfl) hR hF
set_option maxHeartbeats 4000000 in
set_option maxRecDepth 100000 in
theorem C_T_slot (l : Launch) (hl0 : l.stackTraces = false) (G : GG) (a1 : Int32) (a2 : Int32) (a3 : Bool) (m0 : Mem) (v : Nat ⊕ Int32) (m' : Mem) (hF : F_T_slot a1 a2 a3 m0 = some (v, m')) : CtX l G mr0 N0 yX10_slot cX10_slot 4 (some .int) 9 [.ref (G.2.1 + 0), .int a1, .int a2, .int (b2i a3)] m0 (ouI v) m' := by
  refine CtX_of hl0 (by decide) (Nat.le_of_ble_eq_true rfl) ?_
  intro p e s mid args below meth c ls C hrt hex hl hR
  have hx := C.1.1
  have hb := C.1.2.1
  have hl : lv_has ls 4 [(0, .ref (G.2.1 + 0)), (1, .int a1), (2, .int a2), (3, .int (b2i a3))] := hl
  unfold F_T_slot at hF
  refine lv_aload_n hx hb (dk DX10_slot 0 rfl) rfl (lv_at hl 0 rfl) ?_
  refine lv_iload_n hx hb (dk DX10_slot 1 rfl) rfl (lv_at hl 1 rfl) ?_
  refine lv_iconst (v := (4 : Int32)) hx hb (dk DX10_slot 2 rfl) (by decide) ?_
  rcases bndX_ex hF with ⟨ke, mq1, hzq2, hF⟩ | ⟨uq3, mq1, hzq2, hF⟩
  · have hM := C_T_mustBeBelow l hl0 G a1 (4 : Int32) m0 (Sum.inl ke) mq1 hzq2
    rw [show ouV (Sum.inl ke) = (Sum.inl ke : Ou) from rfl] at hM
    cases hF
    exact x_passV (d := 9) (k := ke) (As := [.int a1, .int (4 : Int32)]) (rest := []) C hex hR hM (by decide) (by decide) ob0 rfl wX10_149 rfl rfl (Nat.le_of_ble_eq_true rfl) hl.1 (dk DX10_slot 3 rfl)
  · have hM := C_T_mustBeBelow l hl0 G a1 (4 : Int32) m0 (Sum.inr uq3) mq1 hzq2
    rw [show ouV (Sum.inr uq3) = (Sum.inr none : Ou) from rfl] at hM
    refine x_callVv (As := [.int a1, .int (4 : Int32)]) (rest := []) C hR hM (by decide) (by decide) ob0 rfl wX10_149 rfl rfl (Nat.le_of_ble_eq_true rfl) hl.1 ⟨Nat.zero_le _, Nat.zero_le _⟩ (dk DX10_slot 3 rfl) (fun H locs hR => ?_)
    refine lv_aload_n hx hb (dk DX10_slot 4 rfl) rfl (lv_at hl 0 rfl) ?_
    refine lv_iload_n hx hb (dk DX10_slot 5 rfl) rfl (lv_at hl 2 rfl) ?_
    refine lv_iconst (v := (4 : Int32)) hx hb (dk DX10_slot 6 rfl) (by decide) ?_
    rcases bndX_ex hF with ⟨ke, mq4, hzq5, hF⟩ | ⟨uq6, mq4, hzq5, hF⟩
    · have hM := C_T_mustBeBelow l hl0 G a2 (4 : Int32) mq1 (Sum.inl ke) mq4 hzq5
      rw [show ouV (Sum.inl ke) = (Sum.inl ke : Ou) from rfl] at hM
      cases hF
      exact x_passV (d := 9) (k := ke) (As := [.int a2, .int (4 : Int32)]) (rest := []) C hex hR hM (by decide) (by decide) ob0 rfl wX10_149 rfl rfl (Nat.le_of_ble_eq_true rfl) hl.1 (dk DX10_slot 7 rfl)
    · have hM := C_T_mustBeBelow l hl0 G a2 (4 : Int32) mq1 (Sum.inr uq6) mq4 hzq5
      rw [show ouV (Sum.inr uq6) = (Sum.inr none : Ou) from rfl] at hM
      refine x_callVv (As := [.int a2, .int (4 : Int32)]) (rest := []) C hR hM (by decide) (by decide) ob0 rfl wX10_149 rfl rfl (Nat.le_of_ble_eq_true rfl) hl.1 ⟨Nat.zero_le _, Nat.zero_le _⟩ (dk DX10_slot 7 rfl) (fun H locs hR => ?_)
      refine lv_iload_n hx hb (dk DX10_slot 8 rfl) rfl (lv_at hl 3 rfl) ?_
      refine z_ifeq (tgt := 28) hx hb (dk DX10_slot 9 rfl) (by decide) (fun c13 => ?_) (fun c13 => ?_)
      · have hF := if_f c13 hF
        refine lv_aload_n hx hb (dk DX10_slot 16 rfl) rfl (lv_at hl 0 rfl) ?_
        refine gX10_31 C hR ob0 rf0_4 (dk DX10_slot 17 rfl) ?_
        refine lv_iload_n hx hb (dk DX10_slot 18 rfl) rfl (lv_at hl 1 rfl) ?_
        refine lv_iload_n hx hb (dk DX10_slot 19 rfl) rfl (lv_at hl 2 rfl) ?_
        obtain ⟨xq9, mq7, hzq8, hF⟩ := bnd_ex hF
        refine r_callVi (As := [.int a1, .int a2]) (rest := []) C hR (C_Gr_runsOf l hl0 G a1 a2 mq4 _ _ hzq8) (by decide) (by decide) ob3 rfl wX10_164 rfl rfl (Nat.le_of_ble_eq_true rfl) hl.1 ⟨Nat.zero_le _, Nat.zero_le _⟩ (dk DX10_slot 20 rfl) (fun H locs hR => ?_)
        cases hF
        exact x_iret C hrt hR (dk DX10_slot 21 rfl)
      · have hF := if_t c13 hF
        refine lv_aload_n hx hb (dk DX10_slot 10 rfl) rfl (lv_at hl 0 rfl) ?_
        refine gX10_31 C hR ob0 rf0_4 (dk DX10_slot 11 rfl) ?_
        refine lv_iload_n hx hb (dk DX10_slot 12 rfl) rfl (lv_at hl 1 rfl) ?_
        refine lv_iload_n hx hb (dk DX10_slot 13 rfl) rfl (lv_at hl 2 rfl) ?_
        obtain ⟨xq12, mq10, hzq11, hF⟩ := bnd_ex hF
        refine r_callVi (As := [.int a1, .int a2]) (rest := []) C hR (C_Gr_outsOf l hl0 G a1 a2 mq4 _ _ hzq11) (by decide) (by decide) ob3 rfl wX10_160 rfl rfl (Nat.le_of_ble_eq_true rfl) hl.1 ⟨Nat.zero_le _, Nat.zero_le _⟩ (dk DX10_slot 14 rfl) (fun H locs hR => ?_)
        refine lv_goto (tgt := 37) hx hb (dk DX10_slot 15 rfl) (by decide) ?_
        cases hF
        exact x_iret C hrt hR (dk DX10_slot 21 rfl)
set_option maxHeartbeats 4000000 in
set_option maxRecDepth 100000 in
theorem C_Bk_longestRun (l : Launch) (hl0 : l.stackTraces = false) (G : GG) (a1 : Int32) (m0 : Mem) (v : Int32) (m' : Mem) (hF : F_Bk_longestRun a1 m0 = some (v, m')) : Ct l G mr0 N0 yX0_longestRun cX0_longestRun 5 (some .int) 3 [.ref (G.2.1 + 12), .int a1] m0 (some (.int v)) m' := by
  refine Ct_of hl0 (by decide) (Nat.le_of_ble_eq_true rfl) ?_
  intro p e s mid args below meth c ls C hrt hl hR
  have hx := C.1.1
  have hb := C.1.2.1
  have hl : lv_has ls 5 [(0, .ref (G.2.1 + 12)), (1, .int a1)] := hl
  unfold F_Bk_longestRun at hF
  refine lv_iconst (v := (0 : Int32)) hx hb (dk DX0_longestRun 0 rfl) (by decide) ?_
  refine lv_istore_n (lv' := [(2, .int (0 : Int32)), (0, .ref (G.2.1 + 12)), (1, .int a1)]) hx hb (dk DX0_longestRun 1 rfl) rfl hl (by decide) rfl (fun ls hl => ?_)
  refine lv_iconst (v := (0 : Int32)) hx hb (dk DX0_longestRun 2 rfl) (by decide) ?_
  refine lv_istore_n (lv' := [(3, .int (0 : Int32)), (2, .int (0 : Int32)), (0, .ref (G.2.1 + 12)), (1, .int a1)]) hx hb (dk DX0_longestRun 3 rfl) rfl hl (by decide) rfl (fun ls hl => ?_)
  refine lv_iconst (v := (0 : Int32)) hx hb (dk DX0_longestRun 4 rfl) (by decide) ?_
  refine lv_istore (lv' := [(4, .int (0 : Int32)), (3, .int (0 : Int32)), (2, .int (0 : Int32)), (0, .ref (G.2.1 + 12)), (1, .int a1)]) hx hb (dk DX0_longestRun 5 rfl) hl (by decide) rfl (fun ls hl => ?_)
  have L7 : ∀ (nf : Nat) (xq2 : Int32) (xq3 : Int32) (xq4 : Int32) (mq1 : Mem) (H : Heap) (locs : List Loc) (ls : Array Slot), lv_has ls 5 [(0, .ref (G.2.1 + 12)), (1, .int a1), (2, .int xq2), (3, .int xq3), (4, .int xq4)] → Rp G mr0 N0 mq1 s H locs → F_Bk_longestRun_L7 a1 nf xq2 xq3 xq4 mq1 = some (v, m') → W p l e (rmD 3) s mid args below meth c H locs 0 0 (MQ below (QR G mr0 N0 (some (.int v)) m') args s 0 0 (fun q => G.2.1 ≤ q)) (F0 mid 7 ls []) := by
    intro nf
    induction nf with
    | zero =>
      intro xq2 xq3 xq4 mq1 H locs ls hl hR hF
      rw [F_Bk_longestRun_L7] at hF
      cases hF
    | succ nf ihq6 =>
      intro xq2 xq3 xq4 mq1 H locs ls hl hR hF
      rw [F_Bk_longestRun_L7] at hF
      refine lv_iload hx hb (dk DX0_longestRun 6 rfl) (lv_at hl 4 rfl) ?_
      refine lv_aload_n hx hb (dk DX0_longestRun 7 rfl) rfl (lv_at hl 0 rfl) ?_
      refine gX0_9 C hR ob12 (dk DX0_longestRun 8 rfl) ?_
      refine lv_icmp_ge (tgt := 46) hx hb (dk DX0_longestRun 9 rfl) (by decide) (fun c13 => ?_) (fun c13 => ?_)
      · have hF := if_t c13 hF
        refine lv_iload_n hx hb (dk DX0_longestRun 27 rfl) rfl (lv_at hl 2 rfl) ?_
        cases hF
        exact r_iret C hrt hR (dk DX0_longestRun 28 rfl)
      · have hF := if_f c13 hF
        refine lv_aload_n hx hb (dk DX0_longestRun 10 rfl) rfl (lv_at hl 0 rfl) ?_
        refine lv_iload hx hb (dk DX0_longestRun 11 rfl) (lv_at hl 4 rfl) ?_
        refine lv_iload_n hx hb (dk DX0_longestRun 12 rfl) rfl (lv_at hl 1 rfl) ?_
        obtain ⟨zq9, mq7, hzq8, hF⟩ := bnd_ex hF
        refine r_callVi (As := [.int xq4, .int a1]) (rest := []) C hR (C_Bk_isSo l hl0 G xq4 a1 mq1 _ _ hzq8) (by decide) (by decide) ob12 rfl wX0_19 rfl rfl (Nat.le_of_ble_eq_true rfl) hl.1 ⟨Nat.zero_le _, Nat.zero_le _⟩ (dk DX0_longestRun 13 rfl) (fun H locs hR => ?_)
        obtain ⟨k33_11, ek33_11, hF⟩ := lt_ex hF
        have J33 : ∀ (xq11 : Int32) (mq10 : Mem) (H : Heap) (locs : List Loc) (ls : Array Slot), lv_has ls 5 [(0, .ref (G.2.1 + 12)), (1, .int a1), (2, .int xq2), (4, .int xq4)] → Rp G mr0 N0 mq10 s H locs → k33_11 xq11 mq10 = some (v, m') → W p l e (rmD 3) s mid args below meth c H locs 0 0 (MQ below (QR G mr0 N0 (some (.int v)) m') args s 0 0 (fun q => G.2.1 ≤ q)) (F0 mid 33 ls [.int xq11]) := by
          intro xq11 mq10 H locs ls hl hR hF
          rw [ek33_11] at hF
          refine lv_istore_n (lv' := [(3, .int xq11), (0, .ref (G.2.1 + 12)), (1, .int a1), (2, .int xq2), (4, .int xq4)]) hx hb (dk DX0_longestRun 20 rfl) rfl hl (by decide) rfl (fun ls hl => ?_)
          refine lv_iload_n hx hb (dk DX0_longestRun 21 rfl) rfl (lv_at hl 3 rfl) ?_
          refine lv_iload_n hx hb (dk DX0_longestRun 22 rfl) rfl (lv_at hl 0 rfl) ?_
          refine r_mxI C (gd q1597 rfl) (by decide) (Nat.le_of_ble_eq_true rfl) hl.1 ⟨Nat.zero_le _, Nat.zero_le _⟩ (dk DX0_longestRun 23 rfl) ?_
          refine lv_topi (fun xq12 exq12 => ?_)
          have hF := lt_at exq12 hF
          refine lv_istore_n (lv' := [(2, .int xq12), (3, .int xq11), (0, .ref (G.2.1 + 12)), (1, .int a1), (4, .int xq4)]) hx hb (dk DX0_longestRun 24 rfl) rfl hl (by decide) rfl (fun ls hl => ?_)
          obtain ⟨xq13, exq13, hF⟩ := lt_ex hF
          refine lv_iinc (v := xq13) (lv' := [(4, .int xq13), (2, .int xq12), (3, .int xq11), (0, .ref (G.2.1 + 12)), (1, .int a1)]) hx hb (dk DX0_longestRun 25 rfl) hl (k := 4) rfl (by rw [exq13]; rfl) (by decide) rfl (fun ls hl => ?_)
          refine lv_goto (tgt := 7) hx hb (dk DX0_longestRun 26 rfl) (by decide) ?_
          exact ihq6 xq12 xq11 xq13 mq10 _ _ ls (lv_sub hl [3, 4, 1, 2, 0] rfl) hR hF
        refine z_ifeq (tgt := 32) hx hb (dk DX0_longestRun 14 rfl) (by decide) (fun c23 => ?_) (fun c23 => ?_)
        · have hF := if_f c23 hF
          refine lv_iconst (v := (0 : Int32)) hx hb (dk DX0_longestRun 19 rfl) (by decide) ?_
          exact J33 (0 : Int32) mq7 _ _ ls (lv_sub hl [0, 1, 2, 4] rfl) hR hF
        · have hF := if_t c23 hF
          refine lv_iload_n hx hb (dk DX0_longestRun 15 rfl) rfl (lv_at hl 3 rfl) ?_
          refine lv_iconst (v := (1 : Int32)) hx hb (dk DX0_longestRun 16 rfl) (by decide) ?_
          refine lv_iadd hx hb (dk DX0_longestRun 17 rfl) ?_
          refine lv_goto (tgt := 33) hx hb (dk DX0_longestRun 18 rfl) (by decide) ?_
          exact J33 (xq3 + (1 : Int32)) mq7 _ _ ls (lv_sub hl [0, 1, 2, 4] rfl) hR hF
  exact L7 1000000 (0 : Int32) (0 : Int32) (0 : Int32) m0 _ _ ls (lv_sub hl [3, 4, 2, 1, 0] rfl) hR hF
set_option maxHeartbeats 4000000 in
set_option maxRecDepth 100000 in
theorem C_T_streak (l : Launch) (hl0 : l.stackTraces = false) (G : GG) (a1 : Int32) (m0 : Mem) (v : Nat ⊕ Int32) (m' : Mem) (hF : F_T_streak a1 m0 = some (v, m')) : CtX l G mr0 N0 yX10_streak cX10_streak 2 (some .int) 8 [.ref (G.2.1 + 0), .int a1] m0 (ouI v) m' := by
  refine CtX_of hl0 (by decide) (Nat.le_of_ble_eq_true rfl) ?_
  intro p e s mid args below meth c ls C hrt hex hl hR
  have hx := C.1.1
  have hb := C.1.2.1
  have hl : lv_has ls 2 [(0, .ref (G.2.1 + 0)), (1, .int a1)] := hl
  unfold F_T_streak at hF
  refine lv_iload_n hx hb (dk DX10_streak 0 rfl) rfl (lv_at hl 1 rfl) ?_
  obtain ⟨k9_1, ek9_1, hF⟩ := lt_ex hF
  have J9 : ∀ (mq1 : Mem) (H : Heap) (locs : List Loc) (ls : Array Slot), lv_has ls 2 [] → Rp G mr0 N0 mq1 s H locs → k9_1  mq1 = some (v, m') → W p l e (rmX 8 (ouI v)) s mid args below meth c H locs 0 0 (ZX below G mr0 N0 (ouI v) m' args s) (F0 mid 9 ls []) := by
    intro  mq1 H locs ls hl hR hF
    rw [ek9_1] at hF
    cases hF
    exact r_throw (d := 8) (k := 4) C hex hR tX10_186 strm_X10_184 (by decide) (Nat.le_of_ble_eq_true rfl) hl.1 (dk DX10_streak 5 rfl) (dk DX10_streak 6 rfl) (dk DX10_streak 7 rfl) (dk DX10_streak 8 rfl) (dk DX10_streak 9 rfl)
  refine lv_if_lt (tgt := 9) hx hb (dk DX10_streak 1 rfl) (by decide) (fun c1 => ?_) (fun c1 => ?_)
  · have hF := if_t c1 hF
    exact J9 m0 _ _ ls (lv_sub hl [] rfl) hR hF
  · have hF := if_f c1 hF
    refine lv_iload_n hx hb (dk DX10_streak 2 rfl) rfl (lv_at hl 1 rfl) ?_
    refine lv_iconst (v := (2 : Int32)) hx hb (dk DX10_streak 3 rfl) (by decide) ?_
    refine lv_icmp_le (tgt := 19) hx hb (dk DX10_streak 4 rfl) (by decide) (fun c6 => ?_) (fun c6 => ?_)
    · have hF := if_t c6 hF
      refine lv_aload_n hx hb (dk DX10_streak 10 rfl) rfl (lv_at hl 0 rfl) ?_
      refine gX10_31 C hR ob0 rf0_4 (dk DX10_streak 11 rfl) ?_
      refine gX10_96 C hR ob3 rf3_12 (dk DX10_streak 12 rfl) ?_
      refine lv_iload_n hx hb (dk DX10_streak 13 rfl) rfl (lv_at hl 1 rfl) ?_
      refine lv_iconst (v := (3 : Int32)) hx hb (dk DX10_streak 14 rfl) (by decide) ?_
      refine lv_iadd hx hb (dk DX10_streak 15 rfl) ?_
      obtain ⟨xq4, mq2, hzq3, hF⟩ := bnd_ex hF
      refine r_callVi (As := [.int (a1 + (3 : Int32))]) (rest := []) C hR (C_Bk_longestRun l hl0 G (a1 + (3 : Int32)) m0 _ _ hzq3) (by decide) (by decide) ob12 rfl wX10_383 rfl rfl (Nat.le_of_ble_eq_true rfl) hl.1 ⟨Nat.zero_le _, Nat.zero_le _⟩ (dk DX10_streak 16 rfl) (fun H locs hR => ?_)
      cases hF
      exact x_iret C hrt hR (dk DX10_streak 17 rfl)
    · have hF := if_f c6 hF
      exact J9 m0 _ _ ls (lv_sub hl [] rfl) hR hF
set_option maxHeartbeats 4000000 in
set_option maxRecDepth 100000 in
theorem C_Ma_copyFrom_4 (l : Launch) (hl0 : l.stackTraces = false) (G : GG) (m0 : Mem) (v : Unit) (m' : Mem) (hF : F_Ma_copyFrom_4 m0 = some (v, m')) : Ct l G mr0 N0 yX5_copyFrom cX5_copyFrom 3 none 1 [.ref (G.2.1 + 18), .ref (G.2.1 + 16)] m0 none m' := by
  refine Ct_of hl0 (by decide) (Nat.le_of_ble_eq_true rfl) ?_
  intro p e s mid args below meth c ls C hrt hl hR
  have hx := C.1.1
  have hb := C.1.2.1
  have hl : lv_has ls 3 [(0, .ref (G.2.1 + 18)), (1, .ref (G.2.1 + 16))] := hl
  unfold F_Ma_copyFrom_4 at hF
  refine lv_aload_n hx hb (dk DX5_copyFrom 0 rfl) rfl (lv_at hl 0 rfl) ?_
  refine lv_aload_n hx hb (dk DX5_copyFrom 1 rfl) rfl (lv_at hl 1 rfl) ?_
  refine gX5_9 C hR ob16 (dk DX5_copyFrom 2 rfl) ?_
  refine pX5_9 (x := gI m0 16 0) C hR ob18 (dk DX5_copyFrom 3 rfl) (fun H locs hR => ?_)
  obtain ⟨mq1, emq1, hF⟩ := lt_ex hF
  have hR := Rp_at emq1 hR
  refine lv_aload_n hx hb (dk DX5_copyFrom 4 rfl) rfl (lv_at hl 0 rfl) ?_
  refine lv_aload_n hx hb (dk DX5_copyFrom 5 rfl) rfl (lv_at hl 1 rfl) ?_
  refine gX5_15 C hR ob16 (dk DX5_copyFrom 6 rfl) ?_
  refine pX5_15 (x := gI mq1 16 1) C hR ob18 (dk DX5_copyFrom 7 rfl) (fun H locs hR => ?_)
  obtain ⟨mq2, emq2, hF⟩ := lt_ex hF
  have hR := Rp_at emq2 hR
  refine lv_aload_n hx hb (dk DX5_copyFrom 8 rfl) rfl (lv_at hl 0 rfl) ?_
  refine lv_aload_n hx hb (dk DX5_copyFrom 9 rfl) rfl (lv_at hl 1 rfl) ?_
  refine gX5_18 C hR ob16 (dk DX5_copyFrom 10 rfl) ?_
  refine pX5_18 (x := gI mq2 16 2) C hR ob18 (dk DX5_copyFrom 11 rfl) (fun H locs hR => ?_)
  obtain ⟨mq3, emq3, hF⟩ := lt_ex hF
  have hR := Rp_at emq3 hR
  refine lv_aload_n hx hb (dk DX5_copyFrom 12 rfl) rfl (lv_at hl 0 rfl) ?_
  refine lv_aload_n hx hb (dk DX5_copyFrom 13 rfl) rfl (lv_at hl 1 rfl) ?_
  refine gX5_21 C hR ob16 (dk DX5_copyFrom 14 rfl) ?_
  refine pX5_21 (x := gI mq3 16 3) C hR ob18 (dk DX5_copyFrom 15 rfl) (fun H locs hR => ?_)
  obtain ⟨mq4, emq4, hF⟩ := lt_ex hF
  have hR := Rp_at emq4 hR
  refine lv_aload_n hx hb (dk DX5_copyFrom 16 rfl) rfl (lv_at hl 0 rfl) ?_
  refine lv_aload_n hx hb (dk DX5_copyFrom 17 rfl) rfl (lv_at hl 1 rfl) ?_
  refine gX5_24 C hR ob16 (dk DX5_copyFrom 18 rfl) ?_
  refine pX5_24 (x := gI mq4 16 4) C hR ob18 (dk DX5_copyFrom 19 rfl) (fun H locs hR => ?_)
  obtain ⟨mq5, emq5, hF⟩ := lt_ex hF
  have hR := Rp_at emq5 hR
  refine lv_aload_n hx hb (dk DX5_copyFrom 20 rfl) rfl (lv_at hl 0 rfl) ?_
  refine lv_aload_n hx hb (dk DX5_copyFrom 21 rfl) rfl (lv_at hl 1 rfl) ?_
  refine gX5_27 C hR ob16 (dk DX5_copyFrom 22 rfl) ?_
  refine pX5_27 (x := gZ mq5 16 5) C hR ob18 (dk DX5_copyFrom 23 rfl) (fun H locs hR => ?_)
  obtain ⟨mq6, emq6, hF⟩ := lt_ex hF
  have hR := Rp_at emq6 hR
  refine lv_aload_n hx hb (dk DX5_copyFrom 24 rfl) rfl (lv_at hl 0 rfl) ?_
  refine lv_aload_n hx hb (dk DX5_copyFrom 25 rfl) rfl (lv_at hl 1 rfl) ?_
  refine gX5_31 C hR ob16 (dk DX5_copyFrom 26 rfl) ?_
  refine pX5_31 (x := gZ mq6 16 6) C hR ob18 (dk DX5_copyFrom 27 rfl) (fun H locs hR => ?_)
  obtain ⟨mq7, emq7, hF⟩ := lt_ex hF
  have hR := Rp_at emq7 hR
  refine lv_aload_n hx hb (dk DX5_copyFrom 28 rfl) rfl (lv_at hl 0 rfl) ?_
  refine lv_aload_n hx hb (dk DX5_copyFrom 29 rfl) rfl (lv_at hl 1 rfl) ?_
  refine gX5_34 C hR ob16 (dk DX5_copyFrom 30 rfl) ?_
  refine pX5_34 (x := gI mq7 16 7) C hR ob18 (dk DX5_copyFrom 31 rfl) (fun H locs hR => ?_)
  obtain ⟨mq8, emq8, hF⟩ := lt_ex hF
  have hR := Rp_at emq8 hR
  refine lv_aload_n hx hb (dk DX5_copyFrom 32 rfl) rfl (lv_at hl 0 rfl) ?_
  refine lv_aload_n hx hb (dk DX5_copyFrom 33 rfl) rfl (lv_at hl 1 rfl) ?_
  refine gX5_37 C hR ob16 (dk DX5_copyFrom 34 rfl) ?_
  refine pX5_37 (x := gI mq8 16 8) C hR ob18 (dk DX5_copyFrom 35 rfl) (fun H locs hR => ?_)
  obtain ⟨mq9, emq9, hF⟩ := lt_ex hF
  have hR := Rp_at emq9 hR
  refine lv_aload_n hx hb (dk DX5_copyFrom 36 rfl) rfl (lv_at hl 0 rfl) ?_
  refine lv_aload_n hx hb (dk DX5_copyFrom 37 rfl) rfl (lv_at hl 1 rfl) ?_
  refine gX5_40 C hR ob16 (dk DX5_copyFrom 38 rfl) ?_
  refine pX5_40 (x := gI mq9 16 9) C hR ob18 (dk DX5_copyFrom 39 rfl) (fun H locs hR => ?_)
  obtain ⟨mq10, emq10, hF⟩ := lt_ex hF
  have hR := Rp_at emq10 hR
  refine lv_iconst (v := (0 : Int32)) hx hb (dk DX5_copyFrom 40 rfl) (by decide) ?_
  refine lv_istore_n (lv' := [(2, .int (0 : Int32)), (0, .ref (G.2.1 + 18)), (1, .ref (G.2.1 + 16))]) hx hb (dk DX5_copyFrom 41 rfl) rfl hl (by decide) rfl (fun ls hl => ?_)
  have L82 : ∀ (nf : Nat) (xq12 : Int32) (mq11 : Mem) (H : Heap) (locs : List Loc) (ls : Array Slot), lv_has ls 3 [(0, .ref (G.2.1 + 18)), (1, .ref (G.2.1 + 16)), (2, .int xq12)] → Rp G mr0 N0 mq11 s H locs → F_Ma_copyFrom_4_L82 nf xq12 mq11 = some (v, m') → W p l e (rmD 1) s mid args below meth c H locs 0 0 (MQ below (QR G mr0 N0 none m') args s 0 0 (fun q => G.2.1 ≤ q)) (F0 mid 82 ls []) := by
    intro nf
    induction nf with
    | zero =>
      intro xq12 mq11 H locs ls hl hR hF
      rw [F_Ma_copyFrom_4_L82] at hF
      cases hF
    | succ nf ihq14 =>
      intro xq12 mq11 H locs ls hl hR hF
      rw [F_Ma_copyFrom_4_L82] at hF
      refine lv_iload_n hx hb (dk DX5_copyFrom 42 rfl) rfl (lv_at hl 2 rfl) ?_
      refine lv_bipush (v := (63 : Int32)) hx hb (dk DX5_copyFrom 43 rfl) (by decide) ?_
      refine lv_icmp_ge (tgt := 106) hx hb (dk DX5_copyFrom 44 rfl) (by decide) (fun c85 => ?_) (fun c85 => ?_)
      · have hF := if_t c85 hF
        cases hF
        exact r_vret C hrt hR (dk DX5_copyFrom 55 rfl)
      · have hF := if_f c85 hF
        refine lv_aload_n hx hb (dk DX5_copyFrom 45 rfl) rfl (lv_at hl 0 rfl) ?_
        refine gX5_43 C hR ob18 rf18_10 (dk DX5_copyFrom 46 rfl) ?_
        refine lv_iload_n hx hb (dk DX5_copyFrom 47 rfl) rfl (lv_at hl 2 rfl) ?_
        refine lv_aload_n hx hb (dk DX5_copyFrom 48 rfl) rfl (lv_at hl 1 rfl) ?_
        refine gX5_43 C hR ob16 rf16_10 (dk DX5_copyFrom 49 rfl) ?_
        refine lv_iload_n hx hb (dk DX5_copyFrom 50 rfl) rfl (lv_at hl 2 rfl) ?_
        obtain ⟨hq15, hF⟩ := ckB_ex hF
        refine r_iald C hR ob17 hq15 (dk DX5_copyFrom 51 rfl) ?_
        refine lv_topi (fun xq16 exq16 => ?_)
        have hF := lt_at exq16 hF
        obtain ⟨hq18, hF⟩ := ckB_ex hF
        refine r_iast C hR ob19 hq18 (dk DX5_copyFrom 52 rfl) (fun H locs hR => ?_)
        obtain ⟨mq17, emq17, hF⟩ := lt_ex hF
        have hR := Rp_at emq17 hR
        obtain ⟨xq19, exq19, hF⟩ := lt_ex hF
        refine lv_iinc (v := xq19) (lv' := [(2, .int xq19), (0, .ref (G.2.1 + 18)), (1, .ref (G.2.1 + 16))]) hx hb (dk DX5_copyFrom 53 rfl) hl (k := 2) rfl (by rw [exq19]; rfl) (by decide) rfl (fun ls hl => ?_)
        refine lv_goto (tgt := 82) hx hb (dk DX5_copyFrom 54 rfl) (by decide) ?_
        exact ihq14 xq19 mq17 _ _ ls (lv_sub hl [1, 2, 0] rfl) hR hF
  exact L82 1000000 (0 : Int32) mq10 _ _ ls (lv_sub hl [1, 2, 0] rfl) hR hF
set_option maxHeartbeats 4000000 in
set_option maxRecDepth 100000 in
theorem C_Ma_isOn_2 (l : Launch) (hl0 : l.stackTraces = false) (G : GG) (m0 : Mem) (v : Bool) (m' : Mem) (hF : F_Ma_isOn_2 m0 = some (v, m')) : Ct l G mr0 N0 yX5_isOn cX5_isOn 1 (some .boolean) 1 [.ref (G.2.1 + 18)] m0 (some (.int (b2i v))) m' := by
  refine Ct_of hl0 (by decide) (Nat.le_of_ble_eq_true rfl) ?_
  intro p e s mid args below meth c ls C hrt hl hR
  have hx := C.1.1
  have hb := C.1.2.1
  have hl : lv_has ls 1 [(0, .ref (G.2.1 + 18))] := hl
  unfold F_Ma_isOn_2 at hF
  refine lv_aload_n hx hb (dk DX5_isOn 0 rfl) rfl (lv_at hl 0 rfl) ?_
  refine gX5_9 C hR ob18 (dk DX5_isOn 1 rfl) ?_
  refine lv_iconst (v := (-1 : Int32)) hx hb (dk DX5_isOn 2 rfl) (by decide) ?_
  refine lv_icmp_eq (tgt := 20) hx hb (dk DX5_isOn 3 rfl) (by decide) (fun c5 => ?_) (fun c5 => ?_)
  · have hF := if_t c5 hF
    refine lv_iconst (v := (0 : Int32)) hx hb (dk DX5_isOn 10 rfl) (by decide) ?_
    cases hF
    exact r_zret C hrt hR (dk DX5_isOn 11 rfl)
  · have hF := if_f c5 hF
    refine lv_aload_n hx hb (dk DX5_isOn 4 rfl) rfl (lv_at hl 0 rfl) ?_
    refine gX5_24 C hR ob18 (dk DX5_isOn 5 rfl) ?_
    refine lv_iconst (v := (-1 : Int32)) hx hb (dk DX5_isOn 6 rfl) (by decide) ?_
    refine lv_icmp_ne (tgt := 20) hx hb (dk DX5_isOn 7 rfl) (by decide) (fun c13 => ?_) (fun c13 => ?_)
    · have hF := if_f c13 hF
      refine lv_iconst (v := (0 : Int32)) hx hb (dk DX5_isOn 10 rfl) (by decide) ?_
      cases hF
      exact r_zret C hrt hR (dk DX5_isOn 11 rfl)
    · have hF := if_t c13 hF
      refine lv_iconst (v := (1 : Int32)) hx hb (dk DX5_isOn 8 rfl) (by decide) ?_
      refine lv_goto (tgt := 21) hx hb (dk DX5_isOn 9 rfl) (by decide) ?_
      cases hF
      exact r_zret C hrt hR (dk DX5_isOn 11 rfl)
set_option maxHeartbeats 4000000 in
set_option maxRecDepth 100000 in
theorem C_Ma_kind_2 (l : Launch) (hl0 : l.stackTraces = false) (G : GG) (m0 : Mem) (v : Int32) (m' : Mem) (hF : F_Ma_kind_2 m0 = some (v, m')) : Ct l G mr0 N0 yX5_kind cX5_kind 1 (some .int) 2 [.ref (G.2.1 + 18)] m0 (some (.int v)) m' := by
  refine Ct_of hl0 (by decide) (Nat.le_of_ble_eq_true rfl) ?_
  intro p e s mid args below meth c ls C hrt hl hR
  have hx := C.1.1
  have hb := C.1.2.1
  have hl : lv_has ls 1 [(0, .ref (G.2.1 + 18))] := hl
  unfold F_Ma_kind_2 at hF
  refine lv_aload_n hx hb (dk DX5_kind 0 rfl) rfl (lv_at hl 0 rfl) ?_
  refine gX5_15 C hR ob18 (dk DX5_kind 1 rfl) ?_
  refine lv_aload_n hx hb (dk DX5_kind 2 rfl) rfl (lv_at hl 0 rfl) ?_
  refine gX5_27 C hR ob18 (dk DX5_kind 3 rfl) ?_
  obtain ⟨xq3, mq1, hzq2, hF⟩ := bnd_ex hF
  refine r_callSi (As := [.int (gI m0 18 1), .int (b2i (gZ m0 18 5))]) (rest := []) C hR (C_Od_kindOf l hl0 G (gI m0 18 1) (gZ m0 18 5) m0 _ _ hzq2) (by decide) (by decide) wX5_47 rfl rfl (Nat.le_of_ble_eq_true rfl) hl.1 ⟨Nat.zero_le _, Nat.zero_le _⟩ (dk DX5_kind 4 rfl) (fun H locs hR => ?_)
  cases hF
  exact r_iret C hrt hR (dk DX5_kind 5 rfl)
set_option maxHeartbeats 4000000 in
set_option maxRecDepth 100000 in
theorem C_Ma_batting_2 (l : Launch) (hl0 : l.stackTraces = false) (G : GG) (m0 : Mem) (v : Int32) (m' : Mem) (hF : F_Ma_batting_2 m0 = some (v, m')) : Ct l G mr0 N0 yX5_batting cX5_batting 1 (some .int) 3 [.ref (G.2.1 + 18)] m0 (some (.int v)) m' := by
  refine Ct_of hl0 (by decide) (Nat.le_of_ble_eq_true rfl) ?_
  intro p e s mid args below meth c ls C hrt hl hR
  have hx := C.1.1
  have hb := C.1.2.1
  have hl : lv_has ls 1 [(0, .ref (G.2.1 + 18))] := hl
  unfold F_Ma_batting_2 at hF
  refine lv_aload_n hx hb (dk DX5_batting 0 rfl) rfl (lv_at hl 0 rfl) ?_
  obtain ⟨xq3, mq1, hzq2, hF⟩ := bnd_ex hF
  refine r_callVi (As := []) (rest := []) C hR (C_Ma_kind_2 l hl0 G m0 _ _ hzq2) (by decide) (by decide) ob18 rfl wX5_53 rfl rfl (Nat.le_of_ble_eq_true rfl) hl.1 ⟨Nat.zero_le _, Nat.zero_le _⟩ (dk DX5_batting 1 rfl) (fun H locs hR => ?_)
  obtain ⟨zq6, mq4, hzq5, hF⟩ := bnd_ex hF
  refine r_callSi (As := [.int xq3]) (rest := []) C hR (C_Od_firstBats l hl0 G xq3 mq1 _ _ hzq5) (by decide) (by decide) wX5_57 rfl rfl (Nat.le_of_ble_eq_true rfl) hl.1 ⟨Nat.zero_le _, Nat.zero_le _⟩ (dk DX5_batting 2 rfl) (fun H locs hR => ?_)
  refine z_ifeq (tgt := 17) hx hb (dk DX5_batting 3 rfl) (by decide) (fun c7 => ?_) (fun c7 => ?_)
  · have hF := if_f c7 hF
    refine lv_iconst (v := (1 : Int32)) hx hb (dk DX5_batting 7 rfl) (by decide) ?_
    refine lv_aload_n hx hb (dk DX5_batting 8 rfl) rfl (lv_at hl 0 rfl) ?_
    refine gX5_9 C hR ob18 (dk DX5_batting 9 rfl) ?_
    refine lv_isub hx hb (dk DX5_batting 10 rfl) ?_
    cases hF
    exact r_iret C hrt hR (dk DX5_batting 11 rfl)
  · have hF := if_t c7 hF
    refine lv_aload_n hx hb (dk DX5_batting 4 rfl) rfl (lv_at hl 0 rfl) ?_
    refine gX5_9 C hR ob18 (dk DX5_batting 5 rfl) ?_
    refine lv_goto (tgt := 23) hx hb (dk DX5_batting 6 rfl) (by decide) ?_
    cases hF
    exact r_iret C hrt hR (dk DX5_batting 11 rfl)
set_option maxHeartbeats 4000000 in
set_option maxRecDepth 100000 in
theorem C_Ma_setLog_2 (l : Launch) (hl0 : l.stackTraces = false) (G : GG) (a1 : Int32) (a2 : Int32) (m0 : Mem) (v : Unit) (m' : Mem) (hF : F_Ma_setLog_2 a1 a2 m0 = some (v, m')) : Ct l G mr0 N0 yX5_setLog cX5_setLog 4 none 1 [.ref (G.2.1 + 18), .int a1, .int a2] m0 none m' := by
  refine Ct_of hl0 (by decide) (Nat.le_of_ble_eq_true rfl) ?_
  intro p e s mid args below meth c ls C hrt hl hR
  have hx := C.1.1
  have hb := C.1.2.1
  have hl : lv_has ls 4 [(0, .ref (G.2.1 + 18)), (1, .int a1), (2, .int a2)] := hl
  unfold F_Ma_setLog_2 at hF
  refine lv_aload_n hx hb (dk DX5_setLog 0 rfl) rfl (lv_at hl 0 rfl) ?_
  refine gX5_21 C hR ob18 (dk DX5_setLog 1 rfl) ?_
  refine lv_bipush (v := (7 : Int32)) hx hb (dk DX5_setLog 2 rfl) (by decide) ?_
  refine lv_imul hx hb (dk DX5_setLog 3 rfl) ?_
  refine lv_iload_n hx hb (dk DX5_setLog 4 rfl) rfl (lv_at hl 1 rfl) ?_
  refine lv_iadd hx hb (dk DX5_setLog 5 rfl) ?_
  refine lv_topi (fun xq1 exq1 => ?_)
  have hF := lt_at exq1 hF
  refine lv_istore_n (lv' := [(3, .int xq1), (0, .ref (G.2.1 + 18)), (1, .int a1), (2, .int a2)]) hx hb (dk DX5_setLog 6 rfl) rfl hl (by decide) rfl (fun ls hl => ?_)
  refine lv_iload_n hx hb (dk DX5_setLog 7 rfl) rfl (lv_at hl 0 rfl) ?_
  refine lv_if_lt (tgt := 27) hx hb (dk DX5_setLog 8 rfl) (by decide) (fun c11 => ?_) (fun c11 => ?_)
  · have hF := if_t c11 hF
    cases hF
    exact r_vret C hrt hR (dk DX5_setLog 17 rfl)
  · have hF := if_f c11 hF
    refine lv_iload_n hx hb (dk DX5_setLog 9 rfl) rfl (lv_at hl 0 rfl) ?_
    refine lv_bipush (v := (63 : Int32)) hx hb (dk DX5_setLog 10 rfl) (by decide) ?_
    refine lv_icmp_ge (tgt := 27) hx hb (dk DX5_setLog 11 rfl) (by decide) (fun c17 => ?_) (fun c17 => ?_)
    · have hF := if_t c17 hF
      cases hF
      exact r_vret C hrt hR (dk DX5_setLog 17 rfl)
    · have hF := if_f c17 hF
      refine lv_aload_n hx hb (dk DX5_setLog 12 rfl) rfl (lv_at hl 1 rfl) ?_
      refine gX5_43 C hR ob18 rf18_10 (dk DX5_setLog 13 rfl) ?_
      refine lv_iload_n hx hb (dk DX5_setLog 14 rfl) rfl (lv_at hl 0 rfl) ?_
      refine lv_iload_n hx hb (dk DX5_setLog 15 rfl) rfl (lv_at hl 3 rfl) ?_
      obtain ⟨hq3, hF⟩ := ckB_ex hF
      refine r_iast C hR ob19 hq3 (dk DX5_setLog 16 rfl) (fun H locs hR => ?_)
      obtain ⟨mq2, emq2, hF⟩ := lt_ex hF
      have hR := Rp_at emq2 hR
      cases hF
      exact r_vret C hrt hR (dk DX5_setLog 17 rfl)
set_option maxHeartbeats 4000000 in
set_option maxRecDepth 100000 in
theorem C_Ma_leadOf_2 (l : Launch) (hl0 : l.stackTraces = false) (G : GG) (a1 : Int32) (m0 : Mem) (v : Int32) (m' : Mem) (hF : F_Ma_leadOf_2 a1 m0 = some (v, m')) : Ct l G mr0 N0 yX5_leadOf cX5_leadOf 2 (some .int) 1 [.ref (G.2.1 + 18), .int a1] m0 (some (.int v)) m' := by
  refine Ct_of hl0 (by decide) (Nat.le_of_ble_eq_true rfl) ?_
  intro p e s mid args below meth c ls C hrt hl hR
  have hx := C.1.1
  have hb := C.1.2.1
  have hl : lv_has ls 2 [(0, .ref (G.2.1 + 18)), (1, .int a1)] := hl
  unfold F_Ma_leadOf_2 at hF
  refine lv_iload_n hx hb (dk DX5_leadOf 0 rfl) rfl (lv_at hl 1 rfl) ?_
  refine lv_if_ne (tgt := 16) hx hb (dk DX5_leadOf 1 rfl) (by decide) (fun c1 => ?_) (fun c1 => ?_)
  · have hF := if_f c1 hF
    refine lv_aload_n hx hb (dk DX5_leadOf 8 rfl) rfl (lv_at hl 0 rfl) ?_
    refine gX5_40 C hR ob18 (dk DX5_leadOf 9 rfl) ?_
    refine lv_aload_n hx hb (dk DX5_leadOf 10 rfl) rfl (lv_at hl 0 rfl) ?_
    refine gX5_37 C hR ob18 (dk DX5_leadOf 11 rfl) ?_
    refine lv_isub hx hb (dk DX5_leadOf 12 rfl) ?_
    cases hF
    exact r_iret C hrt hR (dk DX5_leadOf 13 rfl)
  · have hF := if_t c1 hF
    refine lv_aload_n hx hb (dk DX5_leadOf 2 rfl) rfl (lv_at hl 0 rfl) ?_
    refine gX5_37 C hR ob18 (dk DX5_leadOf 3 rfl) ?_
    refine lv_aload_n hx hb (dk DX5_leadOf 4 rfl) rfl (lv_at hl 0 rfl) ?_
    refine gX5_40 C hR ob18 (dk DX5_leadOf 5 rfl) ?_
    refine lv_isub hx hb (dk DX5_leadOf 6 rfl) ?_
    refine lv_goto (tgt := 25) hx hb (dk DX5_leadOf 7 rfl) (by decide) ?_
    cases hF
    exact r_iret C hrt hR (dk DX5_leadOf 13 rfl)
set_option maxHeartbeats 4000000 in
set_option maxRecDepth 100000 in
theorem C_Ma_judge_2 (l : Launch) (hl0 : l.stackTraces = false) (G : GG) (a1 : Int32) (m0 : Mem) (v : Unit) (m' : Mem) (hF : F_Ma_judge_2 a1 m0 = some (v, m')) : Ct l G mr0 N0 yX5_judge cX5_judge 3 none 4 [.ref (G.2.1 + 18), .int a1] m0 none m' := by
  refine Ct_of hl0 (by decide) (Nat.le_of_ble_eq_true rfl) ?_
  intro p e s mid args below meth c ls C hrt hl hR
  have hx := C.1.1
  have hb := C.1.2.1
  have hl : lv_has ls 3 [(0, .ref (G.2.1 + 18)), (1, .int a1)] := hl
  unfold F_Ma_judge_2 at hF
  refine lv_aload_n hx hb (dk DX5_judge 0 rfl) rfl (lv_at hl 0 rfl) ?_
  obtain ⟨xq3, mq1, hzq2, hF⟩ := bnd_ex hF
  refine r_callVi (As := []) (rest := []) C hR (C_Ma_batting_2 l hl0 G m0 _ _ hzq2) (by decide) (by decide) ob18 rfl wX5_70 rfl rfl (Nat.le_of_ble_eq_true rfl) hl.1 ⟨Nat.zero_le _, Nat.zero_le _⟩ (dk DX5_judge 1 rfl) (fun H locs hR => ?_)
  refine lv_istore_n (lv' := [(2, .int xq3), (0, .ref (G.2.1 + 18)), (1, .int a1)]) hx hb (dk DX5_judge 2 rfl) rfl hl (by decide) rfl (fun ls hl => ?_)
  refine lv_aload_n hx hb (dk DX5_judge 3 rfl) rfl (lv_at hl 1 rfl) ?_
  refine gX5_15 C hR ob18 (dk DX5_judge 4 rfl) ?_
  refine lv_iconst (v := (3 : Int32)) hx hb (dk DX5_judge 5 rfl) (by decide) ?_
  obtain ⟨k29_4, ek29_4, hF⟩ := lt_ex hF
  have J29 : ∀ (mq4 : Mem) (H : Heap) (locs : List Loc) (ls : Array Slot), lv_has ls 3 [(0, .ref (G.2.1 + 18)), (1, .int a1), (2, .int xq3)] → Rp G mr0 N0 mq4 s H locs → k29_4  mq4 = some (v, m') → W p l e (rmD 4) s mid args below meth c H locs 0 0 (MQ below (QR G mr0 N0 none m') args s 0 0 (fun q => G.2.1 ≤ q)) (F0 mid 29 ls []) := by
    intro  mq4 H locs ls hl hR hF
    rw [ek29_4] at hF
    refine lv_aload_n hx hb (dk DX5_judge 15 rfl) rfl (lv_at hl 0 rfl) ?_
    refine gX5_15 C hR ob18 (dk DX5_judge 16 rfl) ?_
    refine lv_iconst (v := (3 : Int32)) hx hb (dk DX5_judge 17 rfl) (by decide) ?_
    obtain ⟨k68_5, ek68_5, hF⟩ := lt_ex hF
    have J68 : ∀ (mq5 : Mem) (H : Heap) (locs : List Loc) (ls : Array Slot), lv_has ls 3 [(0, .ref (G.2.1 + 18)), (1, .int a1)] → Rp G mr0 N0 mq5 s H locs → k68_5  mq5 = some (v, m') → W p l e (rmD 4) s mid args below meth c H locs 0 0 (MQ below (QR G mr0 N0 none m') args s 0 0 (fun q => G.2.1 ≤ q)) (F0 mid 68 ls []) := by
      intro  mq5 H locs ls hl hR hF
      rw [ek68_5] at hF
      refine lv_aload_n hx hb (dk DX5_judge 35 rfl) rfl (lv_at hl 0 rfl) ?_
      refine gX5_21 C hR ob18 (dk DX5_judge 36 rfl) ?_
      refine lv_iload_n hx hb (dk DX5_judge 37 rfl) rfl (lv_at hl 1 rfl) ?_
      refine lv_icmp_lt (tgt := 81) hx hb (dk DX5_judge 38 rfl) (by decide) (fun c73 => ?_) (fun c73 => ?_)
      · have hF := if_t c73 hF
        cases hF
        exact r_vret C hrt hR (dk DX5_judge 42 rfl)
      · have hF := if_f c73 hF
        refine lv_aload_n hx hb (dk DX5_judge 39 rfl) rfl (lv_at hl 0 rfl) ?_
        refine lv_iconst (v := (2 : Int32)) hx hb (dk DX5_judge 40 rfl) (by decide) ?_
        refine pX5_24 (x := (2 : Int32)) C hR ob18 (dk DX5_judge 41 rfl) (fun H locs hR => ?_)
        obtain ⟨mq6, emq6, hF⟩ := lt_ex hF
        have hR := Rp_at emq6 hR
        cases hF
        exact r_vret C hrt hR (dk DX5_judge 42 rfl)
    refine lv_icmp_ne (tgt := 68) hx hb (dk DX5_judge 18 rfl) (by decide) (fun c34 => ?_) (fun c34 => ?_)
    · have hF := if_f c34 hF
      exact J68 mq4 _ _ ls (lv_sub hl [0, 1] rfl) hR hF
    · have hF := if_t c34 hF
      refine lv_aload_n hx hb (dk DX5_judge 19 rfl) rfl (lv_at hl 0 rfl) ?_
      refine gX5_18 C hR ob18 (dk DX5_judge 20 rfl) ?_
      refine lv_bipush (v := (10 : Int32)) hx hb (dk DX5_judge 21 rfl) (by decide) ?_
      refine lv_icmp_ne (tgt := 68) hx hb (dk DX5_judge 22 rfl) (by decide) (fun c43 => ?_) (fun c43 => ?_)
      · have hF := if_f c43 hF
        exact J68 mq4 _ _ ls (lv_sub hl [0, 1] rfl) hR hF
      · have hF := if_t c43 hF
        refine lv_aload_n hx hb (dk DX5_judge 23 rfl) rfl (lv_at hl 0 rfl) ?_
        refine lv_aload_n hx hb (dk DX5_judge 24 rfl) rfl (lv_at hl 0 rfl) ?_
        refine lv_iload_n hx hb (dk DX5_judge 25 rfl) rfl (lv_at hl 2 rfl) ?_
        obtain ⟨xq9, mq7, hzq8, hF⟩ := bnd_ex hF
        refine r_callVi (As := [.int xq3]) (rest := [.ref (G.2.1 + 18)]) C hR (C_Ma_leadOf_2 l hl0 G xq3 mq4 _ _ hzq8) (by decide) (by decide) ob18 rfl wX5_65 rfl rfl (Nat.le_of_ble_eq_true rfl) hl.1 ⟨Nat.zero_le _, Nat.zero_le _⟩ (dk DX5_judge 26 rfl) (fun H locs hR => ?_)
        obtain ⟨k62_11, ek62_11, hF⟩ := lt_ex hF
        have J62 : ∀ (xq11 : Int32) (mq10 : Mem) (H : Heap) (locs : List Loc) (ls : Array Slot), lv_has ls 3 [] → Rp G mr0 N0 mq10 s H locs → k62_11 xq11 mq10 = some (v, m') → W p l e (rmD 4) s mid args below meth c H locs 0 0 (MQ below (QR G mr0 N0 none m') args s 0 0 (fun q => G.2.1 ≤ q)) (F0 mid 62 ls [.int xq11, .ref (G.2.1 + 18)]) := by
          intro xq11 mq10 H locs ls hl hR hF
          rw [ek62_11] at hF
          refine pX5_24 (x := xq11) C hR ob18 (dk DX5_judge 33 rfl) (fun H locs hR => ?_)
          obtain ⟨mq12, emq12, hF⟩ := lt_ex hF
          have hR := Rp_at emq12 hR
          refine lv_goto (tgt := 81) hx hb (dk DX5_judge 34 rfl) (by decide) ?_
          cases hF
          exact r_vret C hrt hR (dk DX5_judge 42 rfl)
        refine lv_if_ne (tgt := 59) hx hb (dk DX5_judge 27 rfl) (by decide) (fun c52 => ?_) (fun c52 => ?_)
        · have hF := if_f c52 hF
          refine lv_iconst (v := (1 : Int32)) hx hb (dk DX5_judge 30 rfl) (by decide) ?_
          refine lv_iload_n hx hb (dk DX5_judge 31 rfl) rfl (lv_at hl 2 rfl) ?_
          refine lv_isub hx hb (dk DX5_judge 32 rfl) ?_
          exact J62 ((1 : Int32) - xq3) mq7 _ _ ls (lv_sub hl [] rfl) hR hF
        · have hF := if_t c52 hF
          refine lv_iconst (v := (2 : Int32)) hx hb (dk DX5_judge 28 rfl) (by decide) ?_
          refine lv_goto (tgt := 62) hx hb (dk DX5_judge 29 rfl) (by decide) ?_
          exact J62 (2 : Int32) mq7 _ _ ls (lv_sub hl [] rfl) hR hF
  refine lv_icmp_ne (tgt := 29) hx hb (dk DX5_judge 6 rfl) (by decide) (fun c10 => ?_) (fun c10 => ?_)
  · have hF := if_f c10 hF
    exact J29 mq1 _ _ ls (lv_sub hl [1, 2, 0] rfl) hR hF
  · have hF := if_t c10 hF
    refine lv_aload_n hx hb (dk DX5_judge 7 rfl) rfl (lv_at hl 1 rfl) ?_
    refine lv_iload_n hx hb (dk DX5_judge 8 rfl) rfl (lv_at hl 0 rfl) ?_
    obtain ⟨xq15, mq13, hzq14, hF⟩ := bnd_ex hF
    refine r_callVi (As := [.int xq3]) (rest := []) C hR (C_Ma_leadOf_2 l hl0 G xq3 mq1 _ _ hzq14) (by decide) (by decide) ob18 rfl wX5_65 rfl rfl (Nat.le_of_ble_eq_true rfl) hl.1 ⟨Nat.zero_le _, Nat.zero_le _⟩ (dk DX5_judge 9 rfl) (fun H locs hR => ?_)
    refine lv_if_le (tgt := 29) hx hb (dk DX5_judge 10 rfl) (by decide) (fun c18 => ?_) (fun c18 => ?_)
    · have hF := if_t c18 hF
      exact J29 mq13 _ _ ls (lv_sub hl [1, 2, 0] rfl) hR hF
    · have hF := if_f c18 hF
      refine lv_aload_n hx hb (dk DX5_judge 11 rfl) rfl (lv_at hl 1 rfl) ?_
      refine lv_iload_n hx hb (dk DX5_judge 12 rfl) rfl (lv_at hl 0 rfl) ?_
      refine pX5_24 (x := xq3) C hR ob18 (dk DX5_judge 13 rfl) (fun H locs hR => ?_)
      obtain ⟨mq16, emq16, hF⟩ := lt_ex hF
      have hR := Rp_at emq16 hR
      refine lv_goto (tgt := 81) hx hb (dk DX5_judge 14 rfl) (by decide) ?_
      cases hF
      exact r_vret C hrt hR (dk DX5_judge 42 rfl)
